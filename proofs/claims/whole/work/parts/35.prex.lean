def tbX : List wD := [.inl (9, [(1, 1), (1, 12), (1, 21), (1, 30), (1, 48), (1, 49), (1, 50), (1, 51), (1, 52), (2, 0), (0, 0), (0, 0)]), .inl (2, [(1, 2), (0, 0), (0, 0), (1, 4), (0, 0), (0, 0), (0, 0), (2, 0)]), .inl (7, [(1, 3), (0, 0), (0, 0), (0, 0), (0, 0), (0, 0)]), .inr (2, 700), .inr (0, 700), .inl (8, [(1, 6), (1, 7), (1, 8), (1, 9), (1, 10), (1, 11), (0, 0), (0, 0), (0, 0), (2, 0), (2, 0)]), .inr (0, 8), .inr (0, 8), .inr (0, 8), .inr (0, 8), .inr (0, 6), .inr (0, 6), .inl (6, [(1, 13), (1, 15), (1, 17)]), .inl (5, [(1, 14)]), .inr (0, 33), .inl (0, [(1, 16), (0, 0), (0, 0)]), .inr (0, 1320), .inl (4, [(1, 18), (1, 19), (1, 20), (0, 0)]), .inr (0, 8), .inr (0, 8), .inr (0, 8), .inl (6, [(1, 22), (1, 24), (1, 26)]), .inl (5, [(1, 23)]), .inr (0, 33), .inl (0, [(1, 25), (0, 0), (0, 0)]), .inr (0, 1320), .inl (4, [(1, 27), (1, 28), (1, 29), (0, 0)]), .inr (0, 8), .inr (0, 8), .inr (0, 8), .inl (1, [(1, 31), (1, 33), (1, 34), (1, 35), (1, 36), (1, 37), (1, 38), (1, 39), (0, 0), (1, 40), (2, 0), (0, 0)]), .inl (5, [(1, 32)]), .inr (0, 33), .inr (0, 8), .inr (0, 8), .inr (0, 8), .inr (0, 8), .inr (0, 6), .inr (0, 6), .inr (0, 6), .inr (0, 7), .inl (8, [(1, 42), (1, 43), (1, 44), (1, 45), (1, 46), (1, 47), (0, 0), (0, 0), (0, 0), (2, 0), (2, 0)]), .inr (0, 8), .inr (0, 8), .inr (0, 8), .inr (0, 8), .inr (0, 6), .inr (0, 6), .inr (0, 3), .inr (0, 697), .inr (0, 256), .inr (0, 8), .inr (1, 12)]
def tbT : List wD := [.inl (8, [(1, 1), (1, 2), (1, 3), (1, 4), (1, 5), (1, 6), (0, 0), (0, 0), (0, 0), (2, 0), (2, 0)]), .inr (0, 8), .inr (0, 8), .inr (0, 8), .inr (0, 8), .inr (0, 6), .inr (0, 6)]
/-! ===== the class's worlds: the window of the object, the town's block, its rules ===== -/
abbrev wO : Type := Nat × Nat × Nat × Nat × Nat
abbrev oT (o : wO) : Nat := o.1
abbrev oR (o : wO) : Nat := o.2.1
abbrev oRn (o : wO) : Nat := o.2.2.1
abbrev oS (o : wO) : Nat := o.2.2.2.1
abbrev oSn (o : wO) : Nat := o.2.2.2.2
def tbR (n : Nat) : List wD := [.inl (3, [(1, 1), (1, 2)]), .inr (0, n), .inr (0, 64)]
def EX (Hf : wS → aH) (bx : Nat) (o : wO) : Prop := Emb Hf bx 0 tbX ∧ Emb Hf (oT o) 1000 tbT ∧ (oR o + 0 ≠ 0 → Emb Hf (oR o) 2000 (tbR (oRn o))) ∧ (oS o + 0 ≠ 0 → Emb Hf (oS o) 3000 (tbR (oSn o)))
def xN (h : aH) (r : Option String) : aR := match r with
  | none => (.inl none, h)
  | some E => (.inr E, h ++ [none])
def xRv (Hf : wS → aH) (r : (Int32 ⊕ String) × wS) : aR := match r.1 with
  | .inl v => (.inl (some (.int v)), Hf r.2)
  | .inr E => (.inr E, Hf r.2 ++ [none])
def xBT {γ : Type} (o : Option (Option String)) (kx : String → Option γ) (k : Option γ) : Option γ := match o with
  | none => none
  | some none => k
  | some (some E) => kx E
theorem xBT_some {γ : Type} {o : Option (Option String)} {kx : String → Option γ} {k : Option γ} {r : γ} (h : xBT o kx k = some r) : (o = some none ∧ k = some r) ∨ ∃ E, o = some (some E) ∧ kx E = some r := by
  match o, h with
  | some none, h => exact Or.inl ⟨rfl, h⟩
  | some (some E), h => exact Or.inr ⟨E, rfl, h⟩
def xRef (w : wS) (k a : Nat) : Bool := decide (w.2.2.2.2 k = .ref a)
def xIf {γ : Type} (c : Bool) (k : Option γ) : Option γ := if c = true then k else none
def xNu {γ : Type} (w : wS) (k a : Nat) (kn kr : Option γ) : Option γ := if w.2.2.2.2 k = .null then kn else if w.2.2.2.2 k = .ref a ∧ a ≠ 0 then kr else none
def xPutR (w : wS) (k : Nat) (v : Value) : Option wS := some (wuR w k v)
def xCpy (w : wS) (c0 c1 n0 n1 : Nat) (sp dp n : Int32) : Option wS := if ¬ sp < 0 ∧ ¬ dp < 0 ∧ ¬ n < 0 ∧ sp.toNatClampNeg + n.toNatClampNeg ≤ n0 ∧ dp.toNatClampNeg + n.toNatClampNeg ≤ n1 then some (wuA w c1 (va_cpy (w.2.1 c0) (w.2.1 c1) sp.toNatClampNeg dp.toNatClampNeg n.toNatClampNeg)) else none
theorem fits_bool {v : Int32} (h : v = 0 ∨ v = 1) : fits .boolean (.int v) = true := by
  rcases h with rfl | rfl <;> decide
section
variable {G : aG} {M : aM} {pc : Nat} {ls : List (Option Value)} {st : List Value} {R : aR} {Hf : wS → aH} {b κ c k : Nat} {tb : List wD} {w : wS} {γ : Type} {r : γ}
theorem s_getT {index j ci o a : Nat} {fds : List (Nat × Nat)} {kk : Option γ} (E : Emb Hf b κ tb) (hL : xIf (xRef w (100 * (κ + k) + j) a) kk = some r) (hk : tb[k]? = some (.inl (ci, fds))) (hj : fds[j]? = some (2, o)) (hf : aFld (mY M).cls index ci j) (hd : decode (mC M) pc = .ok (.getfield index, 3))
    (q : kk = some r → AG G M (pc + 3) ls (.ref a :: st) (Hf w) R) : AG G M pc ls (.ref (b + k) :: st) (Hf w) R := by
  unfold xIf at hL
  split at hL
  · rename_i hc
    have hv : w.2.2.2.2 (100 * (κ + k) + j) = .ref a := of_decide_eq_true hc
    refine g_get hf hd (by have := E.1; omega) (E.2.1 w k _ hk) (wFs_get hj) ?_
    show AG G M (pc + 3) ls (w.2.2.2.2 (100 * (κ + k) + j) :: st) (Hf w) R
    rw [hv]
    exact q hL
  · cases hL
theorem s_getN {index j ci o a : Nat} {fds : List (Nat × Nat)} {kn kr : Option γ} (E : Emb Hf b κ tb) (hL : xNu w (100 * (κ + k) + j) a kn kr = some r) (hk : tb[k]? = some (.inl (ci, fds))) (hj : fds[j]? = some (2, o)) (hf : aFld (mY M).cls index ci j) (hd : decode (mC M) pc = .ok (.getfield index, 3))
    (q : kn = some r → AG G M (pc + 3) ls (.null :: st) (Hf w) R) (q2 : a ≠ 0 → kr = some r → AG G M (pc + 3) ls (.ref a :: st) (Hf w) R) : AG G M pc ls (.ref (b + k) :: st) (Hf w) R := by
  unfold xNu at hL
  refine g_get hf hd (by have := E.1; omega) (E.2.1 w k _ hk) (wFs_get hj) ?_
  show AG G M (pc + 3) ls (w.2.2.2.2 (100 * (κ + k) + j) :: st) (Hf w) R
  split at hL
  · rename_i hc
    rw [hc]
    exact q hL
  · split at hL
    · rename_i hc
      rw [hc.1]
      exact q2 hc.2 hL
    · cases hL
theorem s_putR {index j ci o : Nat} {fds : List (Nat × Nat)} {v : Value} {kk : wS → Option γ} {ty : FieldType} (E : Emb Hf b κ tb) (hL : xB (xPutR w (100 * (κ + k) + j) v) kk = some r) (hk : tb[k]? = some (.inl (ci, fds))) (hj : fds[j]? = some (2, o)) (h100 : j < 100) (hf : aFldW (mY M).cls index ci j ty) (hn : narrow ty (sv G v) = sv G v) (hfit : fits ty (sv G v) = true) (hd : decode (mC M) pc = .ok (.putfield index, 3))
    (q : ∀ w', kk w' = some r → AG G M (pc + 3) ls st (Hf w') R) : AG G M pc ls (v :: .ref (b + k) :: st) (Hf w) R := by
  refine g_put hf hd (by have := E.1; omega) (E.2.1 w k _ hk) (by rw [wFs_len]; exact (List.getElem?_eq_some_iff.mp hj).1) hn hfit ?_
  have e := E.2.2 w (wuR w (100 * (κ + k) + j) v) k _ hk (wuR_eq w (by omega) v)
  rw [wFs_R hj]
  have e2 : (Hf w).set (b + k) (some (.inr (ci, wFs b (wuR w (100 * (κ + k) + j) v) (κ + k) fds))) = Hf (wuR w (100 * (κ + k) + j) v) := e
  rw [e2]
  exact q _ hL
theorem s_copy {b1 κ1 k0 k1 : Nat} {tb1 : List wD} {index n0 n1 : Nat} {sp dp n : Int32} {kk : wS → Option γ} (E0 : Emb Hf b κ tb) (E1 : Emb Hf b1 κ1 tb1) (hL : xB (xCpy w (κ + k0) (κ1 + k1) n0 n1 sp dp n) kk = some r) (hk0 : tb[k0]? = some (.inr (0, n0))) (hk1 : tb1[k1]? = some (.inr (0, n1)))
    (hm1 : Cond.methodLink (mY M).cls index arraycopyName ∈ aW) (hm2 : Cond.native arraycopyName ∈ aW) (hm3 : Cond.static arraycopyName ∈ aW) (hm4 : Cond.initialized "java/lang/System" ∈ aW) (hD : 2 ≤ mD M) (hst : aWd st ≤ 8) (hd : decode (mC M) pc = .ok (.invokestatic index, 3))
    (q : ∀ w', kk w' = some r → AG G M (pc + 3) ls st (Hf w') R) : AG G M pc ls (.int n :: .int dp :: .ref (b1 + k1) :: .int sp :: .ref (b + k0) :: st) (Hf w) R := by
  obtain ⟨w', h1, h2⟩ := xB_some hL
  unfold xCpy at h1
  split at h1
  · rename_i hc
    obtain rfl := Option.some.inj h1
    refine g_copy hm1 hm2 hm3 hm4 (by have := E0.1; omega) (by have := E1.1; omega) (E0.2.1 w k0 _ hk0) (E1.2.1 w k1 _ hk1) hc.1 hc.2.1 hc.2.2.1 hc.2.2.2.1 hc.2.2.2.2 hD hst hd ?_
    have e := E1.2.2 w (wuA w (κ1 + k1) (va_cpy (w.2.1 (κ + k0)) (w.2.1 (κ1 + k1)) sp.toNatClampNeg dp.toNatClampNeg n.toNatClampNeg)) k1 _ hk1 (wuA_eq w _ _)
    have e2 : (Hf w).set (b1 + k1) (some (.inl (0, n1, .inl (va_cpy (w.2.1 (κ + k0)) (w.2.1 (κ1 + k1)) sp.toNatClampNeg dp.toNatClampNeg n.toNatClampNeg)))) = Hf (wuA w (κ1 + k1) (va_cpy (w.2.1 (κ + k0)) (w.2.1 (κ1 + k1)) sp.toNatClampNeg dp.toNatClampNeg n.toNatClampNeg)) := by
      rw [← e]
      congr 1
      simp [wC, wAr, wuA]
    rw [e2]
    exact q _ h2
  · cases h1
end
theorem ac_nat : Cond.native arraycopyName ∈ aW := aIn1 452 (by decide +kernel) rfl
theorem ac_sta : Cond.static arraycopyName ∈ aW := aIn1 451 (by decide +kernel) rfl
theorem ac_ini : Cond.initialized "java/lang/System" ∈ aW := aIn1 116 (by decide +kernel) rfl
/-! ===== Math.max, min, abs ===== -/
abbrev xMax (x y : Int32) : Int32 := if x < y then y else x
abbrev xMin (x y : Int32) : Int32 := if y < x then y else x
abbrev xAbs (x : Int32) : Int32 := if 0 ≤ x then x else 0 - x
section
variable {G : aG} {M : aM} {pc : Nat} {ls : List (Option Value)} {st : List Value} {h : aH} {R : aR}
theorem g_mmax {index : Nat} {x y : Int32} (hl : Cond.methodLink (mY M).cls index Lib.Math.max.name ∈ aW) (h1 : Cond.static Lib.Math.max.name ∈ aW) (h2 : Cond.initialized "java/lang/Math" ∈ aW) (h3 : Cond.code Lib.Math.max.name Lib.Math.max.code 2 (some .int) ∈ aW) (hD : 1 ≤ mD M) (hst : aWd st ≤ 8) (hd : decode (mC M) pc = .ok (.invokestatic index, 3)) (k : AG G M (pc + 3) ls (.int (xMax x y) :: st) h R) : AG G M pc ls (.int y :: .int x :: st) h R :=
  ⟨k.1, fun p e RM s m args below meth c H locs lsA cells slots C hL hr hS g1 g2 => va_mmax C.1 C.2.1 (C.2.2.2.1.trans hL.2.1.symm) C.2.2.2.2.1 (C.2.2.2.2.2.1 _ hl) (C.2.2.2.2.2.1 _ h1) (C.2.2.2.2.2.1 _ h2) (C.2.2.2.2.2.1 _ h3) (by have := C.2.2.2.2.2.2.2.2.2.1; omega) (by rw [aWd_sv]; have := C.2.2.2.2.2.2.2.2.2.2.1; omega) (by omega) (by omega) hd (k.2 p e RM s m args below meth c H locs lsA cells slots C hL hr hS g1 g2)⟩
theorem g_mmin {index : Nat} {x y : Int32} (hl : Cond.methodLink (mY M).cls index Lib.Math.min.name ∈ aW) (h1 : Cond.static Lib.Math.min.name ∈ aW) (h2 : Cond.initialized "java/lang/Math" ∈ aW) (h3 : Cond.code Lib.Math.min.name Lib.Math.min.code 2 (some .int) ∈ aW) (hD : 1 ≤ mD M) (hst : aWd st ≤ 8) (hd : decode (mC M) pc = .ok (.invokestatic index, 3)) (k : AG G M (pc + 3) ls (.int (xMin x y) :: st) h R) : AG G M pc ls (.int y :: .int x :: st) h R :=
  ⟨k.1, fun p e RM s m args below meth c H locs lsA cells slots C hL hr hS g1 g2 => va_mmin C.1 C.2.1 (C.2.2.2.1.trans hL.2.1.symm) C.2.2.2.2.1 (C.2.2.2.2.2.1 _ hl) (C.2.2.2.2.2.1 _ h1) (C.2.2.2.2.2.1 _ h2) (C.2.2.2.2.2.1 _ h3) (by have := C.2.2.2.2.2.2.2.2.2.1; omega) (by rw [aWd_sv]; have := C.2.2.2.2.2.2.2.2.2.2.1; omega) (by omega) (by omega) hd (k.2 p e RM s m args below meth c H locs lsA cells slots C hL hr hS g1 g2)⟩
theorem g_mabs {index : Nat} {x : Int32} (hl : Cond.methodLink (mY M).cls index Lib.Math.abs.name ∈ aW) (h1 : Cond.static Lib.Math.abs.name ∈ aW) (h2 : Cond.initialized "java/lang/Math" ∈ aW) (h3 : Cond.code Lib.Math.abs.name Lib.Math.abs.code 1 (some .int) ∈ aW) (hD : 1 ≤ mD M) (hst : aWd st ≤ 8) (hd : decode (mC M) pc = .ok (.invokestatic index, 3)) (k : AG G M (pc + 3) ls (.int (xAbs x) :: st) h R) : AG G M pc ls (.int x :: st) h R :=
  ⟨k.1, fun p e RM s m args below meth c H locs lsA cells slots C hL hr hS g1 g2 => va_mabs C.1 C.2.1 (C.2.2.2.1.trans hL.2.1.symm) C.2.2.2.2.1 (C.2.2.2.2.2.1 _ hl) (C.2.2.2.2.2.1 _ h1) (C.2.2.2.2.2.1 _ h2) (C.2.2.2.2.2.1 _ h3) (by have := C.2.2.2.2.2.2.2.2.2.1; omega) (by rw [aWd_sv]; have := C.2.2.2.2.2.2.2.2.2.2.1; omega) (by omega) (by omega) hd (k.2 p e RM s m args below meth c H locs lsA cells slots C hL hr hS g1 g2)⟩
end
theorem mmax_1 : Cond.static Lib.Math.max.name ∈ aW := aIn1 527 (by decide +kernel) rfl
theorem mmax_2 : Cond.initialized "java/lang/Math" ∈ aW := aIn1 109 (by decide +kernel) rfl
theorem mmax_3 : Cond.code Lib.Math.max.name Lib.Math.max.code 2 (some .int) ∈ aW := aIn1 528 (by decide +kernel) rfl
theorem mmin_1 : Cond.static Lib.Math.min.name ∈ aW := aIn1 524 (by decide +kernel) rfl
theorem mmin_2 : Cond.initialized "java/lang/Math" ∈ aW := aIn1 109 (by decide +kernel) rfl
theorem mmin_3 : Cond.code Lib.Math.min.name Lib.Math.min.code 2 (some .int) ∈ aW := aIn1 525 (by decide +kernel) rfl
theorem mabs_1 : Cond.static Lib.Math.abs.name ∈ aW := aIn1 511 (by decide +kernel) rfl
theorem mabs_2 : Cond.initialized "java/lang/Math" ∈ aW := aIn1 109 (by decide +kernel) rfl
theorem mabs_3 : Cond.code Lib.Math.abs.name Lib.Math.abs.code 1 (some .int) ∈ aW := aIn1 512 (by decide +kernel) rfl
