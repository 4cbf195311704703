/-! ===== worlds: numbers, arrays and references by keys; a heap in which a window shows them ===== -/
abbrev wS : Type := (Nat → Int32) × (Nat → Nat → Int32) × (Nat → Int64) × (Nat → Nat → Int64) × (Nat → Value)
def wuS (w : wS) (k : Nat) (v : Int32) : wS := (fun i => if i = k then v else w.1 i, w.2)
def wuA (w : wS) (k : Nat) (f : Nat → Int32) : wS := (w.1, fun i => if i = k then f else w.2.1 i, w.2.2)
def wuL (w : wS) (k : Nat) (v : Int64) : wS := (w.1, w.2.1, fun i => if i = k then v else w.2.2.1 i, w.2.2.2)
def wuJ (w : wS) (k : Nat) (f : Nat → Int64) : wS := (w.1, w.2.1, w.2.2.1, fun i => if i = k then f else w.2.2.2.1 i, w.2.2.2.2)
def wuR (w : wS) (k : Nat) (v : Value) : wS := (w.1, w.2.1, w.2.2.1, w.2.2.2.1, fun i => if i = k then v else w.2.2.2.2 i)
/-- a cell of a window: an object (its class, its fields: 0 a number, 1 a cell of the window, 2 a reference, 3 a long), or an array (kind, length) -/
abbrev wD : Type := (Nat × List (Nat × Nat)) ⊕ (Nat × Nat)
def wF (b : Nat) (w : wS) (key : Nat) (fd : Nat × Nat) : Value := match fd.1 with
  | 0 => .int (w.1 key)
  | 1 => .ref (b + fd.2)
  | 2 => w.2.2.2.2 key
  | _ => .long (w.2.2.1 key)
def wFs (b : Nat) (w : wS) (c : Nat) (fds : List (Nat × Nat)) : List Value := fds.mapIdx (fun j fd => wF b w (100 * c + j) fd)
def wAr (w : wS) (kd c : Nat) : (Nat → Int32) ⊕ (Nat → Int64) ⊕ (Nat → UInt32) ⊕ (Nat → UInt64) ⊕ (Nat → Option Nat) := if kd = 1 then .inr (.inl (w.2.2.2.1 c)) else .inl (w.2.1 c)
def wC (b : Nat) (w : wS) (c : Nat) (d : wD) : aE := match d with
  | .inl o => some (.inr (o.1, wFs b w c o.2))
  | .inr a => some (.inl (a.1, a.2, wAr w a.1 c))
/-- alike but for the cell c -/
def wEq (w w' : wS) (c : Nat) : Prop := (∀ k, k / 100 ≠ c → w.1 k = w'.1 k) ∧ (∀ k, k ≠ c → w.2.1 k = w'.2.1 k) ∧ (∀ k, k / 100 ≠ c → w.2.2.1 k = w'.2.2.1 k) ∧ (∀ k, k ≠ c → w.2.2.2.1 k = w'.2.2.2.1 k) ∧ ∀ k, k / 100 ≠ c → w.2.2.2.2 k = w'.2.2.2.2 k
/-- Hf shows the window tb from the cell b on; its keys begin at κ -/
def Emb (Hf : wS → aH) (b κ : Nat) (tb : List wD) : Prop := 40 ≤ b ∧ (∀ (w : wS) (k : Nat) (d : wD), tb[k]? = some d → (Hf w)[b + k]? = some (wC b w (κ + k) d)) ∧ ∀ (w w' : wS) (k : Nat) (d : wD), tb[k]? = some d → wEq w w' (κ + k) → (Hf w).set (b + k) (wC b w' (κ + k) d) = Hf w'
theorem wuS_eq (w : wS) {k c : Nat} (hk : k / 100 = c) (v : Int32) : wEq w (wuS w k v) c := ⟨fun i hi => by
  show _ = if i = k then v else w.1 i
  rw [if_neg (by rintro rfl; exact hi hk)], fun _ _ => rfl, fun _ _ => rfl, fun _ _ => rfl, fun _ _ => rfl⟩
theorem wuL_eq (w : wS) {k c : Nat} (hk : k / 100 = c) (v : Int64) : wEq w (wuL w k v) c := ⟨fun _ _ => rfl, fun _ _ => rfl, fun i hi => by
  show _ = if i = k then v else w.2.2.1 i
  rw [if_neg (by rintro rfl; exact hi hk)], fun _ _ => rfl, fun _ _ => rfl⟩
theorem wuR_eq (w : wS) {k c : Nat} (hk : k / 100 = c) (v : Value) : wEq w (wuR w k v) c := ⟨fun _ _ => rfl, fun _ _ => rfl, fun _ _ => rfl, fun _ _ => rfl, fun i hi => by
  show _ = if i = k then v else w.2.2.2.2 i
  rw [if_neg (by rintro rfl; exact hi hk)]⟩
theorem wuA_eq (w : wS) (c : Nat) (f : Nat → Int32) : wEq w (wuA w c f) c := ⟨fun _ _ => rfl, fun i hi => by
  show _ = if i = c then f else w.2.1 i
  rw [if_neg hi], fun _ _ => rfl, fun _ _ => rfl, fun _ _ => rfl⟩
theorem wuJ_eq (w : wS) (c : Nat) (f : Nat → Int64) : wEq w (wuJ w c f) c := ⟨fun _ _ => rfl, fun _ _ => rfl, fun _ _ => rfl, fun i hi => by
  show _ = if i = c then f else w.2.2.2.1 i
  rw [if_neg hi], fun _ _ => rfl⟩
theorem wFs_get {b c j : Nat} {w : wS} {fds : List (Nat × Nat)} {fd : Nat × Nat} (h : fds[j]? = some fd) : (wFs b w c fds)[j]? = some (wF b w (100 * c + j) fd) := by
  simp [wFs, List.getElem?_mapIdx, h]
theorem wFs_len {b c : Nat} {w : wS} {fds : List (Nat × Nat)} : (wFs b w c fds).length = fds.length := by simp [wFs]
/-- a field written: the same fields of the world behind it -/
theorem wFs_set {b c j : Nat} {w w' : wS} {fds : List (Nat × Nat)} {fd : Nat × Nat} {v : Value} (hj : fds[j]? = some fd) (hv : wF b w' (100 * c + j) fd = v) (ho : ∀ i fd', i ≠ j → fds[i]? = some fd' → wF b w' (100 * c + i) fd' = wF b w (100 * c + i) fd') : (wFs b w c fds).set j v = wFs b w' c fds := by
  apply List.ext_getElem?
  intro i
  have hl : j < (wFs b w c fds).length := by rw [wFs_len]; exact (List.getElem?_eq_some_iff.mp hj).1
  by_cases hij : j = i
  · subst hij
    rw [List.getElem?_set_self hl, wFs_get hj, hv]
  · rw [List.getElem?_set_ne hij]
    cases hi : fds[i]? with
    | none => simp [wFs, List.getElem?_mapIdx, hi]
    | some fd' => rw [wFs_get hi, wFs_get hi, ho i fd' (fun q => hij q.symm) hi]
theorem wFs_S {b c j o : Nat} {w : wS} {fds : List (Nat × Nat)} {v : Int32} (hj : fds[j]? = some (0, o)) : (wFs b w c fds).set j (.int v) = wFs b (wuS w (100 * c + j) v) c fds := by
  refine wFs_set hj (by simp [wF, wuS]) (fun i fd hi h => ?_)
  have hne : 100 * c + i ≠ 100 * c + j := by omega
  unfold wF
  split <;> simp [wuS, hi]
theorem wFs_L {b c j o : Nat} {w : wS} {fds : List (Nat × Nat)} {v : Int64} (hj : fds[j]? = some (3, o)) : (wFs b w c fds).set j (.long v) = wFs b (wuL w (100 * c + j) v) c fds := by
  refine wFs_set hj (by simp [wF, wuL]) (fun i fd hi h => ?_)
  have hne : 100 * c + i ≠ 100 * c + j := by omega
  unfold wF
  split <;> simp [wuL, hi]
theorem wFs_R {b c j o : Nat} {w : wS} {fds : List (Nat × Nat)} {v : Value} (hj : fds[j]? = some (2, o)) : (wFs b w c fds).set j v = wFs b (wuR w (100 * c + j) v) c fds := by
  refine wFs_set hj (by simp [wF, wuR]) (fun i fd hi h => ?_)
  have hne : 100 * c + i ≠ 100 * c + j := by omega
  unfold wF
  split <;> simp [wuR, hi]
/-- an index within an array -/
def inB (i : Int32) (n : Nat) : Bool := !(decide (i < 0) || decide (n ≤ i.toNatClampNeg))
theorem inB_in {i : Int32} {n : Nat} (h : inB i n = true) : vp_in i n := by
  simp only [inB, Bool.not_eq_true', Bool.or_eq_false_iff, decide_eq_false_iff_not] at h
  rintro (q | q)
  · exact h.1 q
  · exact h.2 q
/-! the lifted steps: they end in none where the machine would throw -/
def xGet (w : wS) (k : Nat) : Option Int32 := some (w.1 k)
def xPut (w : wS) (k : Nat) (v : Int32) : Option wS := some (wuS w k v)
def xGetL (w : wS) (k : Nat) : Option Int64 := some (w.2.2.1 k)
def xPutL (w : wS) (k : Nat) (v : Int64) : Option wS := some (wuL w k v)
def xAld (w : wS) (c n : Nat) (i : Int32) : Option Int32 := if inB i n = true then some (w.2.1 c i.toNatClampNeg) else none
def xAst (w : wS) (c n : Nat) (i v : Int32) : Option wS := if inB i n = true then some (wuA w c (upd (w.2.1 c) i.toNatClampNeg v)) else none
def xAldJ (w : wS) (c n : Nat) (i : Int32) : Option Int64 := if inB i n = true then some (w.2.2.2.1 c i.toNatClampNeg) else none
def xAstJ (w : wS) (c n : Nat) (i : Int32) (v : Int64) : Option wS := if inB i n = true then some (wuJ w c (vp_updL (w.2.2.2.1 c) i.toNatClampNeg v)) else none
def xBool (v : Int32) : Option Int32 := if v = 0 ∨ v = 1 then some v else none
def xDiv (x y : Int32) : Option Int32 := if y = 0 then none else some (x / y)
def xRem (x y : Int32) : Option Int32 := if y = 0 then none else some (x - x / y * y)
def xB2 {α β γ : Type} (o : Option (α × β)) (k : α → β → Option γ) : Option γ := match o with
  | some (a, b) => k a b
  | none => none
def xB {α γ : Type} (o : Option α) (k : α → Option γ) : Option γ := match o with
  | some a => k a
  | none => none
theorem xB_some {α γ : Type} {o : Option α} {k : α → Option γ} {r : γ} (h : xB o k = some r) : ∃ a, o = some a ∧ k a = some r := by
  cases o with
  | none => cases h
  | some a => exact ⟨a, rfl, h⟩
theorem xB2_some {α β γ : Type} {o : Option (α × β)} {k : α → β → Option γ} {r : γ} (h : xB2 o k = some r) : ∃ a b, o = some (a, b) ∧ k a b = some r := by
  cases o with
  | none => cases h
  | some a => exact ⟨a.1, a.2, rfl, h⟩
section
variable {G : aG} {M : aM} {pc : Nat} {ls : List (Option Value)} {st : List Value} {R : aR} {Hf : wS → aH} {b κ c k : Nat} {tb : List wD} {w : wS} {γ : Type} {r : γ}
theorem s_getI {index j ci o : Nat} {fds : List (Nat × Nat)} {kk : Int32 → Option γ} (E : Emb Hf b κ tb) (hL : xB (xGet w (100 * (κ + k) + j)) kk = some r) (hk : tb[k]? = some (.inl (ci, fds))) (hj : fds[j]? = some (0, o)) (hf : aFld (mY M).cls index ci j) (hd : decode (mC M) pc = .ok (.getfield index, 3))
    (q : ∀ v, kk v = some r → AG G M (pc + 3) ls (.int v :: st) (Hf w) R) : AG G M pc ls (.ref (b + k) :: st) (Hf w) R :=
  g_get hf hd (by have := E.1; omega) (E.2.1 w k _ hk) (wFs_get hj) (q _ hL)
theorem s_getJ {index j ci o : Nat} {fds : List (Nat × Nat)} {kk : Int64 → Option γ} (E : Emb Hf b κ tb) (hL : xB (xGetL w (100 * (κ + k) + j)) kk = some r) (hk : tb[k]? = some (.inl (ci, fds))) (hj : fds[j]? = some (3, o)) (hf : aFld (mY M).cls index ci j) (hd : decode (mC M) pc = .ok (.getfield index, 3))
    (q : ∀ v, kk v = some r → AG G M (pc + 3) ls (.long v :: st) (Hf w) R) : AG G M pc ls (.ref (b + k) :: st) (Hf w) R :=
  g_get hf hd (by have := E.1; omega) (E.2.1 w k _ hk) (wFs_get hj) (q _ hL)
/-- a field that holds a cell of the window -/
theorem s_getR {index j ci o : Nat} {fds : List (Nat × Nat)} (E : Emb Hf b κ tb) (hk : tb[k]? = some (.inl (ci, fds))) (hj : fds[j]? = some (1, o)) (hf : aFld (mY M).cls index ci j) (hd : decode (mC M) pc = .ok (.getfield index, 3))
    (q : AG G M (pc + 3) ls (.ref (b + o) :: st) (Hf w) R) : AG G M pc ls (.ref (b + k) :: st) (Hf w) R :=
  g_get hf hd (by have := E.1; omega) (E.2.1 w k _ hk) (wFs_get hj) q
theorem s_putI {index j ci o : Nat} {fds : List (Nat × Nat)} {v : Int32} {kk : wS → Option γ} {ty : FieldType} (E : Emb Hf b κ tb) (hL : xB (xPut w (100 * (κ + k) + j) v) kk = some r) (hk : tb[k]? = some (.inl (ci, fds))) (hj : fds[j]? = some (0, o)) (h100 : j < 100) (hf : aFldW (mY M).cls index ci j ty) (hn : narrow ty (.int v) = .int v) (hfit : fits ty (.int v) = true) (hd : decode (mC M) pc = .ok (.putfield index, 3))
    (q : ∀ w', kk w' = some r → AG G M (pc + 3) ls st (Hf w') R) : AG G M pc ls (.int v :: .ref (b + k) :: st) (Hf w) R := by
  refine g_put hf hd (by have := E.1; omega) (E.2.1 w k _ hk) (by rw [wFs_len]; exact (List.getElem?_eq_some_iff.mp hj).1) hn hfit ?_
  have e := E.2.2 w (wuS w (100 * (κ + k) + j) v) k _ hk (wuS_eq w (by omega) v)
  rw [wFs_S hj]
  have e2 : (Hf w).set (b + k) (some (.inr (ci, wFs b (wuS w (100 * (κ + k) + j) v) (κ + k) fds))) = Hf (wuS w (100 * (κ + k) + j) v) := e
  rw [e2]
  exact q _ hL
theorem s_putJ {index j ci o : Nat} {fds : List (Nat × Nat)} {v : Int64} {kk : wS → Option γ} (E : Emb Hf b κ tb) (hL : xB (xPutL w (100 * (κ + k) + j) v) kk = some r) (hk : tb[k]? = some (.inl (ci, fds))) (hj : fds[j]? = some (3, o)) (h100 : j < 100) (hf : aFldW (mY M).cls index ci j .long) (hd : decode (mC M) pc = .ok (.putfield index, 3))
    (q : ∀ w', kk w' = some r → AG G M (pc + 3) ls st (Hf w') R) : AG G M pc ls (.long v :: .ref (b + k) :: st) (Hf w) R := by
  refine g_put hf hd (by have := E.1; omega) (E.2.1 w k _ hk) (by rw [wFs_len]; exact (List.getElem?_eq_some_iff.mp hj).1) rfl rfl ?_
  have e := E.2.2 w (wuL w (100 * (κ + k) + j) v) k _ hk (wuL_eq w (by omega) v)
  rw [wFs_L hj]
  have e2 : (Hf w).set (b + k) (some (.inr (ci, wFs b (wuL w (100 * (κ + k) + j) v) (κ + k) fds))) = Hf (wuL w (100 * (κ + k) + j) v) := e
  rw [e2]
  exact q _ hL
theorem xAld_some {w : wS} {c n : Nat} {i v : Int32} (h : xAld w c n i = some v) : inB i n = true ∧ v = w.2.1 c i.toNatClampNeg := by
  unfold xAld at h
  split at h
  · exact ⟨by assumption, (Option.some.inj h).symm⟩
  · cases h
theorem xAst_some {w w' : wS} {c n : Nat} {i v : Int32} (h : xAst w c n i v = some w') : inB i n = true ∧ w' = wuA w c (upd (w.2.1 c) i.toNatClampNeg v) := by
  unfold xAst at h
  split at h
  · exact ⟨by assumption, (Option.some.inj h).symm⟩
  · cases h
theorem xAldJ_some {w : wS} {c n : Nat} {i : Int32} {v : Int64} (h : xAldJ w c n i = some v) : inB i n = true ∧ v = w.2.2.2.1 c i.toNatClampNeg := by
  unfold xAldJ at h
  split at h
  · exact ⟨by assumption, (Option.some.inj h).symm⟩
  · cases h
theorem xAstJ_some {w w' : wS} {c n : Nat} {i : Int32} {v : Int64} (h : xAstJ w c n i v = some w') : inB i n = true ∧ w' = wuJ w c (vp_updL (w.2.2.2.1 c) i.toNatClampNeg v) := by
  unfold xAstJ at h
  split at h
  · exact ⟨by assumption, (Option.some.inj h).symm⟩
  · cases h
theorem s_iald {n : Nat} {i : Int32} {kk : Int32 → Option γ} (E : Emb Hf b κ tb) (hL : xB (xAld w (κ + k) n i) kk = some r) (hk : tb[k]? = some (.inr (0, n))) (hd : decode (mC M) pc = .ok (.iaload, 1))
    (q : ∀ v, kk v = some r → AG G M (pc + 1) ls (.int v :: st) (Hf w) R) : AG G M pc ls (.int i :: .ref (b + k) :: st) (Hf w) R := by
  obtain ⟨v, h1, h2⟩ := xB_some hL
  obtain ⟨h3, rfl⟩ := xAld_some h1
  exact g_iald hd (by have := E.1; omega) (E.2.1 w k _ hk) (inB_in h3) (q _ h2)
theorem s_bald {n : Nat} {i : Int32} {kk : Int32 → Option γ} (E : Emb Hf b κ tb) (hL : xB (xAld w (κ + k) n i) kk = some r) (hk : tb[k]? = some (.inr (2, n))) (hd : decode (mC M) pc = .ok (.baload, 1))
    (q : ∀ v, kk v = some r → AG G M (pc + 1) ls (.int v :: st) (Hf w) R) : AG G M pc ls (.int i :: .ref (b + k) :: st) (Hf w) R := by
  obtain ⟨v, h1, h2⟩ := xB_some hL
  obtain ⟨h3, rfl⟩ := xAld_some h1
  exact g_bald hd (by have := E.1; omega) (E.2.1 w k _ hk) (inB_in h3) (q _ h2)
theorem s_zald {n : Nat} {i : Int32} {kk : Int32 → Option γ} (E : Emb Hf b κ tb) (hL : xB (xAld w (κ + k) n i) kk = some r) (hk : tb[k]? = some (.inr (3, n))) (hd : decode (mC M) pc = .ok (.baload, 1))
    (q : ∀ v, kk v = some r → AG G M (pc + 1) ls (.int v :: st) (Hf w) R) : AG G M pc ls (.int i :: .ref (b + k) :: st) (Hf w) R := by
  obtain ⟨v, h1, h2⟩ := xB_some hL
  obtain ⟨h3, rfl⟩ := xAld_some h1
  exact g_zald hd (by have := E.1; omega) (E.2.1 w k _ hk) (inB_in h3) (q _ h2)
theorem s_lald {n : Nat} {i : Int32} {kk : Int64 → Option γ} (E : Emb Hf b κ tb) (hL : xB (xAldJ w (κ + k) n i) kk = some r) (hk : tb[k]? = some (.inr (1, n))) (hd : decode (mC M) pc = .ok (.laload, 1))
    (q : ∀ v, kk v = some r → AG G M (pc + 1) ls (.long v :: st) (Hf w) R) : AG G M pc ls (.int i :: .ref (b + k) :: st) (Hf w) R := by
  obtain ⟨v, h1, h2⟩ := xB_some hL
  obtain ⟨h3, rfl⟩ := xAldJ_some h1
  exact g_lald hd (by have := E.1; omega) (E.2.1 w k _ hk) (inB_in h3) (q _ h2)
theorem s_iast {n : Nat} {i v : Int32} {kk : wS → Option γ} (E : Emb Hf b κ tb) (hL : xB (xAst w (κ + k) n i v) kk = some r) (hk : tb[k]? = some (.inr (0, n))) (hd : decode (mC M) pc = .ok (.iastore, 1))
    (q : ∀ w', kk w' = some r → AG G M (pc + 1) ls st (Hf w') R) : AG G M pc ls (.int v :: .int i :: .ref (b + k) :: st) (Hf w) R := by
  obtain ⟨w', h1, h2⟩ := xB_some hL
  obtain ⟨h3, rfl⟩ := xAst_some h1
  refine g_iast hd (by have := E.1; omega) (E.2.1 w k _ hk) (inB_in h3) ?_
  have e := E.2.2 w (wuA w (κ + k) (upd (w.2.1 (κ + k)) i.toNatClampNeg v)) k _ hk (wuA_eq w _ _)
  have e2 : (Hf w).set (b + k) (some (.inl (0, n, .inl (upd (w.2.1 (κ + k)) i.toNatClampNeg v)))) = Hf (wuA w (κ + k) (upd (w.2.1 (κ + k)) i.toNatClampNeg v)) := by
    rw [← e]
    congr 1
    simp [wC, wAr, wuA]
  rw [e2]
  exact q _ h2
theorem s_bast {n : Nat} {i v : Int32} {kk : wS → Option γ} (E : Emb Hf b κ tb) (hL : xB (xAst w (κ + k) n i (vp_nar .byte v)) kk = some r) (hk : tb[k]? = some (.inr (2, n))) (hd : decode (mC M) pc = .ok (.bastore, 1))
    (q : ∀ w', kk w' = some r → AG G M (pc + 1) ls st (Hf w') R) : AG G M pc ls (.int v :: .int i :: .ref (b + k) :: st) (Hf w) R := by
  obtain ⟨w', h1, h2⟩ := xB_some hL
  obtain ⟨h3, rfl⟩ := xAst_some h1
  refine g_bast hd (by have := E.1; omega) (E.2.1 w k _ hk) (inB_in h3) ?_
  have e := E.2.2 w (wuA w (κ + k) (upd (w.2.1 (κ + k)) i.toNatClampNeg (vp_nar .byte v))) k _ hk (wuA_eq w _ _)
  have e2 : (Hf w).set (b + k) (some (.inl (2, n, .inl (upd (w.2.1 (κ + k)) i.toNatClampNeg (vp_nar .byte v))))) = Hf (wuA w (κ + k) (upd (w.2.1 (κ + k)) i.toNatClampNeg (vp_nar .byte v))) := by
    rw [← e]
    congr 1
    simp [wC, wAr, wuA]
  rw [e2]
  exact q _ h2
theorem s_zast {n : Nat} {i v : Int32} {kk : wS → Option γ} (E : Emb Hf b κ tb) (hL : xB (xAst w (κ + k) n i (vp_nar .boolean v)) kk = some r) (hk : tb[k]? = some (.inr (3, n))) (hd : decode (mC M) pc = .ok (.bastore, 1))
    (q : ∀ w', kk w' = some r → AG G M (pc + 1) ls st (Hf w') R) : AG G M pc ls (.int v :: .int i :: .ref (b + k) :: st) (Hf w) R := by
  obtain ⟨w', h1, h2⟩ := xB_some hL
  obtain ⟨h3, rfl⟩ := xAst_some h1
  refine g_zast hd (by have := E.1; omega) (E.2.1 w k _ hk) (inB_in h3) ?_
  have e := E.2.2 w (wuA w (κ + k) (upd (w.2.1 (κ + k)) i.toNatClampNeg (vp_nar .boolean v))) k _ hk (wuA_eq w _ _)
  have e2 : (Hf w).set (b + k) (some (.inl (3, n, .inl (upd (w.2.1 (κ + k)) i.toNatClampNeg (vp_nar .boolean v))))) = Hf (wuA w (κ + k) (upd (w.2.1 (κ + k)) i.toNatClampNeg (vp_nar .boolean v))) := by
    rw [← e]
    congr 1
    simp [wC, wAr, wuA]
  rw [e2]
  exact q _ h2
theorem s_last {n : Nat} {i : Int32} {v : Int64} {kk : wS → Option γ} (E : Emb Hf b κ tb) (hL : xB (xAstJ w (κ + k) n i v) kk = some r) (hk : tb[k]? = some (.inr (1, n))) (hd : decode (mC M) pc = .ok (.lastore, 1))
    (q : ∀ w', kk w' = some r → AG G M (pc + 1) ls st (Hf w') R) : AG G M pc ls (.long v :: .int i :: .ref (b + k) :: st) (Hf w) R := by
  obtain ⟨w', h1, h2⟩ := xB_some hL
  obtain ⟨h3, rfl⟩ := xAstJ_some h1
  refine g_last hd (by have := E.1; omega) (E.2.1 w k _ hk) (inB_in h3) ?_
  have e := E.2.2 w (wuJ w (κ + k) (vp_updL (w.2.2.2.1 (κ + k)) i.toNatClampNeg v)) k _ hk (wuJ_eq w _ _)
  have e2 : (Hf w).set (b + k) (some (.inl (1, n, .inr (.inl (vp_updL (w.2.2.2.1 (κ + k)) i.toNatClampNeg v))))) = Hf (wuJ w (κ + k) (vp_updL (w.2.2.2.1 (κ + k)) i.toNatClampNeg v)) := by
    rw [← e]
    congr 1
    simp [wC, wAr, wuJ]
  rw [e2]
  exact q _ h2
theorem s_idiv {x y : Int32} {h : aH} {kk : Int32 → Option γ} (hL : xB (xDiv x y) kk = some r) (hd : decode (mC M) pc = .ok (.idiv, 1)) (q : ∀ v, kk v = some r → AG G M (pc + 1) ls (.int v :: st) h R) : AG G M pc ls (.int y :: .int x :: st) h R := by
  obtain ⟨v, h1, h2⟩ := xB_some hL
  unfold xDiv at h1
  split at h1
  · cases h1
  · rename_i hne
    obtain rfl := Option.some.inj h1
    exact g_idiv hd hne (q _ h2)
theorem s_irem {x y : Int32} {h : aH} {kk : Int32 → Option γ} (hL : xB (xRem x y) kk = some r) (hd : decode (mC M) pc = .ok (.irem, 1)) (q : ∀ v, kk v = some r → AG G M (pc + 1) ls (.int v :: st) h R) : AG G M pc ls (.int y :: .int x :: st) h R := by
  obtain ⟨v, h1, h2⟩ := xB_some hL
  unfold xRem at h1
  split at h1
  · cases h1
  · rename_i hne
    obtain rfl := Option.some.inj h1
    exact g_irem hd hne (q _ h2)
theorem xBool_some {v v' : Int32} (h : xBool v = some v') : v' = v ∧ (v = 0 ∨ v = 1) := by
  unfold xBool at h
  split at h
  · exact ⟨(Option.some.inj h).symm, by assumption⟩
  · cases h
/-- a place of the locals forgotten -/
theorem g_none {h : aH} (i : Nat) (q : AG G M pc (ls.set i none) st h R) : AG G M pc ls st h R := ⟨q.1, fun p e RM s m args below meth c H locs lsA cells slots C hL hr hS h1 h2 => q.2 p e RM s m args below meth c H locs lsA cells slots C ⟨by rw [List.length_set]; exact hL.1, hL.2.1, hL.2.2.1, fun j v hj => by
  by_cases hij : i = j
  · subst hij
    by_cases hl : i < ls.length
    · rw [List.getElem?_set_self hl] at hj
      cases hj
    · rw [List.getElem?_eq_none (by rw [List.length_set]; omega)] at hj
      cases hj
  · rw [List.getElem?_set_ne hij] at hj
    exact hL.2.2.2 j v hj⟩ hr hS h1 h2⟩
end
