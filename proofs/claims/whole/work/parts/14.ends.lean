/-! ===== rules of AG: a method's beginning and its ends ===== -/
def aEntL (as : List Value) : List (Option Value) := as.flatMap fun v => if v.category = 2 then [some v, none] else [some v]
def aEnt (as : List Value) (n : Nat) : List (Option Value) := aEntL as ++ List.replicate (n - (aEntL as).length) none
theorem aEntL_len (G : aG) (as : List Value) : (lg_sl (as.map (sv G))).length = (aEntL as).length := by
  induction as with
  | nil => rfl
  | cons v t ih =>
    simp only [lg_sl, aEntL, List.map_cons, List.flatMap_cons, List.length_append, sv_cat] at ih ⊢
    rw [ih]
    split <;> rfl
theorem aEntL_mem (G : aG) (as : List Value) : ∀ (k i : Nat) (v : Value), (aEntL as)[i]? = some (some v) → (k + i, sv G v) ∈ lv_args k (as.map (sv G)) := by
  induction as with
  | nil => intro k i v h; simp [aEntL] at h
  | cons w t ih =>
    intro k i v h
    simp only [List.map_cons, lv_args, sv_cat]
    have hsp : aEntL (w :: t) = (if w.category = 2 then [some w, none] else [some w]) ++ aEntL t := rfl
    rw [hsp] at h
    by_cases hc : w.category = 2
    · rw [if_pos hc] at h ⊢
      match i, h with
      | 0, h =>
        simp at h
        rw [h]
        exact List.mem_cons_self
      | 1, h => simp at h
      | i + 2, h =>
        have h2 : (aEntL t)[i]? = some (some v) := by simpa using h
        have := ih (k + 2) i v h2
        rw [show k + (i + 2) = k + 2 + i by omega]
        exact List.mem_cons_of_mem _ this
    · rw [if_neg hc] at h ⊢
      match i, h with
      | 0, h =>
        simp at h
        rw [h]
        exact List.mem_cons_self
      | i + 1, h =>
        have h2 : (aEntL t)[i]? = some (some v) := by simpa using h
        have := ih (k + 1) i v h2
        rw [show k + (i + 1) = k + 1 + i by omega]
        exact List.mem_cons_of_mem _ this
theorem aEnt_L (G : aG) (as : List Value) {n : Nat} (hn : (aEntL as).length ≤ n) : aL G n (aEnt as n) ((lg_sl (as.map (sv G)) ++ List.replicate (n - (lg_sl (as.map (sv G))).length) Slot.unset).toArray) := by
  have hl := lv_entry (as.map (sv G)) (n := n) (by rw [aEntL_len]; exact hn)
  refine ⟨by simp [aEnt]; omega, hl.1, hl.2.1, fun i v hi => ?_⟩
  unfold aEnt at hi
  by_cases h9 : i < (aEntL as).length
  · rw [List.getElem?_append_left h9] at hi
    have := hl.2.2 _ (aEntL_mem G as 0 i v hi)
    rw [Nat.zero_add] at this
    exact this
  · rw [List.getElem?_append_right (by omega), List.getElem?_replicate] at hi
    split at hi <;> simp at hi
theorem AC.of {G : aG} {M : aM} {as : List Value} {h : aH} {R : aR} (hp : plainName (mY M).cls = true) (hH : mH M = []) (hn : (aEntL as).length ≤ mN M) (k : AG G M 0 (aEnt as (mN M)) [] h R) : AC G M as h R := by
  refine ⟨k.1, vx_ofW (cc := mC M) (maxL := mN M) (ret := mR M) (ws' := aW) hp rfl ?_⟩
  intro p e s m args below meth c s₁ B hml htab hv
  obtain ⟨rfl, hZ, hr⟩ := hv
  have hts := atoms_spec (ws := aWs M) B.pre
  rw [lg_entry_eq]
  have kk := k.2 p e (headSpec (aWs M) (aRm M h R)).room s m (as.map (sv G)).toArray below meth c s.heap [] _ 0 0
    ⟨B.exec, B.bytes, B.returns, hml, findClass_of_methodNamed B.named, fun w hw => hts w (List.mem_cons_of_mem _ hw), B.notSynchronized, (name_of_methodNamed B.named B.method).1, (by
      rw [hH]
      exact List.eq_nil_iff_forall_not_mem.mpr (fun x hx => htab x hx)), Nat.le_refl _, Nat.le_refl _, hZ, hr.base⟩ (aEnt_L G as hn) hr va_S.rf (by rw [Nat.zero_add]; exact Nat.le_refl _) (by rw [Nat.zero_add]; exact Nat.le_refl _)
  rw [Nat.zero_add, Nat.zero_add] at kk
  exact kk
section
variable {G : aG} {M : aM} {pc : Nat} {ls : List (Option Value)} {st : List Value} {h : aH} {R : aR}
theorem aDc_0 {v : Option Value ⊕ String} : aDc h (v, h) = 0 := Nat.sub_self _
theorem aDs_0 {v : Option Value ⊕ String} : aDs h (v, h) = 0 := Nat.sub_self _
theorem g_iret {v : Int32} (hr : mR M = some .int) (hd : decode (mC M) pc = .ok (.ireturn, 1)) : AG G M pc ls [.int v] h (.inl (some (.int v)), h) := by
  refine ⟨aLe.rf, fun p e RM s m args below meth c H locs lsA cells slots C hL hrl hS h1 h2 => ?_⟩
  rw [aDc_0, aDs_0]
  exact vx_ret (W.iret C.1 C.2.1 (C.2.2.1.trans hr) (fun t ht _ => ⟨rfl, by rw [ht]; exact hrl, hS.F ht⟩) hS.2.2 hd C.2.2.2.2.2.2.1)
theorem g_zret {v : Int32} {ty : FieldType} (hr : mR M = some ty) (hn : narrow ty (.int v) = .int v) (hd : decode (mC M) pc = .ok (.ireturn, 1)) : AG G M pc ls [.int v] h (.inl (some (.int v)), h) := by
  refine ⟨aLe.rf, fun p e RM s m args below meth c H locs lsA cells slots C hL hrl hS h1 h2 => ?_⟩
  rw [aDc_0, aDs_0]
  exact vx_ret (W.zret C.1 C.2.1 (C.2.2.1.trans hr) hn (fun t ht _ => ⟨rfl, by rw [ht]; exact hrl, hS.F ht⟩) hS.2.2 hd C.2.2.2.2.2.2.1)
theorem g_lret {v : Int64} (hr : mR M = some .long) (hd : decode (mC M) pc = .ok (.lreturn, 1)) : AG G M pc ls [.long v] h (.inl (some (.long v)), h) := by
  refine ⟨aLe.rf, fun p e RM s m args below meth c H locs lsA cells slots C hL hrl hS h1 h2 => ?_⟩
  rw [aDc_0, aDs_0]
  exact vx_ret (W.lret C.1 C.2.1 (C.2.2.1.trans hr) (fun t ht _ => ⟨rfl, by rw [ht]; exact hrl, hS.F ht⟩) hS.2.2 hd C.2.2.2.2.2.2.1)
theorem g_vret (hr : mR M = none) (hd : decode (mC M) pc = .ok (.return_, 1)) : AG G M pc ls [] h (.inl none, h) := by
  refine ⟨aLe.rf, fun p e RM s m args below meth c H locs lsA cells slots C hL hrl hS h1 h2 => ?_⟩
  rw [aDc_0, aDs_0]
  exact vx_ret (W.vret C.1 C.2.1 (C.2.2.1.trans hr) (fun t ht _ => ⟨rfl, by rw [ht]; exact hrl, hS.F ht⟩) hS.2.2 hd C.2.2.2.2.2.2.1)
theorem g_aret {v : Value} {rt : FieldType} (hr : mR M = some rt) (hrt : (∃ n, rt = .object n) ∨ ∃ t, rt = .array t) (hv : v = .null ∨ ∃ a, v = .ref a) (hd : decode (mC M) pc = .ok (.areturn, 1)) : AG G M pc ls [v] h (.inl (some v), h) := by
  refine ⟨aLe.rf, fun p e RM s m args below meth c H locs lsA cells slots C hL hrl hS h1 h2 => ?_⟩
  rw [aDc_0, aDs_0]
  refine vx_ret (W.aret (v := sv G v) C.1 C.2.1 (C.2.2.1.trans hr) hrt ?_ (fun t ht _ => ⟨rfl, by rw [ht]; exact hrl, hS.F ht⟩) hS.2.2 hd C.2.2.2.2.2.2.1)
  rcases hv with rfl | ⟨a, rfl⟩
  · exact Or.inl rfl
  · exact Or.inr ⟨_, rfl⟩
def aWd (st : List Value) : Nat := (st.map fun v => v.category).sum
theorem aWd_sv (G : aG) (st : List Value) : ((st.map (sv G)).map fun v => v.category).sum = aWd st := by
  unfold aWd
  rw [List.map_map]
  congr 1
  exact List.map_congr_left (fun v _ => sv_cat G v)
theorem g_objInit {index i : Nat} (hm1 : Cond.methodLink (mY M).cls index Lib.objectInit ∈ aW) (hm2 : Cond.instanceMethod Lib.objectInit ∈ aW) (hm3 : Cond.code Lib.objectInit ⟨#[0xb1]⟩ 1 none ∈ aW) (hD : 1 ≤ mD M) (hst : aWd st ≤ 8) (hd : decode (mC M) pc = .ok (.invokespecial index, 3)) (k : AG G M (pc + 3) ls st h R) : AG G M pc ls (.ref i :: st) h R := by
  refine ⟨k.1, fun p e RM s m args below meth c H locs lsA cells slots C hL hr hS h1 h2 => ?_⟩
  have hfr := C.2.2.2.2.2.2.2.2.2.1
  have hlo := C.2.2.2.2.2.2.2.2.2.2.1
  refine W.objInit C.1 C.2.1 C.2.2.2.2.1 (C.2.2.2.2.2.1 _ hm1) (C.2.2.2.2.2.1 _ hm2) (C.2.2.2.2.2.1 _ hm3) rfl (hL.2.1.trans C.2.2.2.1.symm) (rest := st.map (sv G)) rfl hd (by omega) ?_ (k.2 p e RM s m args below meth c H locs lsA cells slots C hL hr hS h1 h2)
  rw [aWd_sv]
  show 2 * 0 + _ + 12 ≤ _
  omega
end
