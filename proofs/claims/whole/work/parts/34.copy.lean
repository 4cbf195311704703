/-! ===== System.arraycopy of ints; a String constant ===== -/
section
variable {G : aG} {M : aM} {pc : Nat} {ls : List (Option Value)} {st : List Value} {h : aH} {R : aR}
theorem g_copy {index i0 i1 n0 n1 : Nat} {f g : Nat → Int32} {sp dp n : Int32} (hm1 : Cond.methodLink (mY M).cls index arraycopyName ∈ aW) (hm2 : Cond.native arraycopyName ∈ aW) (hm3 : Cond.static arraycopyName ∈ aW) (hm4 : Cond.initialized "java/lang/System" ∈ aW) (hi0 : 40 ≤ i0) (hi1 : 40 ≤ i1) (he0 : h[i0]? = some (some (.inl (0, n0, .inl f)))) (he1 : h[i1]? = some (some (.inl (0, n1, .inl g))))
    (h1 : ¬ sp < 0) (h2 : ¬ dp < 0) (h3 : ¬ n < 0) (h4 : sp.toNatClampNeg + n.toNatClampNeg ≤ n0) (h5 : dp.toNatClampNeg + n.toNatClampNeg ≤ n1) (hD : 2 ≤ mD M) (hst : aWd st ≤ 8) (hd : decode (mC M) pc = .ok (.invokestatic index, 3))
    (k : AG G M (pc + 3) ls st (h.set i1 (some (.inl (0, n1, .inl (va_cpy f g sp.toNatClampNeg dp.toNatClampNeg n.toNatClampNeg))))) R) : AG G M pc ls (.int n :: .int dp :: .ref i1 :: .int sp :: .ref i0 :: st) h R := by
  have hz : aSz (some (.inl (0, n1, .inl (va_cpy f g sp.toNatClampNeg dp.toNatClampNeg n.toNatClampNeg)))) = aSz (some (.inl (0, n1, .inl g))) := rfl
  refine ⟨aLe.set he1 hz k.1, fun p e RM s m args below meth c H locs lsA cells slots C hL hr hS g1 g2 => ?_⟩
  have hZ := C.2.2.2.2.2.2.2.2.2.2.2.1
  have hfr := C.2.2.2.2.2.2.2.2.2.1
  have hlo := C.2.2.2.2.2.2.2.2.2.2.1
  have hts := C.2.2.2.2.2.1
  have nn : ∀ z : Int32, ¬ z < 0 → z.toInt = (z.toNatClampNeg : Int) := by
    intro z hz
    have hz0 : (0 : Int) ≤ z.toInt := by
      have := Int32.not_lt.mp hz
      simpa using Int32.le_iff_toInt_le.mp this
    show z.toInt = ((z.toInt.toNat : Nat) : Int)
    omega
  have hsum : ((st.map (sv G)).map fun v => v.category).sum ≤ 8 := by rw [aWd_sv]; exact hst
  intro T hT X
  have hc0 : H[ad G i0]? = some (vp_cell (gC G 0) (n0, .inl f)) := hr.2.2 i0 _ hi0 he0
  have hc1 : H[ad G i1]? = some (vp_cell (gC G 0) (n1, .inl g)) := hr.2.2 i1 _ hi1 he1
  obtain ⟨-, k0, hk0, cm0, hkk0⟩ := (hZ.ty (k := 0) (by decide)).1 n0 (fun j => .int (f j))
  obtain ⟨-, k1, hk1, cm1, hkk1⟩ := (hZ.ty (k := 0) (by decide)).1 n1 (fun j => .int (g j))
  obtain ⟨vm', X', step⟩ := X.arraycopy C.1 C.2.2.2.2.1 (hts _ hm1) (hts _ hm2) (hts _ hm3) (hts _ hm4) (src := ad G i0) (dst := ad G i1) (cs := vp_cell (gC G 0) (n0, .inl f)) (cd := vp_cell (gC G 0) (n1, .inl g)) (srcPos := sp) (destPos := dp) (n := n) (by rw [hT]; exact hc0) (by rw [hT]; exact hc1)
    (fun _ h => by cases h) (fun _ h => by cases h) (fun h => by cases h) (fun h => by cases h) hk0 hk1 hkk0 hkk1 (by simp [aTy, refKind]) h1 h2 h3
    (by rw [nn sp h1, nn n h3]; show ¬ _ > ((arrV (gC G 0) n0 (fun j => .int (f j))).slots.size : Int); rw [arrV_size]; omega)
    (by rw [nn dp h2, nn n h3]; show ¬ _ > ((arrV (gC G 0) n1 (fun j => .int (g j))).slots.size : Int); rw [arrV_size]; omega)
    (fun vm₁ _ i hi => by
      have e : (vp_cell (gC G 0) (n0, .inl f)).slots.getD (sp.toNatClampNeg + i) .null = .int (f (sp.toNatClampNeg + i)) := by
        show (arrV (gC G 0) n0 (fun j => .int (f j))).slots.getD _ _ = _
        rw [Array.getD_eq_getD_getElem?, arrV_read _ _ (by omega)]
        rfl
      refine ⟨?_, ?_⟩
      · rw [e]
        rfl
      · rw [e]
        exact trivial)
    (g := F0 m pc lsA (.int n :: .int dp :: .ref (ad G i1) :: .int sp :: .ref (ad G i0) :: st.map (sv G))) rfl (hL.2.1.trans C.2.2.2.1.symm) (rest := st.map (sv G)) rfl (by rw [C.2.1]; exact hd) (by omega) (by
      show 2 * 0 + _ + _ ≤ _
      have : nativeFrameWords "java/lang/System" "arraycopy" 5 + 11 ≤ 100 := by decide +kernel
      omega)
  have e1 : copied (vp_cell (gC G 0) (n0, .inl f)) (vp_cell (gC G 0) (n1, .inl g)) sp dp n = vp_cell (gC G 0) (n1, .inl (va_cpy f g sp.toNatClampNeg dp.toNatClampNeg n.toNatClampNeg)) := va_copied (fun z => .int z) (gC G 0) (gC G 0) f g h4
  rw [e1] at X' step
  have hl : ad G i1 < H.size := (Array.getElem?_eq_some_iff.mp hc1).1
  obtain ⟨NC, hNC⟩ : ∃ z, z = vp_cell (gC G 0) (n1, .inl (va_cpy f g sp.toNatClampNeg dp.toNatClampNeg n.toNatClampNeg)) := ⟨_, rfl⟩
  rw [← hNC] at X' step
  have hheap : ((T.setVm vm').setCell (ad G i1) NC).heap = H.setIfInBounds (ad G i1) NC := by rw [← hT]; rfl
  have oq : ∀ q : Nat, q ≠ ad G i1 → (H.setIfInBounds (ad G i1) NC)[q]? = H[q]? := fun q hq => by simp [Array.getElem?_setIfInBounds, Ne.symm hq]
  rw [← aDc_set (h := h) (R := R) (i := i1) (e' := some (.inl (0, n1, .inl (va_cpy f g sp.toNatClampNeg dp.toNatClampNeg n.toNatClampNeg)))), ← aDs_set (R := R) he1 hz]
  rw [← aDc_set (h := h) (R := R) (i := i1) (e' := some (.inl (0, n1, .inl (va_cpy f g sp.toNatClampNeg dp.toNatClampNeg n.toNatClampNeg))))] at g1
  rw [← aDs_set (R := R) he1 hz] at g2
  obtain ⟨t, a1, b1⟩ := k.2 p e RM s m args below meth c _ _ lsA cells slots C hL (hr.set hi1 (by simp) oq (by
      show (H.setIfInBounds (ad G i1) NC)[ad G i1]? = some (vp_cell _ _)
      rw [hNC]
      simp [Array.getElem?_setIfInBounds, hl])) ⟨by simp; exact hS.1, fun q g1 g2 => by
      rw [oq q (fun e => g2 (by rw [e]; exact aA_ad hi1))]
      exact hS.2.1 q g1 g2, fun q hq => by
      rcases List.mem_append.mp hq with h | h
      · exact hS.2.2 q h
      · obtain ⟨z, -, hz⟩ := List.mem_map.mp h
        rw [← hz]
        exact aA_ad hi1⟩ g1 g2 _ hheap X'
  exact ⟨t, step t a1, b1⟩
theorem g_ldcS {index k : Nat} {text : String} (hG : aGood G) (hk : k < 39) (hs : aStr[k]? = some ((mY M).cls, index, text)) (hd : decode (mC M) pc = .ok (.ldc index, 2)) (q : AG G M (pc + 2) ls (.ref (k + 1) :: st) h R) : AG G M pc ls st h R := by
  refine ⟨q.1, fun p e RM s m args below meth c H locs lsA cells slots C hL hr hS h1 h2 => ?_⟩
  obtain ⟨o1, o2, o3, o4⟩ := hG.2 _ _ C.2.2.2.2.2.2.2.2.2.2.2.1.2.2.2
  have kk := q.2 p e RM s m args below meth c H locs lsA cells slots C hL hr hS h1 h2
  have e : ad G (k + 1) = gO G (k + 1) := if_pos (by omega)
  rw [List.map_cons, show sv G (.ref (k + 1)) = .ref (gO G (k + 1)) from congrArg Value.ref e] at kk
  exact va_ldcS C.1 C.2.1 C.2.2.2.2.1 (o4 k _ hs) hd kk
end
