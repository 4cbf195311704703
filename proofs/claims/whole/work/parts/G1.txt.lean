section
/-! ===== the texts of the law ===== -/
theorem AC.old {G : aG} {M : aM} {as as1 : List Value} {h : aH} {v : Int32} (H : ∀ s : State, aZ G s → gB G ≤ s.heap.size → ∃ (gO' : Nat → Nat) (gZ' : State → Heap → Prop), aCl (gL G, gD G, gC G, s.heap.size, gO', gZ') ∧ gZ' s s.heap ∧ as1.map (sv (gL G, gD G, gC G, s.heap.size, gO', gZ')) = as.map (sv G) ∧ AC (gL G, gD G, gC G, s.heap.size, gO', gZ') M as1 (List.replicate 40 none) (.inl (some (.int v)), List.replicate 40 none)) : AC G M as h (.inl (some (.int v)), h) := by
  refine ⟨aLe.rf, ?_⟩
  intro p e h1 h2 h3 s m args below h4 h5 h6 h7
  obtain ⟨ea, hZ, hr⟩ := h6
  obtain ⟨gO', gZ', c1, c2, c3, hc⟩ := H s hZ hr.base
  have e1 : aRm M h (.inl (some (.int v)), h) = aRm M (List.replicate 40 none) (.inl (some (.int v)), List.replicate 40 none) := by
    unfold aRm
    rw [aDc_0, aDs_0, aDc_0, aDs_0]
  rw [e1] at h5
  have hP : aPc (gL G, gD G, gC G, s.heap.size, gO', gZ') as1 (List.replicate 40 none) args s := ⟨by rw [ea, c3], ⟨hZ.1, hZ.2.1, c1, c2⟩, by rw [List.length_replicate]; exact Nat.le_refl 40, by rw [List.length_replicate], fun i e9 hi he => by
    rw [List.getElem?_eq_none (by rw [List.length_replicate]; exact hi)] at he
    cases he⟩
  obtain ⟨n, o, a1, a2, a3, a4⟩ := hc.2 p e h1 h2 h3 s m args below h4 h5 hP h7
  refine ⟨n, o, a1, a2, a3, ?_⟩
  rcases a4 with ⟨⟨q1, q2, q3⟩, L, q4, q5⟩ | ⟨q, -, E, ce, L, hx, -⟩
  · have hsz : (stepsAlone p.tables e n s).heap.size = s.heap.size := by
      have q := q2.2.1
      rw [List.length_replicate] at q
      exact Nat.add_right_cancel q
    have hs : (stepsAlone p.tables e n s).heap = s.heap := Array.ext_getElem? fun i => by
      by_cases hi : i < s.heap.size
      · exact q3.2 i hi (fun q => Nat.not_le.mpr hi q)
      · rw [Array.getElem?_eq_none (by omega), Array.getElem?_eq_none (by omega)]
    rw [aDc_0, aDs_0] at q4
    refine Or.inl ⟨⟨q1, ?_, ?_⟩, L, ?_, fun q hq => Nat.le_trans hr.base (q5 q hq)⟩
    · show aRel G h _
      rw [hs]
      exact hr
    · exact ⟨by rw [hs]; exact Nat.le_refl _, fun q _ _ => by rw [hs]⟩
    · rw [aDc_0, aDs_0]
      exact q4
  · exact absurd hx (fun z => z)
theorem aChr_len : aChr.length = 26 := by decide +kernel
theorem chr_ok : ∀ k, k < 26 → ∀ n, n < (aChr.getD k []).length → (((aChr.getD k []).getD n 0 &&& 255).toUInt32 % 65536).toInt32 = (aChr.getD k []).getD n 0 ∧ (aChr.getD k []).length < 100 := by decide +kernel
theorem chr_nar : ∀ k, k < 26 → ∀ n, n < (aChr.getD k []).length → narrow .char (.int ((aChr.getD k []).getD n 0)) = .int ((aChr.getD k []).getD n 0) := by decide +kernel
def aT26 (G : aG) : Prop := ∀ (U : State) (H : Heap), gZ G U H → ∀ (k : Nat) (l : List Int32), aChr[k]? = some l → ∃ (aV : Nat) (fm : Value), (fm = .null ∨ ∃ a, fm = .ref a) ∧ aTx (aA G) (gO G (k + 1)) aV fm l U H
theorem aT26.go {G : aG} (hT : aT26 G) {k : Nat} {l : List Int32} (hk : aChr[k]? = some l) (s : State) (hZ : aZ G s) (hB : gB G ≤ s.heap.size) : ∃ (gO' : Nat → Nat) (gZ' : State → Heap → Prop) (fv : Value), aCl (gL G, gD G, gC G, s.heap.size, gO', gZ') ∧ gZ' s s.heap ∧ sv (gL G, gD G, gC G, s.heap.size, gO', gZ') (.ref 1) = sv G (.ref (k + 1)) ∧ aS1 (gL G, gD G, gC G, s.heap.size, gO', gZ') l fv := by
  have hk26 : k < 26 := by
    have := (List.getElem?_eq_some_iff.mp hk).1
    rw [aChr_len] at this
    exact this
  obtain ⟨aV, fm, hfm, tx⟩ := hT s s.heap hZ.2.2.2 k l hk
  have ead : ad G (k + 1) = gO G (k + 1) := if_pos (by omega)
  have key : ∀ (fa : Nat) (fv : Value), (fv = .null ∨ fv = .ref 28) → sv (gL G, gD G, gC G, s.heap.size, (fun i => if i ≤ 26 then gO G (k + 1) else if i = 27 then aV else fa), fun U H => aTx (fun q => s.heap.size ≤ q) (gO G (k + 1)) aV fm l U H) fv = fm → ∃ (gO' : Nat → Nat) (gZ' : State → Heap → Prop) (fv : Value), aCl (gL G, gD G, gC G, s.heap.size, gO', gZ') ∧ gZ' s s.heap ∧ sv (gL G, gD G, gC G, s.heap.size, gO', gZ') (.ref 1) = sv G (.ref (k + 1)) ∧ aS1 (gL G, gD G, gC G, s.heap.size, gO', gZ') l fv := by
    intro fa fv hf hfv
    refine ⟨fun i => if i ≤ 26 then gO G (k + 1) else if i = 27 then aV else fa, fun U H => aTx (fun q => s.heap.size ≤ q) (gO G (k + 1)) aV fm l U H, fv, fun U U' H H' hW hq hz => (aTx.moved hW.alike hz).kept hq, tx.narrow (fun q hq => Nat.le_trans hB hq), ?_, fun U H hz => ?_, fun i h1 h2 => ?_, hf⟩
    · show Value.ref (gO G (k + 1)) = Value.ref (ad G (k + 1))
      rw [ead]
    · rw [hfv]
      exact hz
    · show (if i ≤ 26 then gO G (k + 1) else if i = 27 then aV else fa) = gO G (k + 1)
      rw [if_pos h2]
  rcases hfm with rfl | ⟨a, rfl⟩
  · exact key 0 .null (Or.inl rfl) rfl
  · exact key a (.ref 28) (Or.inr rfl) rfl
theorem aTxt_of {G : aG} (hT : aT26 G) : aTxt G := by
  refine ⟨fun k l h hk => ?_, fun k l i v h hk hv => ?_, fun U H k hz hk => ?_⟩
  · refine AC.old (as1 := [.ref 1]) (fun s hZ hB => ?_)
    obtain ⟨gO', gZ', fv, c1, c2, c3, c4⟩ := hT.go hk s hZ hB
    exact ⟨gO', gZ', c1, c2, by show [sv _ (.ref 1)] = [sv G (.ref (k + 1))]; rw [c3], s_length c4⟩
  · have hk26 : k < 26 := by
      have := (List.getElem?_eq_some_iff.mp hk).1
      rw [aChr_len] at this
      exact this
    have el : aChr.getD k [] = l := by rw [List.getD_eq_getElem?_getD, hk]; rfl
    unfold xChr at hv
    by_cases hb : inB i l.length = true
    · rw [if_pos hb] at hv
      obtain rfl := Option.some.inj hv
      have hi : vp_in i l.length := fun q => by
        unfold inB at hb
        rcases q with q | q <;> simp [q] at hb
      have h0 : ¬ i < 0 := fun q => hi (Or.inl q)
      have hlt : i.toNatClampNeg < l.length := Nat.not_le.mp fun q => hi (Or.inr q)
      have hc := chr_ok k hk26 i.toNatClampNeg (by rw [el]; exact hlt)
      have hz := chr_nar k hk26 i.toNatClampNeg (by rw [el]; exact hlt)
      rw [el] at hc hz
      have hn : i < Int32.ofNat l.length := by
        have q : ¬ i < nI 0 := h0
        rw [Int32.lt_iff_toInt_lt, nI_toInt (by omega)] at q
        have e1 : i = nI i.toInt.toNat := toInt_nn (by omega)
        have e2 : i.toNatClampNeg = i.toInt.toNat := by
          have hb1 := Int32.toInt_lt i
          rw [e1, nI_clamp (by omega)]
          rw [← e1]
        rw [e2] at hlt
        rw [e1]
        show nI _ < nI _
        rw [nI_ltI (by omega) (by omega)]
        exact hlt
      refine AC.old (as1 := [.ref 1, .int i]) (fun s hZ hB => ?_)
      obtain ⟨gO', gZ', fv, c1, c2, c3, c4⟩ := hT.go hk s hZ hB
      exact ⟨gO', gZ', c1, c2, by show [sv _ (.ref 1), .int i] = [sv G (.ref (k + 1)), .int i]; rw [c3], s_charAt c4 h0 hn hi hc.1 hz⟩
    · rw [if_neg hb] at hv
      cases hv
  · have hk : k < aChr.length := by rw [aChr_len]; exact hk
    obtain ⟨aV, fm, -, tx⟩ := hT U H hz k _ (List.getElem?_eq_getElem hk)
    obtain ⟨cell, h1, h2, h3, h4⟩ := tx.1
    exact ⟨cell, h1, h2, h3, Nat.not_le.mp h4⟩
end
