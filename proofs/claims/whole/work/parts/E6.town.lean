section
/-! ===== town, over the law's heap ===== -/
theorem wr_town {G : aG} {F : aF} {o : wO} {n s : Nat} {wx wm : wS} {u : Nat → Int64} {t : Tn} {z : Sy} {a1 : Int32} (hG : aGood G) (hT : aTxt G) (hN : aNc G) (h : LH F o n s) (r : RR t z o wx wm) : ∃ (w' : wS) (rm : Int32 × wS) (o1 : wO) (t1 : Tn) (F1 : aF) (n1 s1 : Nat) (u1 : Nat → Int64) (k : Int32), L_X10_town a1 wm = some rm ∧ LH F1 o1 n1 s1 ∧ (n1 ≤ n + 13 ∧ s1 ≤ s + 1600) ∧ ACH G ML_town [.ref 40, .int a1, .ref 132] (F wx wm u) (.inl (some (.int k)), F1 w' wm u1) ∧ (∃ z', RR t1 z' o1 w' rm.2) ∧ rm.2.1 0 = k ∧ (k = 0 → u1 0 = rm.1.toInt64) := by
  obtain ⟨f, b, hB⟩ := r.2.2.2.2.2.1
  have hx := (h.1 wm u).1.2.1 wx 0 _ rfl
  by_cases hn : a1 < 0 ∨ wx.1 201 < a1
  · have ha := C_X9_town_x hG (h.1 wm u).1 hn
    have e2 : L_X10_town a1 wm = some (0, wuS (wuS wm 0 0) 0 1) := by
      have q1 : (wuS wm 0 0).1 0 = 0 := wuS_at
      have q2 : (wuS (wuS wm 0 0) 0 1).1 0 = 1 := wuS_at
      have go : J_X10_town_23 a1 0 (wuS wm 0 0) = some (0, wuS (wuS wm 0 0) 0 1) := by
        unfold J_X10_town_23 L_X10_right J_X10_right_16 J_X10_right_28
        rw [xGet_s, xB_s, q1, if_pos rfl, if_pos rfl, xPut_s, xB_s, xGet_s, xB_s, q2, if_neg (by decide)]
        rfl
      unfold L_X10_town J_X10_town_22
      rw [xPut_s, xB_s]
      by_cases h0 : a1 < 0
      · rw [if_pos h0]; exact go
      · rw [if_neg h0, xGet_s, xB_s]
        have e12 : (wuS wm 0 0).1 12 = wx.1 201 := by
          rw [wuS_1, if_neg (by decide), hB.2.2.1, hB.2.1]
        rw [e12, if_pos (by rcases hn with q | q; · exact absurd q h0
                            · exact q)]
        exact go
    refine ⟨wx, _, o, t, _, _, _, u, 1, e2, h.app [none], ⟨?_, ?_⟩, wI_town hN ha hx, ⟨z, r.q QX.refl ((QM.refl.S (by decide) (by decide)).S (by decide) (by decide))⟩, wuS_at, fun q => absurd q (by decide)⟩
    · show n + 1 ≤ n + 13
      omega
    · show s + (6 + 0) ≤ s + 1600
      omega
  · have hge : ¬ a1 < 0 := fun q => hn (Or.inl q)
    have hle : ¬ wx.1 201 < a1 := fun q => hn (Or.inr q)
    obtain ⟨m, hm, hmf⟩ : ∃ m, a1 = nI m ∧ m ≤ f := by
      have hf := hB.1
      have e1 : (0 : Int) ≤ a1.toInt := by
        have q : ¬ a1 < nI 0 := hge
        rw [Int32.lt_iff_toInt_lt, nI_toInt (by omega)] at q
        omega
      have e2 : a1.toInt ≤ (f : Int) := by
        rw [hB.2.1, Int32.lt_iff_toInt_lt, nI_toInt (by omega)] at hle
        omega
      obtain ⟨m, _, m2, m3⟩ := int_nat (a := 0) (b := f) ⟨e1, e2⟩
      exact ⟨m, m3, m2⟩
    subst hm
    obtain ⟨rx, rm, e1, e2, hq⟩ := t_town (bt := n) r hB hmf
    obtain ⟨ha, K1⟩ := C_X9_town hG hT (h.kd wx wm u) hn e1
    have ha : AC G N_X9_town [.ref 40, .int (nI m)] (F (mrg wx wx) wm u) (.inl (some (.int rx.1)), HD (fun w => F (mrg wx w) wm u) rx.2.1 rx.2.2) := ha
    rw [mrg_self] at ha
    have hoT : oT rx.2.1 = n := by
      have q1 : (F (mrg wx wx) wm u).length = oT rx.2.1 := K1.2.2.1 wx
      rw [← q1]
      exact (h.2.2.2.2.1 _ _ _).1
    have hsz := tBlk_sz (w := rx.2.2) (z_town.1 _ e1)
    obtain ⟨⟨q1, q2⟩, hq⟩ := hq
    rcases hq with ⟨q3, t', z', rr⟩ | ⟨z', rr⟩
    · have h1 := h.town wx hoT K1.2.2.2.2 rx.2.2
      have hw := w0_town ha hx (h1.2.2.1 rx.2.2 wm u)
      have e9 := h1.2.2.2.1 rx.2.2 wm u (vp_updL u (0 : Int32).toNatClampNeg rx.1.toInt64)
      have e9 : List.set (HD (fun w => F (mrg wx w) wm u) rx.2.1 rx.2.2) 132 (aU (vp_updL u (0 : Int32).toNatClampNeg rx.1.toInt64)) = HD (fun w => F (mrg wx w) wm (vp_updL u (0 : Int32).toNatClampNeg rx.1.toInt64)) rx.2.1 rx.2.2 := e9
      rw [e9] at hw
      refine ⟨rx.2.2, rm, rx.2.1, t', _, _, _, _, 0, e2, h1, ⟨by omega, by omega⟩, hw, ⟨z', rr⟩, q2, fun _ => ?_⟩
      rw [q1]
      rfl
    · have h1 := h.app (tBlk rx.2.1 rx.2.2)
      have hw := w0_town ha hx (h1.2.2.1 (mrg wx rx.2.2) wm u)
      have e9 := h1.2.2.2.1 (mrg wx rx.2.2) wm u (vp_updL u (0 : Int32).toNatClampNeg rx.1.toInt64)
      have e9 : List.set (HD (fun w => F (mrg wx w) wm u) rx.2.1 rx.2.2) 132 (aU (vp_updL u (0 : Int32).toNatClampNeg rx.1.toInt64)) = F (mrg wx rx.2.2) wm (vp_updL u (0 : Int32).toNatClampNeg rx.1.toInt64) ++ tBlk rx.2.1 rx.2.2 := e9
      rw [e9] at hw
      refine ⟨mrg wx rx.2.2, rm, o, t, _, _, _, _, 0, e2, h1, ⟨by omega, by omega⟩, hw, ⟨z', rr⟩, q2, fun _ => ?_⟩
      rw [q1]
      rfl
end
