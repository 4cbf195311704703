section
/-! ===== the law's loop ===== -/
theorem iand63 (x : Int32) : ∃ c, c < 64 ∧ x &&& 63 = nI c := by
  refine ⟨(x.toBitVec &&& 63#32).toNat, ?_, ?_⟩
  · rw [BitVec.toNat_and]
    exact Nat.lt_succ_of_le Nat.and_le_right
  · apply Int32.toBitVec_inj.mp
    show (x &&& 63).toBitVec = (Int32.ofNat _).toBitVec
    simp
theorem sub6 : ∀ L, L < 6 → (nI L - 6).toInt < 0 := by decide +kernel
theorem gt6 {L i : Nat} (hL : L ≤ 3072) (hi : i ≤ 3072) : (nI L - 6 < nI i) ↔ L < i + 6 := by
  by_cases h : L < 6
  · have h1 := sub6 L h
    rw [Int32.lt_iff_toInt_lt, nI_toInt (by omega)]
    omega
  · have e : nI L - 6 = nI (L - 6) := by
      have := pk_sub (a := L) (b := 6) (by omega)
      exact this
    rw [e, nI_ltI (by omega) (by omega)]
    omega
def Rfin (n s : Nat) (R : aR) : Prop := ∃ hf : aH, R = (.inl (some (.int 1)), hf) ∧ hf.length ≤ n ∧ aSl hf ≤ s
theorem law_loop {G : aG} {L : Nat} {xs : Nat → Int32} (hG : aGood G) (hT : aTxt G) (hX : aScr G L xs) (hN : aNc G) (hL : L ≤ 3072) : ∀ (N i : Nat) (F : aF) (o : wO) (n s : Nat) (t : Tn) (z : Sy) (wx wm : wS) (u : Nat → Int64), L ≤ i + 6 * N + 5 → i ≤ L → LH F o n s → RR t z o wx wm → ∃ R, Rfin (n + 13 * N) (s + 1600 * N) R ∧ AG G ML_law 23 (lsL i) [] (F wx wm u) R := by
  have out : ∀ (i n s k1 k2 : Nat) (F : aF) (o : wO) (wx wm : wS) (u : Nat → Int64), i ≤ L → L < i + 6 → LH F o n s → ∃ R, Rfin (n + k1) (s + k2) R ∧ AG G ML_law 23 (lsL i) [] (F wx wm u) R := by
    intro i n s k1 k2 F o wx wm u hi hx h
    refine ⟨(.inl (some (.int 1)), F wx wm u), ⟨_, rfl, by rw [(h.2.2.2.2.1 wx wm u).1]; omega, by rw [(h.2.2.2.2.1 wx wm u).2]; omega⟩, ?_⟩
    refine g_iload dL_law_23 rfl ?_
    refine g_aload_n dL_law_25 rfl rfl ?_
    refine g_scrLen hX dL_law_26 ?_
    refine g_bipush (v := 6) dL_law_27 (by decide) ?_
    refine g_isub dL_law_29 ?_
    refine g_icmp_gt (tgt := 2953) dL_law_30 (by decide) (fun _ => ?_) (fun q => absurd ((gt6 hL (by omega)).2 hx) q)
    refine g_iconst (v := 1) dL_law_2953 (by decide) ?_
    exact g_zret rfl rfl dL_law_2954
  intro N
  induction N with
  | zero =>
    intro i F o n s t z wx wm u hN0 hi h r
    exact out i n s _ _ F o wx wm u hi (by omega) h
  | succ N ih =>
    intro i F o n s t z wx wm u hN1 hi h r
    by_cases hx : L < i + 6
    · exact out i n s _ _ F o wx wm u hi hx h
    have hi6 : i + 6 ≤ L := by omega
    have ih2 : IHs G i n s (Rfin (n + 13 * (N + 1)) (s + 1600 * (N + 1))) := by
      intro F' o' t' z' wx' wm' u' n' s' h' r' hn' hs'
      obtain ⟨R, ⟨hf, e, b1, b2⟩, K⟩ := ih (i + 6) F' o' n' s' t' z' wx' wm' u' (by omega) (by omega) h' r'
      refine ⟨R, ⟨hf, e, by omega, by omega⟩, ?_⟩
      refine g_iincV (v := nI (i + 6)) dL_law_2947 rfl (nI_add i 6) (by decide) rfl ?_
      refine g_goto (tgt := 23) dL_law_2950 (by decide) ?_
      exact K
    obtain ⟨c, hc, ec⟩ := iand63 (xs i)
    have hd : ∀ (R : aR), AG G ML_law 40 (lsL i) [.int (nI c)] (F wx wm u) R → AG G ML_law 23 (lsL i) [] (F wx wm u) R := by
      intro R K
      refine g_iload dL_law_23 rfl ?_
      refine g_aload_n dL_law_25 rfl rfl ?_
      refine g_scrLen hX dL_law_26 ?_
      refine g_bipush (v := 6) dL_law_27 (by decide) ?_
      refine g_isub dL_law_29 ?_
      refine g_icmp_gt (tgt := 2953) dL_law_30 (by decide) (fun q => absurd ((gt6 hL (by omega)).1 q) hx) (fun _ => ?_)
      refine g_aload_n dL_law_33 rfl rfl ?_
      refine g_iload dL_law_34 rfl ?_
      refine g_scr hX dL_law_36 (nI_in (by omega) (by omega)) ?_
      rw [nI_clamp (by omega)]
      refine g_bipush (v := 63) dL_law_37 (by decide) ?_
      refine g_iand dL_law_39 ?_
      rw [ec]
      exact K
    have hci : (nI c).toInt = (c : Int) := nI_toInt (by omega)
    by_cases h47 : c < 47
    · have sw : ∀ (off : Int) (tgt : Nat), (#[204, 277, 333, 346, 402, 470, 538, 563, 631, 722, 778, 846, 859, 939, 1019, 1075, 1131, 1187, 1243, 1311, 1379, 1435, 1503, 1583, 1594, 1650, 1706, 1786, 1866, 1946, 2026, 2082, 2150, 2206, 2274, 2342, 2398, 2454, 2510, 2578, 2634, 2690, 2758, 2814, 2870, 2883, 2894] : Array Int)[c]? = some off → (40 : Int) + off = (tgt : Int) → (∃ R, Rfin (n + 13 * (N + 1)) (s + 1600 * (N + 1)) R ∧ AG G ML_law tgt (lsL i) [] (F wx wm u) R) → ∃ R, Rfin (n + 13 * (N + 1)) (s + 1600 * (N + 1)) R ∧ AG G ML_law 23 (lsL i) [] (F wx wm u) R := by
        rintro off tgt ho ht ⟨R, hR, K⟩
        refine ⟨R, hR, hd R ?_⟩
        exact g_tableIn (off := off) (tgt := tgt) dL_law_40 (by rw [hci]; omega) (by rw [hci]; omega) (by rw [hci, Int.sub_zero, Int.toNat_natCast]; exact ho) ht K
      rcases (show c = 0 ∨ c = 1 ∨ c = 2 ∨ c = 3 ∨ c = 4 ∨ c = 5 ∨ c = 6 ∨ c = 7 ∨ c = 8 ∨ c = 9 ∨ c = 10 ∨ c = 11 ∨ c = 12 ∨ c = 13 ∨ c = 14 ∨ c = 15 ∨ c = 16 ∨ c = 17 ∨ c = 18 ∨ c = 19 ∨ c = 20 ∨ c = 21 ∨ c = 22 ∨ c = 23 ∨ c = 24 ∨ c = 25 ∨ c = 26 ∨ c = 27 ∨ c = 28 ∨ c = 29 ∨ c = 30 ∨ c = 31 ∨ c = 32 ∨ c = 33 ∨ c = 34 ∨ c = 35 ∨ c = 36 ∨ c = 37 ∨ c = 38 ∨ c = 39 ∨ c = 40 ∨ c = 41 ∨ c = 42 ∨ c = 43 ∨ c = 44 ∨ c = 45 ∨ c = 46 by omega) with rfl | rfl | rfl | rfl | rfl | rfl | rfl | rfl | rfl | rfl | rfl | rfl | rfl | rfl | rfl | rfl | rfl | rfl | rfl | rfl | rfl | rfl | rfl | rfl | rfl | rfl | rfl | rfl | rfl | rfl | rfl | rfl | rfl | rfl | rfl | rfl | rfl | rfl | rfl | rfl | rfl | rfl | rfl | rfl | rfl | rfl | rfl
      · exact sw 204 244 rfl rfl (lc_0 hG hT hX hN h r hi6 hL ih2)
      · exact sw 277 317 rfl rfl (lc_1 hG hT hX hN h r hi6 hL ih2)
      · exact sw 333 373 rfl rfl (lc_2 hG hT hX hN h r hi6 hL ih2)
      · exact sw 346 386 rfl rfl (lc_3 hG hT hX hN h r hi6 hL ih2)
      · exact sw 402 442 rfl rfl (lc_4 hG hT hX hN h r hi6 hL ih2)
      · exact sw 470 510 rfl rfl (lc_5 hG hT hX hN h r hi6 hL ih2)
      · exact sw 538 578 rfl rfl (lc_6 hG hT hX hN h r hi6 hL ih2)
      · exact sw 563 603 rfl rfl (lc_7 hG hT hX hN h r hi6 hL ih2)
      · exact sw 631 671 rfl rfl (lc_8 hG hT hX hN h r hi6 hL ih2)
      · exact sw 722 762 rfl rfl (lc_9 hG hT hX hN h r hi6 hL ih2)
      · exact sw 778 818 rfl rfl (lc_10 hG hT hX hN h r hi6 hL ih2)
      · exact sw 846 886 rfl rfl (lc_11 hG hT hX hN h r hi6 hL ih2)
      · exact sw 859 899 rfl rfl (lc_12 hG hT hX hN h r hi6 hL ih2)
      · exact sw 939 979 rfl rfl (lc_13 hG hT hX hN h r hi6 hL ih2)
      · exact sw 1019 1059 rfl rfl (lc_14 hG hT hX hN h r hi6 hL ih2)
      · exact sw 1075 1115 rfl rfl (lc_15 hG hT hX hN h r hi6 hL ih2)
      · exact sw 1131 1171 rfl rfl (lc_16 hG hT hX hN h r hi6 hL ih2)
      · exact sw 1187 1227 rfl rfl (lc_17 hG hT hX hN h r hi6 hL ih2)
      · exact sw 1243 1283 rfl rfl (lc_18 hG hT hX hN h r hi6 hL ih2)
      · exact sw 1311 1351 rfl rfl (lc_19 hG hT hX hN h r hi6 hL ih2)
      · exact sw 1379 1419 rfl rfl (lc_20 hG hT hX hN h r hi6 hL ih2)
      · exact sw 1435 1475 rfl rfl (lc_21 hG hT hX hN h r hi6 hL ih2)
      · exact sw 1503 1543 rfl rfl (lc_22 hG hT hX hN h r hi6 hL ih2)
      · exact sw 1583 1623 rfl rfl (lc_23 hG hT hX hN h r hi6 hL ih2)
      · exact sw 1594 1634 rfl rfl (lc_24 hG hT hX hN h r hi6 hL ih2)
      · exact sw 1650 1690 rfl rfl (lc_25 hG hT hX hN h r hi6 hL ih2)
      · exact sw 1706 1746 rfl rfl (lc_26 hG hT hX hN h r hi6 hL ih2)
      · exact sw 1786 1826 rfl rfl (lc_27 hG hT hX hN h r hi6 hL ih2)
      · exact sw 1866 1906 rfl rfl (lc_28 hG hT hX hN h r hi6 hL ih2)
      · exact sw 1946 1986 rfl rfl (lc_29 hG hT hX hN h r hi6 hL ih2)
      · exact sw 2026 2066 rfl rfl (lc_30 hG hT hX hN h r hi6 hL ih2)
      · exact sw 2082 2122 rfl rfl (lc_31 hG hT hX hN h r hi6 hL ih2)
      · exact sw 2150 2190 rfl rfl (lc_32 hG hT hX hN h r hi6 hL ih2)
      · exact sw 2206 2246 rfl rfl (lc_33 hG hT hX hN h r hi6 hL ih2)
      · exact sw 2274 2314 rfl rfl (lc_34 hG hT hX hN h r hi6 hL ih2)
      · exact sw 2342 2382 rfl rfl (lc_35 hG hT hX hN h r hi6 hL ih2)
      · exact sw 2398 2438 rfl rfl (lc_36 hG hT hX hN h r hi6 hL ih2)
      · exact sw 2454 2494 rfl rfl (lc_37 hG hT hX hN h r hi6 hL ih2)
      · exact sw 2510 2550 rfl rfl (lc_38 hG hT hX hN h r hi6 hL ih2)
      · exact sw 2578 2618 rfl rfl (lc_39 hG hT hX hN h r hi6 hL ih2)
      · exact sw 2634 2674 rfl rfl (lc_40 hG hT hX hN h r hi6 hL ih2)
      · exact sw 2690 2730 rfl rfl (lc_41 hG hT hX hN h r hi6 hL ih2)
      · exact sw 2758 2798 rfl rfl (lc_42 hG hT hX hN h r hi6 hL ih2)
      · exact sw 2814 2854 rfl rfl (lc_43 hG hT hX hN h r hi6 hL ih2)
      · exact sw 2870 2910 rfl rfl (lc_44 hG hT hX hN h r hi6 hL ih2)
      · exact sw 2883 2923 rfl rfl (lc_45 hG hT hX hN h r hi6 hL ih2)
      · exact sw 2894 2934 rfl rfl (lc_46 hG hT hX hN h r hi6 hL ih2)
    · obtain ⟨R, hR, K⟩ := ih2 F o t z wx wm u n s h r (by omega) (by omega)
      exact ⟨R, hR, hd R (g_tableOut (tgt := 2947) dL_law_40 (Or.inr (by rw [hci]; omega)) (by decide) K)⟩
end
