section
/-! ===== the law's wrappers ===== -/
theorem lk_No : Cond.classLink RL 18 cNo ∈ aW := (aIn1 919 (by decide +kernel) rfl)
theorem lk_Il : Cond.classLink RL 13 cIl ∈ aW := (aIn1 646 (by decide +kernel) rfl)
theorem vp01 : vp_in 0 1 := by
  unfold vp_in
  decide
abbrev aU (u : Nat → Int64) : aE := some (.inl (1, 1, .inr (.inl u)))
abbrev aNc (G : aG) : Prop := ∀ (U : State) (H : Heap), gZ G U H → va_Nc cIl cNo U ∧ va_Nw (Cond.castable cNo cNo) U ∧ va_Nw (Cond.castable cIl cIl) U
abbrev ML_town : aM := (yL_town, cL_town, 4, some .int, 94, [(0, 9, 12, 13)])
theorem kH_town : aCalH ML_town 3 := ⟨(aIn1 645 (by decide +kernel) rfl), (aIn1 94 (by decide +kernel) rfl), ⟨by decide, by decide⟩, by decide +kernel, by decide, (aIn1 644 (by decide +kernel) rfl)⟩
theorem w0_town {G : aG} {h h' : aH} {a1 : Int32} {fs : List Value} {v : Int32} {u : Nat → Int64} (ha : AC G N_X9_town [.ref 40, .int a1] h (.inl (some (.int v)), h')) (hx : h[40]? = some (some (.inr (9, fs)))) (ho : h'[132]? = some (aU u)) : ACH G ML_town [.ref 40, .int a1, .ref 132] h (.inl (some (.int 0)), h'.set 132 (aU (vp_updL u (0 : Int32).toNatClampNeg v.toInt64))) := by
  refine ACH.of (by decide) (Nat.le_of_ble_eq_true rfl) ?_
  show AG G ML_town 0 [some (.ref 40), some (.int a1), some (.ref 132), none] [] _ _
  refine g_aload_n dL_town_0 rfl rfl ?_
  refine g_iconst (v := 0) dL_town_1 (by decide) ?_
  refine g_aload_n dL_town_2 rfl rfl ?_
  refine g_iload_n dL_town_3 rfl rfl ?_
  refine g_callV (M' := N_X9_town) (as := [.int a1]) (v := some (.int v)) l_L_7 nV_X9_town (by decide) ha rfl (by decide) hx ⟨_, _, rfl⟩ (Nat.le_of_ble_eq_true rfl) dL_town_4 ?_
  refine g_i2l dL_town_7 ?_
  refine g_last dL_town_8 (by decide) ho vp01 ?_
  refine g_goto (tgt := 15) dL_town_9 (by decide) ?_
  refine g_iconst (v := 0) dL_town_15 (by decide) ?_
  exact g_iret rfl dL_town_16
theorem wI_town {G : aG} {h h' : aH} {a1 : Int32} {fs : List Value} (hN : aNc G) (ha : AC G N_X9_town [.ref 40, .int a1] h (.inr cIl, h')) (hx : h[40]? = some (some (.inr (9, fs)))) : ACH G ML_town [.ref 40, .int a1, .ref 132] h (.inl (some (.int 1)), h') := by
  refine ACH.of (by decide) (Nat.le_of_ble_eq_true rfl) ?_
  show AG G ML_town 0 [some (.ref 40), some (.int a1), some (.ref 132), none] [] _ _
  refine g_aload_n dL_town_0 rfl rfl ?_
  refine g_iconst (v := 0) dL_town_1 (by decide) ?_
  refine g_aload_n dL_town_2 rfl rfl ?_
  refine g_iload_n dL_town_3 rfl rfl ?_
  refine g_catchV (M' := N_X9_town) (as := [.int a1]) (pre := []) (npc := 13) (i := 3) (nm := cIl) (aIn1 647 (by decide +kernel) rfl) nV_X9_town (by decide) ha rfl (by decide) hx ⟨_, _, rfl⟩ (Nat.le_of_ble_eq_true rfl) dL_town_4 rfl (fun z hz => absurd hz List.not_mem_nil) (by decide) (by decide) lk_Il (fun U H q => (hN U H q).2.2) (Or.inl ⟨3, dL_town_12, rfl, rfl⟩) (by decide) rfl ?_
  refine g_iconst (v := 1) dL_town_13 (by decide) ?_
  exact g_iret rfl dL_town_14
abbrev ML_count : aM := (yL_count, cL_count, 4, some .int, 94, [(0, 9, 12, 18)])
theorem kH_count : aCalH ML_count 3 := ⟨(aIn1 918 (by decide +kernel) rfl), (aIn1 94 (by decide +kernel) rfl), ⟨by decide, by decide⟩, by decide +kernel, by decide, (aIn1 917 (by decide +kernel) rfl)⟩
theorem w0_count {G : aG} {h h' : aH} {a1 : Int32} {fs : List Value} {v : Int32} {u : Nat → Int64} (ha : AC G M_X9_count [.ref 40, .int a1] h (.inl (some (.int v)), h')) (hx : h[40]? = some (some (.inr (9, fs)))) (ho : h'[132]? = some (aU u)) : ACH G ML_count [.ref 40, .int a1, .ref 132] h (.inl (some (.int 0)), h'.set 132 (aU (vp_updL u (0 : Int32).toNatClampNeg v.toInt64))) := by
  refine ACH.of (by decide) (Nat.le_of_ble_eq_true rfl) ?_
  show AG G ML_count 0 [some (.ref 40), some (.int a1), some (.ref 132), none] [] _ _
  refine g_aload_n dL_count_0 rfl rfl ?_
  refine g_iconst (v := 0) dL_count_1 (by decide) ?_
  refine g_aload_n dL_count_2 rfl rfl ?_
  refine g_iload_n dL_count_3 rfl rfl ?_
  refine g_callV (M' := M_X9_count) (as := [.int a1]) (v := some (.int v)) l_L_15 kV_X9_count (by decide) ha rfl (by decide) hx ⟨_, _, rfl⟩ (Nat.le_of_ble_eq_true rfl) dL_count_4 ?_
  refine g_i2l dL_count_7 ?_
  refine g_last dL_count_8 (by decide) ho vp01 ?_
  refine g_goto (tgt := 15) dL_count_9 (by decide) ?_
  refine g_iconst (v := 0) dL_count_15 (by decide) ?_
  exact g_iret rfl dL_count_16
theorem wN_count {G : aG} {h h' : aH} {a1 : Int32} {fs : List Value} (hN : aNc G) (ha : AC G M_X9_count [.ref 40, .int a1] h (.inr cNo, h')) (hx : h[40]? = some (some (.inr (9, fs)))) : ACH G ML_count [.ref 40, .int a1, .ref 132] h (.inl (some (.int 1)), h') := by
  refine ACH.of (by decide) (Nat.le_of_ble_eq_true rfl) ?_
  show AG G ML_count 0 [some (.ref 40), some (.int a1), some (.ref 132), none] [] _ _
  refine g_aload_n dL_count_0 rfl rfl ?_
  refine g_iconst (v := 0) dL_count_1 (by decide) ?_
  refine g_aload_n dL_count_2 rfl rfl ?_
  refine g_iload_n dL_count_3 rfl rfl ?_
  refine g_catchV (M' := M_X9_count) (as := [.int a1]) (pre := []) (npc := 13) (i := 3) (nm := cNo) (aIn1 920 (by decide +kernel) rfl) kV_X9_count (by decide) ha rfl (by decide) hx ⟨_, _, rfl⟩ (Nat.le_of_ble_eq_true rfl) dL_count_4 rfl (fun z hz => absurd hz List.not_mem_nil) (by decide) (by decide) lk_No (fun U H q => (hN U H q).2.1) (Or.inl ⟨3, dL_count_12, rfl, rfl⟩) (by decide) rfl ?_
  refine g_iconst (v := 1) dL_count_13 (by decide) ?_
  exact g_iret rfl dL_count_14
abbrev ML_person : aM := (yL_person, cL_person, 5, some .int, 94, [(0, 10, 13, 18)])
theorem kH_person : aCalH ML_person 4 := ⟨(aIn1 951 (by decide +kernel) rfl), (aIn1 94 (by decide +kernel) rfl), ⟨by decide, by decide⟩, by decide +kernel, by decide, (aIn1 950 (by decide +kernel) rfl)⟩
theorem w0_person {G : aG} {h h' : aH} {a1 a2 : Int32} {fs : List Value} {v : Int32} {u : Nat → Int64} (ha : AC G M_X9_person [.ref 40, .int a1, .int a2] h (.inl (some (.int v)), h')) (hx : h[40]? = some (some (.inr (9, fs)))) (ho : h'[132]? = some (aU u)) : ACH G ML_person [.ref 40, .int a1, .int a2, .ref 132] h (.inl (some (.int 0)), h'.set 132 (aU (vp_updL u (0 : Int32).toNatClampNeg v.toInt64))) := by
  refine ACH.of (by decide) (Nat.le_of_ble_eq_true rfl) ?_
  show AG G ML_person 0 [some (.ref 40), some (.int a1), some (.int a2), some (.ref 132), none] [] _ _
  refine g_aload_n dL_person_0 rfl rfl ?_
  refine g_iconst (v := 0) dL_person_1 (by decide) ?_
  refine g_aload_n dL_person_2 rfl rfl ?_
  refine g_iload_n dL_person_3 rfl rfl ?_
  refine g_iload_n dL_person_4 rfl rfl ?_
  refine g_callV (M' := M_X9_person) (as := [.int a1, .int a2]) (v := some (.int v)) l_L_20 kV_X9_person (by decide) ha rfl (by decide) hx ⟨_, _, rfl⟩ (Nat.le_of_ble_eq_true rfl) dL_person_5 ?_
  refine g_i2l dL_person_8 ?_
  refine g_last dL_person_9 (by decide) ho vp01 ?_
  refine g_goto (tgt := 17) dL_person_10 (by decide) ?_
  refine g_iconst (v := 0) dL_person_17 (by decide) ?_
  exact g_iret rfl dL_person_18
theorem wN_person {G : aG} {h h' : aH} {a1 a2 : Int32} {fs : List Value} (hN : aNc G) (ha : AC G M_X9_person [.ref 40, .int a1, .int a2] h (.inr cNo, h')) (hx : h[40]? = some (some (.inr (9, fs)))) : ACH G ML_person [.ref 40, .int a1, .int a2, .ref 132] h (.inl (some (.int 1)), h') := by
  refine ACH.of (by decide) (Nat.le_of_ble_eq_true rfl) ?_
  show AG G ML_person 0 [some (.ref 40), some (.int a1), some (.int a2), some (.ref 132), none] [] _ _
  refine g_aload_n dL_person_0 rfl rfl ?_
  refine g_iconst (v := 0) dL_person_1 (by decide) ?_
  refine g_aload_n dL_person_2 rfl rfl ?_
  refine g_iload_n dL_person_3 rfl rfl ?_
  refine g_iload_n dL_person_4 rfl rfl ?_
  refine g_catchV (M' := M_X9_person) (as := [.int a1, .int a2]) (pre := []) (npc := 15) (i := 4) (nm := cNo) (aIn1 952 (by decide +kernel) rfl) kV_X9_person (by decide) ha rfl (by decide) hx ⟨_, _, rfl⟩ (Nat.le_of_ble_eq_true rfl) dL_person_5 rfl (fun z hz => absurd hz List.not_mem_nil) (by decide) (by decide) lk_No (fun U H q => (hN U H q).2.1) (Or.inr ⟨dL_person_13, rfl⟩) (by decide) rfl ?_
  refine g_iconst (v := 1) dL_person_15 (by decide) ?_
  exact g_iret rfl dL_person_16
abbrev ML_duty : aM := (yL_duty, cL_duty, 5, some .int, 94, [(0, 10, 13, 18)])
theorem kH_duty : aCalH ML_duty 4 := ⟨(aIn1 967 (by decide +kernel) rfl), (aIn1 94 (by decide +kernel) rfl), ⟨by decide, by decide⟩, by decide +kernel, by decide, (aIn1 966 (by decide +kernel) rfl)⟩
theorem w0_duty {G : aG} {h h' : aH} {a1 a2 : Int32} {fs : List Value} {v : Int32} {u : Nat → Int64} (ha : AC G M_X9_duty [.ref 40, .int a1, .int a2] h (.inl (some (.int v)), h')) (hx : h[40]? = some (some (.inr (9, fs)))) (ho : h'[132]? = some (aU u)) : ACH G ML_duty [.ref 40, .int a1, .int a2, .ref 132] h (.inl (some (.int 0)), h'.set 132 (aU (vp_updL u (0 : Int32).toNatClampNeg v.toInt64))) := by
  refine ACH.of (by decide) (Nat.le_of_ble_eq_true rfl) ?_
  show AG G ML_duty 0 [some (.ref 40), some (.int a1), some (.int a2), some (.ref 132), none] [] _ _
  refine g_aload_n dL_duty_0 rfl rfl ?_
  refine g_iconst (v := 0) dL_duty_1 (by decide) ?_
  refine g_aload_n dL_duty_2 rfl rfl ?_
  refine g_iload_n dL_duty_3 rfl rfl ?_
  refine g_iload_n dL_duty_4 rfl rfl ?_
  refine g_callV (M' := M_X9_duty) (as := [.int a1, .int a2]) (v := some (.int v)) l_L_24 kV_X9_duty (by decide) ha rfl (by decide) hx ⟨_, _, rfl⟩ (Nat.le_of_ble_eq_true rfl) dL_duty_5 ?_
  refine g_i2l dL_duty_8 ?_
  refine g_last dL_duty_9 (by decide) ho vp01 ?_
  refine g_goto (tgt := 17) dL_duty_10 (by decide) ?_
  refine g_iconst (v := 0) dL_duty_17 (by decide) ?_
  exact g_iret rfl dL_duty_18
theorem wN_duty {G : aG} {h h' : aH} {a1 a2 : Int32} {fs : List Value} (hN : aNc G) (ha : AC G M_X9_duty [.ref 40, .int a1, .int a2] h (.inr cNo, h')) (hx : h[40]? = some (some (.inr (9, fs)))) : ACH G ML_duty [.ref 40, .int a1, .int a2, .ref 132] h (.inl (some (.int 1)), h') := by
  refine ACH.of (by decide) (Nat.le_of_ble_eq_true rfl) ?_
  show AG G ML_duty 0 [some (.ref 40), some (.int a1), some (.int a2), some (.ref 132), none] [] _ _
  refine g_aload_n dL_duty_0 rfl rfl ?_
  refine g_iconst (v := 0) dL_duty_1 (by decide) ?_
  refine g_aload_n dL_duty_2 rfl rfl ?_
  refine g_iload_n dL_duty_3 rfl rfl ?_
  refine g_iload_n dL_duty_4 rfl rfl ?_
  refine g_catchV (M' := M_X9_duty) (as := [.int a1, .int a2]) (pre := []) (npc := 15) (i := 4) (nm := cNo) (aIn1 968 (by decide +kernel) rfl) kV_X9_duty (by decide) ha rfl (by decide) hx ⟨_, _, rfl⟩ (Nat.le_of_ble_eq_true rfl) dL_duty_5 rfl (fun z hz => absurd hz List.not_mem_nil) (by decide) (by decide) lk_No (fun U H q => (hN U H q).2.1) (Or.inr ⟨dL_duty_13, rfl⟩) (by decide) rfl ?_
  refine g_iconst (v := 1) dL_duty_15 (by decide) ?_
  exact g_iret rfl dL_duty_16
abbrev ML_hurry : aM := (yL_hurry, cL_hurry, 5, some .int, 94, [(0, 10, 13, 18)])
theorem kH_hurry : aCalH ML_hurry 4 := ⟨(aIn1 990 (by decide +kernel) rfl), (aIn1 94 (by decide +kernel) rfl), ⟨by decide, by decide⟩, by decide +kernel, by decide, (aIn1 989 (by decide +kernel) rfl)⟩
theorem w0_hurry {G : aG} {h h' : aH} {a1 a2 : Int32} {fs : List Value} {v : Int32} {u : Nat → Int64} (ha : AC G M_X9_hurry [.ref 40, .int a1, .int a2] h (.inl (some (.int v)), h')) (hx : h[40]? = some (some (.inr (9, fs)))) (ho : h'[132]? = some (aU u)) : ACH G ML_hurry [.ref 40, .int a1, .int a2, .ref 132] h (.inl (some (.int 0)), h'.set 132 (aU (vp_updL u (0 : Int32).toNatClampNeg v.toInt64))) := by
  refine ACH.of (by decide) (Nat.le_of_ble_eq_true rfl) ?_
  show AG G ML_hurry 0 [some (.ref 40), some (.int a1), some (.int a2), some (.ref 132), none] [] _ _
  refine g_aload_n dL_hurry_0 rfl rfl ?_
  refine g_iconst (v := 0) dL_hurry_1 (by decide) ?_
  refine g_aload_n dL_hurry_2 rfl rfl ?_
  refine g_iload_n dL_hurry_3 rfl rfl ?_
  refine g_iload_n dL_hurry_4 rfl rfl ?_
  refine g_callV (M' := M_X9_hurry) (as := [.int a1, .int a2]) (v := some (.int v)) l_L_27 kV_X9_hurry (by decide) ha rfl (by decide) hx ⟨_, _, rfl⟩ (Nat.le_of_ble_eq_true rfl) dL_hurry_5 ?_
  refine g_i2l dL_hurry_8 ?_
  refine g_last dL_hurry_9 (by decide) ho vp01 ?_
  refine g_goto (tgt := 17) dL_hurry_10 (by decide) ?_
  refine g_iconst (v := 0) dL_hurry_17 (by decide) ?_
  exact g_iret rfl dL_hurry_18
theorem wN_hurry {G : aG} {h h' : aH} {a1 a2 : Int32} {fs : List Value} (hN : aNc G) (ha : AC G M_X9_hurry [.ref 40, .int a1, .int a2] h (.inr cNo, h')) (hx : h[40]? = some (some (.inr (9, fs)))) : ACH G ML_hurry [.ref 40, .int a1, .int a2, .ref 132] h (.inl (some (.int 1)), h') := by
  refine ACH.of (by decide) (Nat.le_of_ble_eq_true rfl) ?_
  show AG G ML_hurry 0 [some (.ref 40), some (.int a1), some (.int a2), some (.ref 132), none] [] _ _
  refine g_aload_n dL_hurry_0 rfl rfl ?_
  refine g_iconst (v := 0) dL_hurry_1 (by decide) ?_
  refine g_aload_n dL_hurry_2 rfl rfl ?_
  refine g_iload_n dL_hurry_3 rfl rfl ?_
  refine g_iload_n dL_hurry_4 rfl rfl ?_
  refine g_catchV (M' := M_X9_hurry) (as := [.int a1, .int a2]) (pre := []) (npc := 15) (i := 4) (nm := cNo) (aIn1 991 (by decide +kernel) rfl) kV_X9_hurry (by decide) ha rfl (by decide) hx ⟨_, _, rfl⟩ (Nat.le_of_ble_eq_true rfl) dL_hurry_5 rfl (fun z hz => absurd hz List.not_mem_nil) (by decide) (by decide) lk_No (fun U H q => (hN U H q).2.1) (Or.inr ⟨dL_hurry_13, rfl⟩) (by decide) rfl ?_
  refine g_iconst (v := 1) dL_hurry_15 (by decide) ?_
  exact g_iret rfl dL_hurry_16
abbrev ML_ill : aM := (yL_ill, cL_ill, 5, some .int, 94, [(0, 17, 20, 18)])
theorem kH_ill : aCalH ML_ill 4 := ⟨(aIn1 998 (by decide +kernel) rfl), (aIn1 94 (by decide +kernel) rfl), ⟨by decide, by decide⟩, by decide +kernel, by decide, (aIn1 997 (by decide +kernel) rfl)⟩
theorem w0_ill {G : aG} {h h' : aH} {a1 a2 : Int32} {fs : List Value} {v : Int32} {u : Nat → Int64} (ha : AC G M_X9_ill [.ref 40, .int a1, .int a2] h (.inl (some (.int v)), h')) (hx : h[40]? = some (some (.inr (9, fs)))) (ho : h'[132]? = some (aU u)) : ACH G ML_ill [.ref 40, .int a1, .int a2, .ref 132] h (.inl (some (.int 0)), h'.set 132 (aU (vp_updL u (0 : Int32).toNatClampNeg (if v = 0 then 0 else 1)))) := by
  refine ACH.of (by decide) (Nat.le_of_ble_eq_true rfl) ?_
  show AG G ML_ill 0 [some (.ref 40), some (.int a1), some (.int a2), some (.ref 132), none] [] _ _
  refine g_aload_n dL_ill_0 rfl rfl ?_
  refine g_iconst (v := 0) dL_ill_1 (by decide) ?_
  refine g_aload_n dL_ill_2 rfl rfl ?_
  refine g_iload_n dL_ill_3 rfl rfl ?_
  refine g_iload_n dL_ill_4 rfl rfl ?_
  refine g_callV (M' := M_X9_ill) (as := [.int a1, .int a2]) (v := some (.int v)) l_L_30 kV_X9_ill (by decide) ha rfl (by decide) hx ⟨_, _, rfl⟩ (Nat.le_of_ble_eq_true rfl) dL_ill_5 ?_
  refine g_if_eq (tgt := 15) dL_ill_8 (by decide) (fun q => ?_) (fun q => ?_)
  · rw [if_pos q]
    refine g_lconst (v := 0) dL_ill_15 (by decide) ?_
    refine g_last dL_ill_16 (by decide) ho vp01 ?_
    refine g_goto (tgt := 24) dL_ill_17 (by decide) ?_
    refine g_iconst (v := 0) dL_ill_24 (by decide) ?_
    exact g_iret rfl dL_ill_25
  · rw [if_neg q]
    refine g_lconst (v := 1) dL_ill_11 (by decide) ?_
    refine g_goto (tgt := 16) dL_ill_12 (by decide) ?_
    refine g_last dL_ill_16 (by decide) ho vp01 ?_
    refine g_goto (tgt := 24) dL_ill_17 (by decide) ?_
    refine g_iconst (v := 0) dL_ill_24 (by decide) ?_
    exact g_iret rfl dL_ill_25
theorem wN_ill {G : aG} {h h' : aH} {a1 a2 : Int32} {fs : List Value} (hN : aNc G) (ha : AC G M_X9_ill [.ref 40, .int a1, .int a2] h (.inr cNo, h')) (hx : h[40]? = some (some (.inr (9, fs)))) : ACH G ML_ill [.ref 40, .int a1, .int a2, .ref 132] h (.inl (some (.int 1)), h') := by
  refine ACH.of (by decide) (Nat.le_of_ble_eq_true rfl) ?_
  show AG G ML_ill 0 [some (.ref 40), some (.int a1), some (.int a2), some (.ref 132), none] [] _ _
  refine g_aload_n dL_ill_0 rfl rfl ?_
  refine g_iconst (v := 0) dL_ill_1 (by decide) ?_
  refine g_aload_n dL_ill_2 rfl rfl ?_
  refine g_iload_n dL_ill_3 rfl rfl ?_
  refine g_iload_n dL_ill_4 rfl rfl ?_
  refine g_catchV (M' := M_X9_ill) (as := [.int a1, .int a2]) (pre := []) (npc := 22) (i := 4) (nm := cNo) (aIn1 999 (by decide +kernel) rfl) kV_X9_ill (by decide) ha rfl (by decide) hx ⟨_, _, rfl⟩ (Nat.le_of_ble_eq_true rfl) dL_ill_5 rfl (fun z hz => absurd hz List.not_mem_nil) (by decide) (by decide) lk_No (fun U H q => (hN U H q).2.1) (Or.inr ⟨dL_ill_20, rfl⟩) (by decide) rfl ?_
  refine g_iconst (v := 1) dL_ill_22 (by decide) ?_
  exact g_iret rfl dL_ill_23
abbrev ML_appoint : aM := (yL_appoint, cL_appoint, 4, some .int, 94, [(0, 9, 12, 18)])
theorem kH_appoint : aCalH ML_appoint 3 := ⟨(aIn1 1009 (by decide +kernel) rfl), (aIn1 94 (by decide +kernel) rfl), ⟨by decide, by decide⟩, by decide +kernel, by decide, (aIn1 1008 (by decide +kernel) rfl)⟩
theorem w0_appoint {G : aG} {h h' : aH} {a1 : Int32} {fs : List Value} {v : Int32} {u : Nat → Int64} (ha : AC G M_X9_appoint [.ref 40, .int a1] h (.inl (some (.int v)), h')) (hx : h[40]? = some (some (.inr (9, fs)))) (ho : h'[132]? = some (aU u)) : ACH G ML_appoint [.ref 40, .int a1, .ref 132] h (.inl (some (.int 0)), h'.set 132 (aU (vp_updL u (0 : Int32).toNatClampNeg v.toInt64))) := by
  refine ACH.of (by decide) (Nat.le_of_ble_eq_true rfl) ?_
  show AG G ML_appoint 0 [some (.ref 40), some (.int a1), some (.ref 132), none] [] _ _
  refine g_aload_n dL_appoint_0 rfl rfl ?_
  refine g_iconst (v := 0) dL_appoint_1 (by decide) ?_
  refine g_aload_n dL_appoint_2 rfl rfl ?_
  refine g_iload_n dL_appoint_3 rfl rfl ?_
  refine g_callV (M' := M_X9_appoint) (as := [.int a1]) (v := some (.int v)) l_L_34 kV_X9_appoint (by decide) ha rfl (by decide) hx ⟨_, _, rfl⟩ (Nat.le_of_ble_eq_true rfl) dL_appoint_4 ?_
  refine g_i2l dL_appoint_7 ?_
  refine g_last dL_appoint_8 (by decide) ho vp01 ?_
  refine g_goto (tgt := 15) dL_appoint_9 (by decide) ?_
  refine g_iconst (v := 0) dL_appoint_15 (by decide) ?_
  exact g_iret rfl dL_appoint_16
theorem wN_appoint {G : aG} {h h' : aH} {a1 : Int32} {fs : List Value} (hN : aNc G) (ha : AC G M_X9_appoint [.ref 40, .int a1] h (.inr cNo, h')) (hx : h[40]? = some (some (.inr (9, fs)))) : ACH G ML_appoint [.ref 40, .int a1, .ref 132] h (.inl (some (.int 1)), h') := by
  refine ACH.of (by decide) (Nat.le_of_ble_eq_true rfl) ?_
  show AG G ML_appoint 0 [some (.ref 40), some (.int a1), some (.ref 132), none] [] _ _
  refine g_aload_n dL_appoint_0 rfl rfl ?_
  refine g_iconst (v := 0) dL_appoint_1 (by decide) ?_
  refine g_aload_n dL_appoint_2 rfl rfl ?_
  refine g_iload_n dL_appoint_3 rfl rfl ?_
  refine g_catchV (M' := M_X9_appoint) (as := [.int a1]) (pre := []) (npc := 13) (i := 3) (nm := cNo) (aIn1 1010 (by decide +kernel) rfl) kV_X9_appoint (by decide) ha rfl (by decide) hx ⟨_, _, rfl⟩ (Nat.le_of_ble_eq_true rfl) dL_appoint_4 rfl (fun z hz => absurd hz List.not_mem_nil) (by decide) (by decide) lk_No (fun U H q => (hN U H q).2.1) (Or.inl ⟨3, dL_appoint_12, rfl, rfl⟩) (by decide) rfl ?_
  refine g_iconst (v := 1) dL_appoint_13 (by decide) ?_
  exact g_iret rfl dL_appoint_14
abbrev ML_due : aM := (yL_due, cL_due, 5, some .int, 94, [(0, 10, 13, 18)])
theorem kH_due : aCalH ML_due 4 := ⟨(aIn1 1017 (by decide +kernel) rfl), (aIn1 94 (by decide +kernel) rfl), ⟨by decide, by decide⟩, by decide +kernel, by decide, (aIn1 1016 (by decide +kernel) rfl)⟩
theorem w0_due {G : aG} {h h' : aH} {a1 a2 : Int32} {fs : List Value} {v : Int32} {u : Nat → Int64} (ha : AC G M_X9_due [.ref 40, .int a1, .int a2] h (.inl (some (.int v)), h')) (hx : h[40]? = some (some (.inr (9, fs)))) (ho : h'[132]? = some (aU u)) : ACH G ML_due [.ref 40, .int a1, .int a2, .ref 132] h (.inl (some (.int 0)), h'.set 132 (aU (vp_updL u (0 : Int32).toNatClampNeg v.toInt64))) := by
  refine ACH.of (by decide) (Nat.le_of_ble_eq_true rfl) ?_
  show AG G ML_due 0 [some (.ref 40), some (.int a1), some (.int a2), some (.ref 132), none] [] _ _
  refine g_aload_n dL_due_0 rfl rfl ?_
  refine g_iconst (v := 0) dL_due_1 (by decide) ?_
  refine g_aload_n dL_due_2 rfl rfl ?_
  refine g_iload_n dL_due_3 rfl rfl ?_
  refine g_iload_n dL_due_4 rfl rfl ?_
  refine g_callV (M' := M_X9_due) (as := [.int a1, .int a2]) (v := some (.int v)) l_L_37 kV_X9_due (by decide) ha rfl (by decide) hx ⟨_, _, rfl⟩ (Nat.le_of_ble_eq_true rfl) dL_due_5 ?_
  refine g_i2l dL_due_8 ?_
  refine g_last dL_due_9 (by decide) ho vp01 ?_
  refine g_goto (tgt := 17) dL_due_10 (by decide) ?_
  refine g_iconst (v := 0) dL_due_17 (by decide) ?_
  exact g_iret rfl dL_due_18
theorem wN_due {G : aG} {h h' : aH} {a1 a2 : Int32} {fs : List Value} (hN : aNc G) (ha : AC G M_X9_due [.ref 40, .int a1, .int a2] h (.inr cNo, h')) (hx : h[40]? = some (some (.inr (9, fs)))) : ACH G ML_due [.ref 40, .int a1, .int a2, .ref 132] h (.inl (some (.int 1)), h') := by
  refine ACH.of (by decide) (Nat.le_of_ble_eq_true rfl) ?_
  show AG G ML_due 0 [some (.ref 40), some (.int a1), some (.int a2), some (.ref 132), none] [] _ _
  refine g_aload_n dL_due_0 rfl rfl ?_
  refine g_iconst (v := 0) dL_due_1 (by decide) ?_
  refine g_aload_n dL_due_2 rfl rfl ?_
  refine g_iload_n dL_due_3 rfl rfl ?_
  refine g_iload_n dL_due_4 rfl rfl ?_
  refine g_catchV (M' := M_X9_due) (as := [.int a1, .int a2]) (pre := []) (npc := 15) (i := 4) (nm := cNo) (aIn1 1018 (by decide +kernel) rfl) kV_X9_due (by decide) ha rfl (by decide) hx ⟨_, _, rfl⟩ (Nat.le_of_ble_eq_true rfl) dL_due_5 rfl (fun z hz => absurd hz List.not_mem_nil) (by decide) (by decide) lk_No (fun U H q => (hN U H q).2.1) (Or.inr ⟨dL_due_13, rfl⟩) (by decide) rfl ?_
  refine g_iconst (v := 1) dL_due_15 (by decide) ?_
  exact g_iret rfl dL_due_16
abbrev ML_then : aM := (yL_then, cL_then, 6, some .int, 94, [(0, 12, 15, 18), (0, 12, 19, 13)])
theorem kH_then : aCalH ML_then 5 := ⟨(aIn1 1028 (by decide +kernel) rfl), (aIn1 94 (by decide +kernel) rfl), ⟨by decide, by decide⟩, by decide +kernel, by decide, (aIn1 1027 (by decide +kernel) rfl)⟩
theorem w0_then {G : aG} {h h' : aH} {a1 a2 a3 : Int32} {fs : List Value} {v : Int32} {u : Nat → Int64} (ha : AC G M_X9_then [.ref 40, .int a1, .int a2, .int a3] h (.inl (some (.int v)), h')) (hx : h[40]? = some (some (.inr (9, fs)))) (ho : h'[132]? = some (aU u)) : ACH G ML_then [.ref 40, .int a1, .int a2, .int a3, .ref 132] h (.inl (some (.int 0)), h'.set 132 (aU (vp_updL u (0 : Int32).toNatClampNeg v.toInt64))) := by
  refine ACH.of (by decide) (Nat.le_of_ble_eq_true rfl) ?_
  show AG G ML_then 0 [some (.ref 40), some (.int a1), some (.int a2), some (.int a3), some (.ref 132), none] [] _ _
  refine g_aload dL_then_0 rfl ?_
  refine g_iconst (v := 0) dL_then_2 (by decide) ?_
  refine g_aload_n dL_then_3 rfl rfl ?_
  refine g_iload_n dL_then_4 rfl rfl ?_
  refine g_iload_n dL_then_5 rfl rfl ?_
  refine g_iload_n dL_then_6 rfl rfl ?_
  refine g_callV (M' := M_X9_then) (as := [.int a1, .int a2, .int a3]) (v := some (.int v)) l_L_40 kV_X9_then (by decide) ha rfl (by decide) hx ⟨_, _, rfl⟩ (Nat.le_of_ble_eq_true rfl) dL_then_7 ?_
  refine g_i2l dL_then_10 ?_
  refine g_last dL_then_11 (by decide) ho vp01 ?_
  refine g_goto (tgt := 23) dL_then_12 (by decide) ?_
  refine g_iconst (v := 0) dL_then_23 (by decide) ?_
  exact g_iret rfl dL_then_24
theorem wN_then {G : aG} {h h' : aH} {a1 a2 a3 : Int32} {fs : List Value} (hN : aNc G) (ha : AC G M_X9_then [.ref 40, .int a1, .int a2, .int a3] h (.inr cNo, h')) (hx : h[40]? = some (some (.inr (9, fs)))) : ACH G ML_then [.ref 40, .int a1, .int a2, .int a3, .ref 132] h (.inl (some (.int 1)), h') := by
  refine ACH.of (by decide) (Nat.le_of_ble_eq_true rfl) ?_
  show AG G ML_then 0 [some (.ref 40), some (.int a1), some (.int a2), some (.int a3), some (.ref 132), none] [] _ _
  refine g_aload dL_then_0 rfl ?_
  refine g_iconst (v := 0) dL_then_2 (by decide) ?_
  refine g_aload_n dL_then_3 rfl rfl ?_
  refine g_iload_n dL_then_4 rfl rfl ?_
  refine g_iload_n dL_then_5 rfl rfl ?_
  refine g_iload_n dL_then_6 rfl rfl ?_
  refine g_catchV (M' := M_X9_then) (as := [.int a1, .int a2, .int a3]) (pre := []) (npc := 17) (i := 5) (nm := cNo) (aIn1 1029 (by decide +kernel) rfl) kV_X9_then (by decide) ha rfl (by decide) hx ⟨_, _, rfl⟩ (Nat.le_of_ble_eq_true rfl) dL_then_7 rfl (fun z hz => absurd hz List.not_mem_nil) (by decide) (by decide) lk_No (fun U H q => (hN U H q).2.1) (Or.inr ⟨dL_then_15, rfl⟩) (by decide) rfl ?_
  refine g_iconst (v := 1) dL_then_17 (by decide) ?_
  exact g_iret rfl dL_then_18
theorem wI_then {G : aG} {h h' : aH} {a1 a2 a3 : Int32} {fs : List Value} (hN : aNc G) (ha : AC G M_X9_then [.ref 40, .int a1, .int a2, .int a3] h (.inr cIl, h')) (hx : h[40]? = some (some (.inr (9, fs)))) : ACH G ML_then [.ref 40, .int a1, .int a2, .int a3, .ref 132] h (.inl (some (.int 2)), h') := by
  refine ACH.of (by decide) (Nat.le_of_ble_eq_true rfl) ?_
  show AG G ML_then 0 [some (.ref 40), some (.int a1), some (.int a2), some (.int a3), some (.ref 132), none] [] _ _
  refine g_aload dL_then_0 rfl ?_
  refine g_iconst (v := 0) dL_then_2 (by decide) ?_
  refine g_aload_n dL_then_3 rfl rfl ?_
  refine g_iload_n dL_then_4 rfl rfl ?_
  refine g_iload_n dL_then_5 rfl rfl ?_
  refine g_iload_n dL_then_6 rfl rfl ?_
  refine g_catchV (M' := M_X9_then) (as := [.int a1, .int a2, .int a3]) (pre := tableOf [(0, 12, 15, 18)]) (npc := 21) (i := 5) (nm := cIl) (aIn1 1029 (by decide +kernel) rfl) kV_X9_then (by decide) ha rfl (by decide) hx ⟨_, _, rfl⟩ (Nat.le_of_ble_eq_true rfl) dL_then_7 rfl (fun z hz => by obtain rfl := List.mem_singleton.mp hz; exact Or.inr ⟨by decide, cNo, lk_No, fun U H q => (hN U H q).1⟩) (by decide) (by decide) lk_Il (fun U H q => (hN U H q).2.2) (Or.inr ⟨dL_then_19, rfl⟩) (by decide) rfl ?_
  refine g_iconst (v := 2) dL_then_21 (by decide) ?_
  exact g_iret rfl dL_then_22
abbrev ML_later : aM := (yL_later, cL_later, 6, some .int, 94, [(0, 12, 15, 18), (0, 12, 19, 13)])
theorem kH_later : aCalH ML_later 5 := ⟨(aIn1 1043 (by decide +kernel) rfl), (aIn1 94 (by decide +kernel) rfl), ⟨by decide, by decide⟩, by decide +kernel, by decide, (aIn1 1042 (by decide +kernel) rfl)⟩
theorem w0_later {G : aG} {h h' : aH} {a1 a2 a3 : Int32} {fs : List Value} {v : Int32} {u : Nat → Int64} (ha : AC G M_X9_later [.ref 40, .int a1, .int a2, .int a3] h (.inl (some (.int v)), h')) (hx : h[40]? = some (some (.inr (9, fs)))) (ho : h'[132]? = some (aU u)) : ACH G ML_later [.ref 40, .int a1, .int a2, .int a3, .ref 132] h (.inl (some (.int 0)), h'.set 132 (aU (vp_updL u (0 : Int32).toNatClampNeg v.toInt64))) := by
  refine ACH.of (by decide) (Nat.le_of_ble_eq_true rfl) ?_
  show AG G ML_later 0 [some (.ref 40), some (.int a1), some (.int a2), some (.int a3), some (.ref 132), none] [] _ _
  refine g_aload dL_later_0 rfl ?_
  refine g_iconst (v := 0) dL_later_2 (by decide) ?_
  refine g_aload_n dL_later_3 rfl rfl ?_
  refine g_iload_n dL_later_4 rfl rfl ?_
  refine g_iload_n dL_later_5 rfl rfl ?_
  refine g_iload_n dL_later_6 rfl rfl ?_
  refine g_callV (M' := M_X9_later) (as := [.int a1, .int a2, .int a3]) (v := some (.int v)) l_L_44 kV_X9_later (by decide) ha rfl (by decide) hx ⟨_, _, rfl⟩ (Nat.le_of_ble_eq_true rfl) dL_later_7 ?_
  refine g_i2l dL_later_10 ?_
  refine g_last dL_later_11 (by decide) ho vp01 ?_
  refine g_goto (tgt := 23) dL_later_12 (by decide) ?_
  refine g_iconst (v := 0) dL_later_23 (by decide) ?_
  exact g_iret rfl dL_later_24
theorem wN_later {G : aG} {h h' : aH} {a1 a2 a3 : Int32} {fs : List Value} (hN : aNc G) (ha : AC G M_X9_later [.ref 40, .int a1, .int a2, .int a3] h (.inr cNo, h')) (hx : h[40]? = some (some (.inr (9, fs)))) : ACH G ML_later [.ref 40, .int a1, .int a2, .int a3, .ref 132] h (.inl (some (.int 1)), h') := by
  refine ACH.of (by decide) (Nat.le_of_ble_eq_true rfl) ?_
  show AG G ML_later 0 [some (.ref 40), some (.int a1), some (.int a2), some (.int a3), some (.ref 132), none] [] _ _
  refine g_aload dL_later_0 rfl ?_
  refine g_iconst (v := 0) dL_later_2 (by decide) ?_
  refine g_aload_n dL_later_3 rfl rfl ?_
  refine g_iload_n dL_later_4 rfl rfl ?_
  refine g_iload_n dL_later_5 rfl rfl ?_
  refine g_iload_n dL_later_6 rfl rfl ?_
  refine g_catchV (M' := M_X9_later) (as := [.int a1, .int a2, .int a3]) (pre := []) (npc := 17) (i := 5) (nm := cNo) (aIn1 1044 (by decide +kernel) rfl) kV_X9_later (by decide) ha rfl (by decide) hx ⟨_, _, rfl⟩ (Nat.le_of_ble_eq_true rfl) dL_later_7 rfl (fun z hz => absurd hz List.not_mem_nil) (by decide) (by decide) lk_No (fun U H q => (hN U H q).2.1) (Or.inr ⟨dL_later_15, rfl⟩) (by decide) rfl ?_
  refine g_iconst (v := 1) dL_later_17 (by decide) ?_
  exact g_iret rfl dL_later_18
theorem wI_later {G : aG} {h h' : aH} {a1 a2 a3 : Int32} {fs : List Value} (hN : aNc G) (ha : AC G M_X9_later [.ref 40, .int a1, .int a2, .int a3] h (.inr cIl, h')) (hx : h[40]? = some (some (.inr (9, fs)))) : ACH G ML_later [.ref 40, .int a1, .int a2, .int a3, .ref 132] h (.inl (some (.int 2)), h') := by
  refine ACH.of (by decide) (Nat.le_of_ble_eq_true rfl) ?_
  show AG G ML_later 0 [some (.ref 40), some (.int a1), some (.int a2), some (.int a3), some (.ref 132), none] [] _ _
  refine g_aload dL_later_0 rfl ?_
  refine g_iconst (v := 0) dL_later_2 (by decide) ?_
  refine g_aload_n dL_later_3 rfl rfl ?_
  refine g_iload_n dL_later_4 rfl rfl ?_
  refine g_iload_n dL_later_5 rfl rfl ?_
  refine g_iload_n dL_later_6 rfl rfl ?_
  refine g_catchV (M' := M_X9_later) (as := [.int a1, .int a2, .int a3]) (pre := tableOf [(0, 12, 15, 18)]) (npc := 21) (i := 5) (nm := cIl) (aIn1 1044 (by decide +kernel) rfl) kV_X9_later (by decide) ha rfl (by decide) hx ⟨_, _, rfl⟩ (Nat.le_of_ble_eq_true rfl) dL_later_7 rfl (fun z hz => by obtain rfl := List.mem_singleton.mp hz; exact Or.inr ⟨by decide, cNo, lk_No, fun U H q => (hN U H q).1⟩) (by decide) (by decide) lk_Il (fun U H q => (hN U H q).2.2) (Or.inr ⟨dL_later_19, rfl⟩) (by decide) rfl ?_
  refine g_iconst (v := 2) dL_later_21 (by decide) ?_
  exact g_iret rfl dL_later_22
abbrev ML_first : aM := (yL_first, cL_first, 4, some .int, 94, [(0, 9, 12, 18)])
theorem kH_first : aCalH ML_first 3 := ⟨(aIn1 1050 (by decide +kernel) rfl), (aIn1 94 (by decide +kernel) rfl), ⟨by decide, by decide⟩, by decide +kernel, by decide, (aIn1 1049 (by decide +kernel) rfl)⟩
theorem w0_first {G : aG} {h h' : aH} {a1 : Int32} {fs : List Value} {v : Int32} {u : Nat → Int64} (ha : AC G M_X9_first [.ref 40, .int a1] h (.inl (some (.int v)), h')) (hx : h[40]? = some (some (.inr (9, fs)))) (ho : h'[132]? = some (aU u)) : ACH G ML_first [.ref 40, .int a1, .ref 132] h (.inl (some (.int 0)), h'.set 132 (aU (vp_updL u (0 : Int32).toNatClampNeg v.toInt64))) := by
  refine ACH.of (by decide) (Nat.le_of_ble_eq_true rfl) ?_
  show AG G ML_first 0 [some (.ref 40), some (.int a1), some (.ref 132), none] [] _ _
  refine g_aload_n dL_first_0 rfl rfl ?_
  refine g_iconst (v := 0) dL_first_1 (by decide) ?_
  refine g_aload_n dL_first_2 rfl rfl ?_
  refine g_iload_n dL_first_3 rfl rfl ?_
  refine g_callV (M' := M_X9_first) (as := [.int a1]) (v := some (.int v)) l_L_47 kV_X9_first (by decide) ha rfl (by decide) hx ⟨_, _, rfl⟩ (Nat.le_of_ble_eq_true rfl) dL_first_4 ?_
  refine g_i2l dL_first_7 ?_
  refine g_last dL_first_8 (by decide) ho vp01 ?_
  refine g_goto (tgt := 15) dL_first_9 (by decide) ?_
  refine g_iconst (v := 0) dL_first_15 (by decide) ?_
  exact g_iret rfl dL_first_16
theorem wN_first {G : aG} {h h' : aH} {a1 : Int32} {fs : List Value} (hN : aNc G) (ha : AC G M_X9_first [.ref 40, .int a1] h (.inr cNo, h')) (hx : h[40]? = some (some (.inr (9, fs)))) : ACH G ML_first [.ref 40, .int a1, .ref 132] h (.inl (some (.int 1)), h') := by
  refine ACH.of (by decide) (Nat.le_of_ble_eq_true rfl) ?_
  show AG G ML_first 0 [some (.ref 40), some (.int a1), some (.ref 132), none] [] _ _
  refine g_aload_n dL_first_0 rfl rfl ?_
  refine g_iconst (v := 0) dL_first_1 (by decide) ?_
  refine g_aload_n dL_first_2 rfl rfl ?_
  refine g_iload_n dL_first_3 rfl rfl ?_
  refine g_catchV (M' := M_X9_first) (as := [.int a1]) (pre := []) (npc := 13) (i := 3) (nm := cNo) (aIn1 1051 (by decide +kernel) rfl) kV_X9_first (by decide) ha rfl (by decide) hx ⟨_, _, rfl⟩ (Nat.le_of_ble_eq_true rfl) dL_first_4 rfl (fun z hz => absurd hz List.not_mem_nil) (by decide) (by decide) lk_No (fun U H q => (hN U H q).2.1) (Or.inl ⟨3, dL_first_12, rfl, rfl⟩) (by decide) rfl ?_
  refine g_iconst (v := 1) dL_first_13 (by decide) ?_
  exact g_iret rfl dL_first_14
abbrev ML_worst : aM := (yL_worst, cL_worst, 4, some .int, 94, [(0, 9, 12, 13)])
theorem kH_worst : aCalH ML_worst 3 := ⟨(aIn1 1059 (by decide +kernel) rfl), (aIn1 94 (by decide +kernel) rfl), ⟨by decide, by decide⟩, by decide +kernel, by decide, (aIn1 1058 (by decide +kernel) rfl)⟩
theorem w0_worst {G : aG} {h h' : aH} {a1 : Int32} {fs : List Value} {v : Int32} {u : Nat → Int64} (ha : AC G M_X9_worst [.ref 40, .int a1] h (.inl (some (.int v)), h')) (hx : h[40]? = some (some (.inr (9, fs)))) (ho : h'[132]? = some (aU u)) : ACH G ML_worst [.ref 40, .int a1, .ref 132] h (.inl (some (.int 0)), h'.set 132 (aU (vp_updL u (0 : Int32).toNatClampNeg v.toInt64))) := by
  refine ACH.of (by decide) (Nat.le_of_ble_eq_true rfl) ?_
  show AG G ML_worst 0 [some (.ref 40), some (.int a1), some (.ref 132), none] [] _ _
  refine g_aload_n dL_worst_0 rfl rfl ?_
  refine g_iconst (v := 0) dL_worst_1 (by decide) ?_
  refine g_aload_n dL_worst_2 rfl rfl ?_
  refine g_iload_n dL_worst_3 rfl rfl ?_
  refine g_callV (M' := M_X9_worst) (as := [.int a1]) (v := some (.int v)) l_L_50 kV_X9_worst (by decide) ha rfl (by decide) hx ⟨_, _, rfl⟩ (Nat.le_of_ble_eq_true rfl) dL_worst_4 ?_
  refine g_i2l dL_worst_7 ?_
  refine g_last dL_worst_8 (by decide) ho vp01 ?_
  refine g_goto (tgt := 15) dL_worst_9 (by decide) ?_
  refine g_iconst (v := 0) dL_worst_15 (by decide) ?_
  exact g_iret rfl dL_worst_16
theorem wI_worst {G : aG} {h h' : aH} {a1 : Int32} {fs : List Value} (hN : aNc G) (ha : AC G M_X9_worst [.ref 40, .int a1] h (.inr cIl, h')) (hx : h[40]? = some (some (.inr (9, fs)))) : ACH G ML_worst [.ref 40, .int a1, .ref 132] h (.inl (some (.int 1)), h') := by
  refine ACH.of (by decide) (Nat.le_of_ble_eq_true rfl) ?_
  show AG G ML_worst 0 [some (.ref 40), some (.int a1), some (.ref 132), none] [] _ _
  refine g_aload_n dL_worst_0 rfl rfl ?_
  refine g_iconst (v := 0) dL_worst_1 (by decide) ?_
  refine g_aload_n dL_worst_2 rfl rfl ?_
  refine g_iload_n dL_worst_3 rfl rfl ?_
  refine g_catchV (M' := M_X9_worst) (as := [.int a1]) (pre := []) (npc := 13) (i := 3) (nm := cIl) (aIn1 1060 (by decide +kernel) rfl) kV_X9_worst (by decide) ha rfl (by decide) hx ⟨_, _, rfl⟩ (Nat.le_of_ble_eq_true rfl) dL_worst_4 rfl (fun z hz => absurd hz List.not_mem_nil) (by decide) (by decide) lk_Il (fun U H q => (hN U H q).2.2) (Or.inl ⟨3, dL_worst_12, rfl, rfl⟩) (by decide) rfl ?_
  refine g_iconst (v := 1) dL_worst_13 (by decide) ?_
  exact g_iret rfl dL_worst_14
abbrev ML_idle : aM := (yL_idle, cL_idle, 4, some .int, 94, [(0, 9, 12, 13)])
theorem kH_idle : aCalH ML_idle 3 := ⟨(aIn1 1066 (by decide +kernel) rfl), (aIn1 94 (by decide +kernel) rfl), ⟨by decide, by decide⟩, by decide +kernel, by decide, (aIn1 1065 (by decide +kernel) rfl)⟩
theorem w0_idle {G : aG} {h h' : aH} {a1 : Int32} {fs : List Value} {v : Int32} {u : Nat → Int64} (ha : AC G M_X9_idle [.ref 40, .int a1] h (.inl (some (.int v)), h')) (hx : h[40]? = some (some (.inr (9, fs)))) (ho : h'[132]? = some (aU u)) : ACH G ML_idle [.ref 40, .int a1, .ref 132] h (.inl (some (.int 0)), h'.set 132 (aU (vp_updL u (0 : Int32).toNatClampNeg v.toInt64))) := by
  refine ACH.of (by decide) (Nat.le_of_ble_eq_true rfl) ?_
  show AG G ML_idle 0 [some (.ref 40), some (.int a1), some (.ref 132), none] [] _ _
  refine g_aload_n dL_idle_0 rfl rfl ?_
  refine g_iconst (v := 0) dL_idle_1 (by decide) ?_
  refine g_aload_n dL_idle_2 rfl rfl ?_
  refine g_iload_n dL_idle_3 rfl rfl ?_
  refine g_callV (M' := M_X9_idle) (as := [.int a1]) (v := some (.int v)) l_L_53 kV_X9_idle (by decide) ha rfl (by decide) hx ⟨_, _, rfl⟩ (Nat.le_of_ble_eq_true rfl) dL_idle_4 ?_
  refine g_i2l dL_idle_7 ?_
  refine g_last dL_idle_8 (by decide) ho vp01 ?_
  refine g_goto (tgt := 15) dL_idle_9 (by decide) ?_
  refine g_iconst (v := 0) dL_idle_15 (by decide) ?_
  exact g_iret rfl dL_idle_16
theorem wI_idle {G : aG} {h h' : aH} {a1 : Int32} {fs : List Value} (hN : aNc G) (ha : AC G M_X9_idle [.ref 40, .int a1] h (.inr cIl, h')) (hx : h[40]? = some (some (.inr (9, fs)))) : ACH G ML_idle [.ref 40, .int a1, .ref 132] h (.inl (some (.int 1)), h') := by
  refine ACH.of (by decide) (Nat.le_of_ble_eq_true rfl) ?_
  show AG G ML_idle 0 [some (.ref 40), some (.int a1), some (.ref 132), none] [] _ _
  refine g_aload_n dL_idle_0 rfl rfl ?_
  refine g_iconst (v := 0) dL_idle_1 (by decide) ?_
  refine g_aload_n dL_idle_2 rfl rfl ?_
  refine g_iload_n dL_idle_3 rfl rfl ?_
  refine g_catchV (M' := M_X9_idle) (as := [.int a1]) (pre := []) (npc := 13) (i := 3) (nm := cIl) (aIn1 1067 (by decide +kernel) rfl) kV_X9_idle (by decide) ha rfl (by decide) hx ⟨_, _, rfl⟩ (Nat.le_of_ble_eq_true rfl) dL_idle_4 rfl (fun z hz => absurd hz List.not_mem_nil) (by decide) (by decide) lk_Il (fun U H q => (hN U H q).2.2) (Or.inl ⟨3, dL_idle_12, rfl, rfl⟩) (by decide) rfl ?_
  refine g_iconst (v := 1) dL_idle_13 (by decide) ?_
  exact g_iret rfl dL_idle_14
abbrev ML_round : aM := (yL_round, cL_round, 4, some .int, 94, [(0, 9, 12, 18)])
theorem kH_round : aCalH ML_round 3 := ⟨(aIn1 1073 (by decide +kernel) rfl), (aIn1 94 (by decide +kernel) rfl), ⟨by decide, by decide⟩, by decide +kernel, by decide, (aIn1 1072 (by decide +kernel) rfl)⟩
theorem w0_round {G : aG} {h h' : aH} {a1 : Int32} {fs : List Value} {v : Int32} {u : Nat → Int64} (ha : AC G M_X9_round [.ref 40, .int a1] h (.inl (some (.int v)), h')) (hx : h[40]? = some (some (.inr (9, fs)))) (ho : h'[132]? = some (aU u)) : ACH G ML_round [.ref 40, .int a1, .ref 132] h (.inl (some (.int 0)), h'.set 132 (aU (vp_updL u (0 : Int32).toNatClampNeg v.toInt64))) := by
  refine ACH.of (by decide) (Nat.le_of_ble_eq_true rfl) ?_
  show AG G ML_round 0 [some (.ref 40), some (.int a1), some (.ref 132), none] [] _ _
  refine g_aload_n dL_round_0 rfl rfl ?_
  refine g_iconst (v := 0) dL_round_1 (by decide) ?_
  refine g_aload_n dL_round_2 rfl rfl ?_
  refine g_iload_n dL_round_3 rfl rfl ?_
  refine g_callV (M' := M_X9_round) (as := [.int a1]) (v := some (.int v)) l_L_56 kV_X9_round (by decide) ha rfl (by decide) hx ⟨_, _, rfl⟩ (Nat.le_of_ble_eq_true rfl) dL_round_4 ?_
  refine g_i2l dL_round_7 ?_
  refine g_last dL_round_8 (by decide) ho vp01 ?_
  refine g_goto (tgt := 15) dL_round_9 (by decide) ?_
  refine g_iconst (v := 0) dL_round_15 (by decide) ?_
  exact g_iret rfl dL_round_16
theorem wN_round {G : aG} {h h' : aH} {a1 : Int32} {fs : List Value} (hN : aNc G) (ha : AC G M_X9_round [.ref 40, .int a1] h (.inr cNo, h')) (hx : h[40]? = some (some (.inr (9, fs)))) : ACH G ML_round [.ref 40, .int a1, .ref 132] h (.inl (some (.int 1)), h') := by
  refine ACH.of (by decide) (Nat.le_of_ble_eq_true rfl) ?_
  show AG G ML_round 0 [some (.ref 40), some (.int a1), some (.ref 132), none] [] _ _
  refine g_aload_n dL_round_0 rfl rfl ?_
  refine g_iconst (v := 0) dL_round_1 (by decide) ?_
  refine g_aload_n dL_round_2 rfl rfl ?_
  refine g_iload_n dL_round_3 rfl rfl ?_
  refine g_catchV (M' := M_X9_round) (as := [.int a1]) (pre := []) (npc := 13) (i := 3) (nm := cNo) (aIn1 1074 (by decide +kernel) rfl) kV_X9_round (by decide) ha rfl (by decide) hx ⟨_, _, rfl⟩ (Nat.le_of_ble_eq_true rfl) dL_round_4 rfl (fun z hz => absurd hz List.not_mem_nil) (by decide) (by decide) lk_No (fun U H q => (hN U H q).2.1) (Or.inl ⟨3, dL_round_12, rfl, rfl⟩) (by decide) rfl ?_
  refine g_iconst (v := 1) dL_round_13 (by decide) ?_
  exact g_iret rfl dL_round_14
abbrev ML_delay : aM := (yL_delay, cL_delay, 5, some .int, 94, [(0, 10, 13, 18)])
theorem kH_delay : aCalH ML_delay 4 := ⟨(aIn1 1088 (by decide +kernel) rfl), (aIn1 94 (by decide +kernel) rfl), ⟨by decide, by decide⟩, by decide +kernel, by decide, (aIn1 1087 (by decide +kernel) rfl)⟩
theorem w0_delay {G : aG} {h h' : aH} {a1 a2 : Int32} {fs : List Value} {v : Int32} {u : Nat → Int64} (ha : AC G M_X9_delay [.ref 40, .int a1, .int a2] h (.inl (some (.int v)), h')) (hx : h[40]? = some (some (.inr (9, fs)))) (ho : h'[132]? = some (aU u)) : ACH G ML_delay [.ref 40, .int a1, .int a2, .ref 132] h (.inl (some (.int 0)), h'.set 132 (aU (vp_updL u (0 : Int32).toNatClampNeg v.toInt64))) := by
  refine ACH.of (by decide) (Nat.le_of_ble_eq_true rfl) ?_
  show AG G ML_delay 0 [some (.ref 40), some (.int a1), some (.int a2), some (.ref 132), none] [] _ _
  refine g_aload_n dL_delay_0 rfl rfl ?_
  refine g_iconst (v := 0) dL_delay_1 (by decide) ?_
  refine g_aload_n dL_delay_2 rfl rfl ?_
  refine g_iload_n dL_delay_3 rfl rfl ?_
  refine g_iload_n dL_delay_4 rfl rfl ?_
  refine g_callV (M' := M_X9_delay) (as := [.int a1, .int a2]) (v := some (.int v)) l_L_59 kV_X9_delay (by decide) ha rfl (by decide) hx ⟨_, _, rfl⟩ (Nat.le_of_ble_eq_true rfl) dL_delay_5 ?_
  refine g_i2l dL_delay_8 ?_
  refine g_last dL_delay_9 (by decide) ho vp01 ?_
  refine g_goto (tgt := 17) dL_delay_10 (by decide) ?_
  refine g_iconst (v := 0) dL_delay_17 (by decide) ?_
  exact g_iret rfl dL_delay_18
theorem wN_delay {G : aG} {h h' : aH} {a1 a2 : Int32} {fs : List Value} (hN : aNc G) (ha : AC G M_X9_delay [.ref 40, .int a1, .int a2] h (.inr cNo, h')) (hx : h[40]? = some (some (.inr (9, fs)))) : ACH G ML_delay [.ref 40, .int a1, .int a2, .ref 132] h (.inl (some (.int 1)), h') := by
  refine ACH.of (by decide) (Nat.le_of_ble_eq_true rfl) ?_
  show AG G ML_delay 0 [some (.ref 40), some (.int a1), some (.int a2), some (.ref 132), none] [] _ _
  refine g_aload_n dL_delay_0 rfl rfl ?_
  refine g_iconst (v := 0) dL_delay_1 (by decide) ?_
  refine g_aload_n dL_delay_2 rfl rfl ?_
  refine g_iload_n dL_delay_3 rfl rfl ?_
  refine g_iload_n dL_delay_4 rfl rfl ?_
  refine g_catchV (M' := M_X9_delay) (as := [.int a1, .int a2]) (pre := []) (npc := 15) (i := 4) (nm := cNo) (aIn1 1089 (by decide +kernel) rfl) kV_X9_delay (by decide) ha rfl (by decide) hx ⟨_, _, rfl⟩ (Nat.le_of_ble_eq_true rfl) dL_delay_5 rfl (fun z hz => absurd hz List.not_mem_nil) (by decide) (by decide) lk_No (fun U H q => (hN U H q).2.1) (Or.inr ⟨dL_delay_13, rfl⟩) (by decide) rfl ?_
  refine g_iconst (v := 1) dL_delay_15 (by decide) ?_
  exact g_iret rfl dL_delay_16
abbrev ML_club : aM := (yL_club, cL_club, 5, some .int, 94, [(0, 10, 13, 18), (0, 10, 17, 13)])
theorem kH_club : aCalH ML_club 4 := ⟨(aIn1 1102 (by decide +kernel) rfl), (aIn1 94 (by decide +kernel) rfl), ⟨by decide, by decide⟩, by decide +kernel, by decide, (aIn1 1101 (by decide +kernel) rfl)⟩
theorem w0_club {G : aG} {h h' : aH} {a1 a2 : Int32} {fs : List Value} {v : Int32} {u : Nat → Int64} (ha : AC G M_X9_club [.ref 40, .int a1, .int a2] h (.inl (some (.int v)), h')) (hx : h[40]? = some (some (.inr (9, fs)))) (ho : h'[132]? = some (aU u)) : ACH G ML_club [.ref 40, .int a1, .int a2, .ref 132] h (.inl (some (.int 0)), h'.set 132 (aU (vp_updL u (0 : Int32).toNatClampNeg v.toInt64))) := by
  refine ACH.of (by decide) (Nat.le_of_ble_eq_true rfl) ?_
  show AG G ML_club 0 [some (.ref 40), some (.int a1), some (.int a2), some (.ref 132), none] [] _ _
  refine g_aload_n dL_club_0 rfl rfl ?_
  refine g_iconst (v := 0) dL_club_1 (by decide) ?_
  refine g_aload_n dL_club_2 rfl rfl ?_
  refine g_iload_n dL_club_3 rfl rfl ?_
  refine g_iload_n dL_club_4 rfl rfl ?_
  refine g_callV (M' := M_X9_club) (as := [.int a1, .int a2]) (v := some (.int v)) l_L_62 kV_X9_club (by decide) ha rfl (by decide) hx ⟨_, _, rfl⟩ (Nat.le_of_ble_eq_true rfl) dL_club_5 ?_
  refine g_i2l dL_club_8 ?_
  refine g_last dL_club_9 (by decide) ho vp01 ?_
  refine g_goto (tgt := 21) dL_club_10 (by decide) ?_
  refine g_iconst (v := 0) dL_club_21 (by decide) ?_
  exact g_iret rfl dL_club_22
theorem wN_club {G : aG} {h h' : aH} {a1 a2 : Int32} {fs : List Value} (hN : aNc G) (ha : AC G M_X9_club [.ref 40, .int a1, .int a2] h (.inr cNo, h')) (hx : h[40]? = some (some (.inr (9, fs)))) : ACH G ML_club [.ref 40, .int a1, .int a2, .ref 132] h (.inl (some (.int 1)), h') := by
  refine ACH.of (by decide) (Nat.le_of_ble_eq_true rfl) ?_
  show AG G ML_club 0 [some (.ref 40), some (.int a1), some (.int a2), some (.ref 132), none] [] _ _
  refine g_aload_n dL_club_0 rfl rfl ?_
  refine g_iconst (v := 0) dL_club_1 (by decide) ?_
  refine g_aload_n dL_club_2 rfl rfl ?_
  refine g_iload_n dL_club_3 rfl rfl ?_
  refine g_iload_n dL_club_4 rfl rfl ?_
  refine g_catchV (M' := M_X9_club) (as := [.int a1, .int a2]) (pre := []) (npc := 15) (i := 4) (nm := cNo) (aIn1 1103 (by decide +kernel) rfl) kV_X9_club (by decide) ha rfl (by decide) hx ⟨_, _, rfl⟩ (Nat.le_of_ble_eq_true rfl) dL_club_5 rfl (fun z hz => absurd hz List.not_mem_nil) (by decide) (by decide) lk_No (fun U H q => (hN U H q).2.1) (Or.inr ⟨dL_club_13, rfl⟩) (by decide) rfl ?_
  refine g_iconst (v := 1) dL_club_15 (by decide) ?_
  exact g_iret rfl dL_club_16
theorem wI_club {G : aG} {h h' : aH} {a1 a2 : Int32} {fs : List Value} (hN : aNc G) (ha : AC G M_X9_club [.ref 40, .int a1, .int a2] h (.inr cIl, h')) (hx : h[40]? = some (some (.inr (9, fs)))) : ACH G ML_club [.ref 40, .int a1, .int a2, .ref 132] h (.inl (some (.int 2)), h') := by
  refine ACH.of (by decide) (Nat.le_of_ble_eq_true rfl) ?_
  show AG G ML_club 0 [some (.ref 40), some (.int a1), some (.int a2), some (.ref 132), none] [] _ _
  refine g_aload_n dL_club_0 rfl rfl ?_
  refine g_iconst (v := 0) dL_club_1 (by decide) ?_
  refine g_aload_n dL_club_2 rfl rfl ?_
  refine g_iload_n dL_club_3 rfl rfl ?_
  refine g_iload_n dL_club_4 rfl rfl ?_
  refine g_catchV (M' := M_X9_club) (as := [.int a1, .int a2]) (pre := tableOf [(0, 10, 13, 18)]) (npc := 19) (i := 4) (nm := cIl) (aIn1 1103 (by decide +kernel) rfl) kV_X9_club (by decide) ha rfl (by decide) hx ⟨_, _, rfl⟩ (Nat.le_of_ble_eq_true rfl) dL_club_5 rfl (fun z hz => by obtain rfl := List.mem_singleton.mp hz; exact Or.inr ⟨by decide, cNo, lk_No, fun U H q => (hN U H q).1⟩) (by decide) (by decide) lk_Il (fun U H q => (hN U H q).2.2) (Or.inr ⟨dL_club_17, rfl⟩) (by decide) rfl ?_
  refine g_iconst (v := 2) dL_club_19 (by decide) ?_
  exact g_iret rfl dL_club_20
abbrev ML_rota : aM := (yL_rota, cL_rota, 4, some .int, 94, [(0, 9, 12, 18)])
theorem kH_rota : aCalH ML_rota 3 := ⟨(aIn1 1110 (by decide +kernel) rfl), (aIn1 94 (by decide +kernel) rfl), ⟨by decide, by decide⟩, by decide +kernel, by decide, (aIn1 1109 (by decide +kernel) rfl)⟩
theorem w0_rota {G : aG} {h h' : aH} {a1 : Int32} {fs : List Value} {v : Int32} {u : Nat → Int64} (ha : AC G M_X9_rota [.ref 40, .int a1] h (.inl (some (.int v)), h')) (hx : h[40]? = some (some (.inr (9, fs)))) (ho : h'[132]? = some (aU u)) : ACH G ML_rota [.ref 40, .int a1, .ref 132] h (.inl (some (.int 0)), h'.set 132 (aU (vp_updL u (0 : Int32).toNatClampNeg v.toInt64))) := by
  refine ACH.of (by decide) (Nat.le_of_ble_eq_true rfl) ?_
  show AG G ML_rota 0 [some (.ref 40), some (.int a1), some (.ref 132), none] [] _ _
  refine g_aload_n dL_rota_0 rfl rfl ?_
  refine g_iconst (v := 0) dL_rota_1 (by decide) ?_
  refine g_aload_n dL_rota_2 rfl rfl ?_
  refine g_iload_n dL_rota_3 rfl rfl ?_
  refine g_callV (M' := M_X9_rota) (as := [.int a1]) (v := some (.int v)) l_L_65 kV_X9_rota (by decide) ha rfl (by decide) hx ⟨_, _, rfl⟩ (Nat.le_of_ble_eq_true rfl) dL_rota_4 ?_
  refine g_i2l dL_rota_7 ?_
  refine g_last dL_rota_8 (by decide) ho vp01 ?_
  refine g_goto (tgt := 15) dL_rota_9 (by decide) ?_
  refine g_iconst (v := 0) dL_rota_15 (by decide) ?_
  exact g_iret rfl dL_rota_16
theorem wN_rota {G : aG} {h h' : aH} {a1 : Int32} {fs : List Value} (hN : aNc G) (ha : AC G M_X9_rota [.ref 40, .int a1] h (.inr cNo, h')) (hx : h[40]? = some (some (.inr (9, fs)))) : ACH G ML_rota [.ref 40, .int a1, .ref 132] h (.inl (some (.int 1)), h') := by
  refine ACH.of (by decide) (Nat.le_of_ble_eq_true rfl) ?_
  show AG G ML_rota 0 [some (.ref 40), some (.int a1), some (.ref 132), none] [] _ _
  refine g_aload_n dL_rota_0 rfl rfl ?_
  refine g_iconst (v := 0) dL_rota_1 (by decide) ?_
  refine g_aload_n dL_rota_2 rfl rfl ?_
  refine g_iload_n dL_rota_3 rfl rfl ?_
  refine g_catchV (M' := M_X9_rota) (as := [.int a1]) (pre := []) (npc := 13) (i := 3) (nm := cNo) (aIn1 1111 (by decide +kernel) rfl) kV_X9_rota (by decide) ha rfl (by decide) hx ⟨_, _, rfl⟩ (Nat.le_of_ble_eq_true rfl) dL_rota_4 rfl (fun z hz => absurd hz List.not_mem_nil) (by decide) (by decide) lk_No (fun U H q => (hN U H q).2.1) (Or.inl ⟨3, dL_rota_12, rfl, rfl⟩) (by decide) rfl ?_
  refine g_iconst (v := 1) dL_rota_13 (by decide) ?_
  exact g_iret rfl dL_rota_14
abbrev ML_towers : aM := (yL_towers, cL_towers, 5, some .int, 94, [(0, 10, 13, 18), (0, 10, 17, 13)])
theorem kH_towers : aCalH ML_towers 4 := ⟨(aIn1 1136 (by decide +kernel) rfl), (aIn1 94 (by decide +kernel) rfl), ⟨by decide, by decide⟩, by decide +kernel, by decide, (aIn1 1135 (by decide +kernel) rfl)⟩
theorem w0_towers {G : aG} {h h' : aH} {a1 a2 : Int32} {fs : List Value} {v : Int32} {u : Nat → Int64} (ha : AC G M_X9_towers [.ref 40, .int a1, .int a2] h (.inl (some (.int v)), h')) (hx : h[40]? = some (some (.inr (9, fs)))) (ho : h'[132]? = some (aU u)) : ACH G ML_towers [.ref 40, .int a1, .int a2, .ref 132] h (.inl (some (.int 0)), h'.set 132 (aU (vp_updL u (0 : Int32).toNatClampNeg v.toInt64))) := by
  refine ACH.of (by decide) (Nat.le_of_ble_eq_true rfl) ?_
  show AG G ML_towers 0 [some (.ref 40), some (.int a1), some (.int a2), some (.ref 132), none] [] _ _
  refine g_aload_n dL_towers_0 rfl rfl ?_
  refine g_iconst (v := 0) dL_towers_1 (by decide) ?_
  refine g_aload_n dL_towers_2 rfl rfl ?_
  refine g_iload_n dL_towers_3 rfl rfl ?_
  refine g_iload_n dL_towers_4 rfl rfl ?_
  refine g_callV (M' := M_X9_towers) (as := [.int a1, .int a2]) (v := some (.int v)) l_L_68 kV_X9_towers (by decide) ha rfl (by decide) hx ⟨_, _, rfl⟩ (Nat.le_of_ble_eq_true rfl) dL_towers_5 ?_
  refine g_i2l dL_towers_8 ?_
  refine g_last dL_towers_9 (by decide) ho vp01 ?_
  refine g_goto (tgt := 21) dL_towers_10 (by decide) ?_
  refine g_iconst (v := 0) dL_towers_21 (by decide) ?_
  exact g_iret rfl dL_towers_22
theorem wN_towers {G : aG} {h h' : aH} {a1 a2 : Int32} {fs : List Value} (hN : aNc G) (ha : AC G M_X9_towers [.ref 40, .int a1, .int a2] h (.inr cNo, h')) (hx : h[40]? = some (some (.inr (9, fs)))) : ACH G ML_towers [.ref 40, .int a1, .int a2, .ref 132] h (.inl (some (.int 1)), h') := by
  refine ACH.of (by decide) (Nat.le_of_ble_eq_true rfl) ?_
  show AG G ML_towers 0 [some (.ref 40), some (.int a1), some (.int a2), some (.ref 132), none] [] _ _
  refine g_aload_n dL_towers_0 rfl rfl ?_
  refine g_iconst (v := 0) dL_towers_1 (by decide) ?_
  refine g_aload_n dL_towers_2 rfl rfl ?_
  refine g_iload_n dL_towers_3 rfl rfl ?_
  refine g_iload_n dL_towers_4 rfl rfl ?_
  refine g_catchV (M' := M_X9_towers) (as := [.int a1, .int a2]) (pre := []) (npc := 15) (i := 4) (nm := cNo) (aIn1 1137 (by decide +kernel) rfl) kV_X9_towers (by decide) ha rfl (by decide) hx ⟨_, _, rfl⟩ (Nat.le_of_ble_eq_true rfl) dL_towers_5 rfl (fun z hz => absurd hz List.not_mem_nil) (by decide) (by decide) lk_No (fun U H q => (hN U H q).2.1) (Or.inr ⟨dL_towers_13, rfl⟩) (by decide) rfl ?_
  refine g_iconst (v := 1) dL_towers_15 (by decide) ?_
  exact g_iret rfl dL_towers_16
theorem wI_towers {G : aG} {h h' : aH} {a1 a2 : Int32} {fs : List Value} (hN : aNc G) (ha : AC G M_X9_towers [.ref 40, .int a1, .int a2] h (.inr cIl, h')) (hx : h[40]? = some (some (.inr (9, fs)))) : ACH G ML_towers [.ref 40, .int a1, .int a2, .ref 132] h (.inl (some (.int 2)), h') := by
  refine ACH.of (by decide) (Nat.le_of_ble_eq_true rfl) ?_
  show AG G ML_towers 0 [some (.ref 40), some (.int a1), some (.int a2), some (.ref 132), none] [] _ _
  refine g_aload_n dL_towers_0 rfl rfl ?_
  refine g_iconst (v := 0) dL_towers_1 (by decide) ?_
  refine g_aload_n dL_towers_2 rfl rfl ?_
  refine g_iload_n dL_towers_3 rfl rfl ?_
  refine g_iload_n dL_towers_4 rfl rfl ?_
  refine g_catchV (M' := M_X9_towers) (as := [.int a1, .int a2]) (pre := tableOf [(0, 10, 13, 18)]) (npc := 19) (i := 4) (nm := cIl) (aIn1 1137 (by decide +kernel) rfl) kV_X9_towers (by decide) ha rfl (by decide) hx ⟨_, _, rfl⟩ (Nat.le_of_ble_eq_true rfl) dL_towers_5 rfl (fun z hz => by obtain rfl := List.mem_singleton.mp hz; exact Or.inr ⟨by decide, cNo, lk_No, fun U H q => (hN U H q).1⟩) (by decide) (by decide) lk_Il (fun U H q => (hN U H q).2.2) (Or.inr ⟨dL_towers_17, rfl⟩) (by decide) rfl ?_
  refine g_iconst (v := 2) dL_towers_19 (by decide) ?_
  exact g_iret rfl dL_towers_20
abbrev ML_see : aM := (yL_see, cL_see, 6, some .int, 94, [(0, 12, 15, 18)])
theorem kH_see : aCalH ML_see 5 := ⟨(aIn1 1147 (by decide +kernel) rfl), (aIn1 94 (by decide +kernel) rfl), ⟨by decide, by decide⟩, by decide +kernel, by decide, (aIn1 1146 (by decide +kernel) rfl)⟩
theorem w0_see {G : aG} {h h' : aH} {a1 a2 a3 : Int32} {fs : List Value} {v : Int32} {u : Nat → Int64} (ha : AC G M_X9_see [.ref 40, .int a1, .int a2, .int a3] h (.inl (some (.int v)), h')) (hx : h[40]? = some (some (.inr (9, fs)))) (ho : h'[132]? = some (aU u)) : ACH G ML_see [.ref 40, .int a1, .int a2, .int a3, .ref 132] h (.inl (some (.int 0)), h'.set 132 (aU (vp_updL u (0 : Int32).toNatClampNeg v.toInt64))) := by
  refine ACH.of (by decide) (Nat.le_of_ble_eq_true rfl) ?_
  show AG G ML_see 0 [some (.ref 40), some (.int a1), some (.int a2), some (.int a3), some (.ref 132), none] [] _ _
  refine g_aload dL_see_0 rfl ?_
  refine g_iconst (v := 0) dL_see_2 (by decide) ?_
  refine g_aload_n dL_see_3 rfl rfl ?_
  refine g_iload_n dL_see_4 rfl rfl ?_
  refine g_iload_n dL_see_5 rfl rfl ?_
  refine g_iload_n dL_see_6 rfl rfl ?_
  refine g_callV (M' := M_X9_see) (as := [.int a1, .int a2, .int a3]) (v := some (.int v)) l_L_71 kV_X9_see (by decide) ha rfl (by decide) hx ⟨_, _, rfl⟩ (Nat.le_of_ble_eq_true rfl) dL_see_7 ?_
  refine g_i2l dL_see_10 ?_
  refine g_last dL_see_11 (by decide) ho vp01 ?_
  refine g_goto (tgt := 19) dL_see_12 (by decide) ?_
  refine g_iconst (v := 0) dL_see_19 (by decide) ?_
  exact g_iret rfl dL_see_20
theorem wN_see {G : aG} {h h' : aH} {a1 a2 a3 : Int32} {fs : List Value} (hN : aNc G) (ha : AC G M_X9_see [.ref 40, .int a1, .int a2, .int a3] h (.inr cNo, h')) (hx : h[40]? = some (some (.inr (9, fs)))) : ACH G ML_see [.ref 40, .int a1, .int a2, .int a3, .ref 132] h (.inl (some (.int 1)), h') := by
  refine ACH.of (by decide) (Nat.le_of_ble_eq_true rfl) ?_
  show AG G ML_see 0 [some (.ref 40), some (.int a1), some (.int a2), some (.int a3), some (.ref 132), none] [] _ _
  refine g_aload dL_see_0 rfl ?_
  refine g_iconst (v := 0) dL_see_2 (by decide) ?_
  refine g_aload_n dL_see_3 rfl rfl ?_
  refine g_iload_n dL_see_4 rfl rfl ?_
  refine g_iload_n dL_see_5 rfl rfl ?_
  refine g_iload_n dL_see_6 rfl rfl ?_
  refine g_catchV (M' := M_X9_see) (as := [.int a1, .int a2, .int a3]) (pre := []) (npc := 17) (i := 5) (nm := cNo) (aIn1 1148 (by decide +kernel) rfl) kV_X9_see (by decide) ha rfl (by decide) hx ⟨_, _, rfl⟩ (Nat.le_of_ble_eq_true rfl) dL_see_7 rfl (fun z hz => absurd hz List.not_mem_nil) (by decide) (by decide) lk_No (fun U H q => (hN U H q).2.1) (Or.inr ⟨dL_see_15, rfl⟩) (by decide) rfl ?_
  refine g_iconst (v := 1) dL_see_17 (by decide) ?_
  exact g_iret rfl dL_see_18
abbrev ML_habits : aM := (yL_habits, cL_habits, 4, some .int, 94, [(0, 9, 12, 18)])
theorem kH_habits : aCalH ML_habits 3 := ⟨(aIn1 1158 (by decide +kernel) rfl), (aIn1 94 (by decide +kernel) rfl), ⟨by decide, by decide⟩, by decide +kernel, by decide, (aIn1 1157 (by decide +kernel) rfl)⟩
theorem w0_habits {G : aG} {h h' : aH} {a1 : Int32} {fs : List Value} {v : Int32} {u : Nat → Int64} (ha : AC G M_X9_habits [.ref 40, .int a1] h (.inl (some (.int v)), h')) (hx : h[40]? = some (some (.inr (9, fs)))) (ho : h'[132]? = some (aU u)) : ACH G ML_habits [.ref 40, .int a1, .ref 132] h (.inl (some (.int 0)), h'.set 132 (aU (vp_updL u (0 : Int32).toNatClampNeg v.toInt64))) := by
  refine ACH.of (by decide) (Nat.le_of_ble_eq_true rfl) ?_
  show AG G ML_habits 0 [some (.ref 40), some (.int a1), some (.ref 132), none] [] _ _
  refine g_aload_n dL_habits_0 rfl rfl ?_
  refine g_iconst (v := 0) dL_habits_1 (by decide) ?_
  refine g_aload_n dL_habits_2 rfl rfl ?_
  refine g_iload_n dL_habits_3 rfl rfl ?_
  refine g_callV (M' := M_X9_habits) (as := [.int a1]) (v := some (.int v)) l_L_74 kV_X9_habits (by decide) ha rfl (by decide) hx ⟨_, _, rfl⟩ (Nat.le_of_ble_eq_true rfl) dL_habits_4 ?_
  refine g_i2l dL_habits_7 ?_
  refine g_last dL_habits_8 (by decide) ho vp01 ?_
  refine g_goto (tgt := 15) dL_habits_9 (by decide) ?_
  refine g_iconst (v := 0) dL_habits_15 (by decide) ?_
  exact g_iret rfl dL_habits_16
theorem wN_habits {G : aG} {h h' : aH} {a1 : Int32} {fs : List Value} (hN : aNc G) (ha : AC G M_X9_habits [.ref 40, .int a1] h (.inr cNo, h')) (hx : h[40]? = some (some (.inr (9, fs)))) : ACH G ML_habits [.ref 40, .int a1, .ref 132] h (.inl (some (.int 1)), h') := by
  refine ACH.of (by decide) (Nat.le_of_ble_eq_true rfl) ?_
  show AG G ML_habits 0 [some (.ref 40), some (.int a1), some (.ref 132), none] [] _ _
  refine g_aload_n dL_habits_0 rfl rfl ?_
  refine g_iconst (v := 0) dL_habits_1 (by decide) ?_
  refine g_aload_n dL_habits_2 rfl rfl ?_
  refine g_iload_n dL_habits_3 rfl rfl ?_
  refine g_catchV (M' := M_X9_habits) (as := [.int a1]) (pre := []) (npc := 13) (i := 3) (nm := cNo) (aIn1 1159 (by decide +kernel) rfl) kV_X9_habits (by decide) ha rfl (by decide) hx ⟨_, _, rfl⟩ (Nat.le_of_ble_eq_true rfl) dL_habits_4 rfl (fun z hz => absurd hz List.not_mem_nil) (by decide) (by decide) lk_No (fun U H q => (hN U H q).2.1) (Or.inl ⟨3, dL_habits_12, rfl, rfl⟩) (by decide) rfl ?_
  refine g_iconst (v := 1) dL_habits_13 (by decide) ?_
  exact g_iret rfl dL_habits_14
abbrev ML_next : aM := (yL_next, cL_next, 4, some .int, 94, [(0, 9, 12, 18)])
theorem kH_next : aCalH ML_next 3 := ⟨(aIn1 1179 (by decide +kernel) rfl), (aIn1 94 (by decide +kernel) rfl), ⟨by decide, by decide⟩, by decide +kernel, by decide, (aIn1 1178 (by decide +kernel) rfl)⟩
theorem w0_next {G : aG} {h h' : aH} {a1 : Int32} {fs : List Value} {v : Int32} {u : Nat → Int64} (ha : AC G M_X9_next [.ref 40, .int a1] h (.inl (some (.int v)), h')) (hx : h[40]? = some (some (.inr (9, fs)))) (ho : h'[132]? = some (aU u)) : ACH G ML_next [.ref 40, .int a1, .ref 132] h (.inl (some (.int 0)), h'.set 132 (aU (vp_updL u (0 : Int32).toNatClampNeg v.toInt64))) := by
  refine ACH.of (by decide) (Nat.le_of_ble_eq_true rfl) ?_
  show AG G ML_next 0 [some (.ref 40), some (.int a1), some (.ref 132), none] [] _ _
  refine g_aload_n dL_next_0 rfl rfl ?_
  refine g_iconst (v := 0) dL_next_1 (by decide) ?_
  refine g_aload_n dL_next_2 rfl rfl ?_
  refine g_iload_n dL_next_3 rfl rfl ?_
  refine g_callV (M' := M_X9_next) (as := [.int a1]) (v := some (.int v)) l_L_77 kV_X9_next (by decide) ha rfl (by decide) hx ⟨_, _, rfl⟩ (Nat.le_of_ble_eq_true rfl) dL_next_4 ?_
  refine g_i2l dL_next_7 ?_
  refine g_last dL_next_8 (by decide) ho vp01 ?_
  refine g_goto (tgt := 15) dL_next_9 (by decide) ?_
  refine g_iconst (v := 0) dL_next_15 (by decide) ?_
  exact g_iret rfl dL_next_16
theorem wN_next {G : aG} {h h' : aH} {a1 : Int32} {fs : List Value} (hN : aNc G) (ha : AC G M_X9_next [.ref 40, .int a1] h (.inr cNo, h')) (hx : h[40]? = some (some (.inr (9, fs)))) : ACH G ML_next [.ref 40, .int a1, .ref 132] h (.inl (some (.int 1)), h') := by
  refine ACH.of (by decide) (Nat.le_of_ble_eq_true rfl) ?_
  show AG G ML_next 0 [some (.ref 40), some (.int a1), some (.ref 132), none] [] _ _
  refine g_aload_n dL_next_0 rfl rfl ?_
  refine g_iconst (v := 0) dL_next_1 (by decide) ?_
  refine g_aload_n dL_next_2 rfl rfl ?_
  refine g_iload_n dL_next_3 rfl rfl ?_
  refine g_catchV (M' := M_X9_next) (as := [.int a1]) (pre := []) (npc := 13) (i := 3) (nm := cNo) (aIn1 1180 (by decide +kernel) rfl) kV_X9_next (by decide) ha rfl (by decide) hx ⟨_, _, rfl⟩ (Nat.le_of_ble_eq_true rfl) dL_next_4 rfl (fun z hz => absurd hz List.not_mem_nil) (by decide) (by decide) lk_No (fun U H q => (hN U H q).2.1) (Or.inl ⟨3, dL_next_12, rfl, rfl⟩) (by decide) rfl ?_
  refine g_iconst (v := 1) dL_next_13 (by decide) ?_
  exact g_iret rfl dL_next_14
abbrev ML_snow : aM := (yL_snow, cL_snow, 6, some .int, 94, [(0, 12, 15, 18), (0, 12, 19, 13)])
theorem kH_snow : aCalH ML_snow 5 := ⟨(aIn1 1199 (by decide +kernel) rfl), (aIn1 94 (by decide +kernel) rfl), ⟨by decide, by decide⟩, by decide +kernel, by decide, (aIn1 1198 (by decide +kernel) rfl)⟩
theorem w0_snow {G : aG} {h h' : aH} {a1 a2 a3 : Int32} {fs : List Value} {v : Int32} {u : Nat → Int64} (ha : AC G M_X9_snow [.ref 40, .int a1, .int a2, .int a3] h (.inl (some (.int v)), h')) (hx : h[40]? = some (some (.inr (9, fs)))) (ho : h'[132]? = some (aU u)) : ACH G ML_snow [.ref 40, .int a1, .int a2, .int a3, .ref 132] h (.inl (some (.int 0)), h'.set 132 (aU (vp_updL u (0 : Int32).toNatClampNeg v.toInt64))) := by
  refine ACH.of (by decide) (Nat.le_of_ble_eq_true rfl) ?_
  show AG G ML_snow 0 [some (.ref 40), some (.int a1), some (.int a2), some (.int a3), some (.ref 132), none] [] _ _
  refine g_aload dL_snow_0 rfl ?_
  refine g_iconst (v := 0) dL_snow_2 (by decide) ?_
  refine g_aload_n dL_snow_3 rfl rfl ?_
  refine g_iload_n dL_snow_4 rfl rfl ?_
  refine g_iload_n dL_snow_5 rfl rfl ?_
  refine g_iload_n dL_snow_6 rfl rfl ?_
  refine g_callV (M' := M_X9_snow) (as := [.int a1, .int a2, .int a3]) (v := some (.int v)) l_L_80 kV_X9_snow (by decide) ha rfl (by decide) hx ⟨_, _, rfl⟩ (Nat.le_of_ble_eq_true rfl) dL_snow_7 ?_
  refine g_i2l dL_snow_10 ?_
  refine g_last dL_snow_11 (by decide) ho vp01 ?_
  refine g_goto (tgt := 23) dL_snow_12 (by decide) ?_
  refine g_iconst (v := 0) dL_snow_23 (by decide) ?_
  exact g_iret rfl dL_snow_24
theorem wN_snow {G : aG} {h h' : aH} {a1 a2 a3 : Int32} {fs : List Value} (hN : aNc G) (ha : AC G M_X9_snow [.ref 40, .int a1, .int a2, .int a3] h (.inr cNo, h')) (hx : h[40]? = some (some (.inr (9, fs)))) : ACH G ML_snow [.ref 40, .int a1, .int a2, .int a3, .ref 132] h (.inl (some (.int 1)), h') := by
  refine ACH.of (by decide) (Nat.le_of_ble_eq_true rfl) ?_
  show AG G ML_snow 0 [some (.ref 40), some (.int a1), some (.int a2), some (.int a3), some (.ref 132), none] [] _ _
  refine g_aload dL_snow_0 rfl ?_
  refine g_iconst (v := 0) dL_snow_2 (by decide) ?_
  refine g_aload_n dL_snow_3 rfl rfl ?_
  refine g_iload_n dL_snow_4 rfl rfl ?_
  refine g_iload_n dL_snow_5 rfl rfl ?_
  refine g_iload_n dL_snow_6 rfl rfl ?_
  refine g_catchV (M' := M_X9_snow) (as := [.int a1, .int a2, .int a3]) (pre := []) (npc := 17) (i := 5) (nm := cNo) (aIn1 1200 (by decide +kernel) rfl) kV_X9_snow (by decide) ha rfl (by decide) hx ⟨_, _, rfl⟩ (Nat.le_of_ble_eq_true rfl) dL_snow_7 rfl (fun z hz => absurd hz List.not_mem_nil) (by decide) (by decide) lk_No (fun U H q => (hN U H q).2.1) (Or.inr ⟨dL_snow_15, rfl⟩) (by decide) rfl ?_
  refine g_iconst (v := 1) dL_snow_17 (by decide) ?_
  exact g_iret rfl dL_snow_18
theorem wI_snow {G : aG} {h h' : aH} {a1 a2 a3 : Int32} {fs : List Value} (hN : aNc G) (ha : AC G M_X9_snow [.ref 40, .int a1, .int a2, .int a3] h (.inr cIl, h')) (hx : h[40]? = some (some (.inr (9, fs)))) : ACH G ML_snow [.ref 40, .int a1, .int a2, .int a3, .ref 132] h (.inl (some (.int 2)), h') := by
  refine ACH.of (by decide) (Nat.le_of_ble_eq_true rfl) ?_
  show AG G ML_snow 0 [some (.ref 40), some (.int a1), some (.int a2), some (.int a3), some (.ref 132), none] [] _ _
  refine g_aload dL_snow_0 rfl ?_
  refine g_iconst (v := 0) dL_snow_2 (by decide) ?_
  refine g_aload_n dL_snow_3 rfl rfl ?_
  refine g_iload_n dL_snow_4 rfl rfl ?_
  refine g_iload_n dL_snow_5 rfl rfl ?_
  refine g_iload_n dL_snow_6 rfl rfl ?_
  refine g_catchV (M' := M_X9_snow) (as := [.int a1, .int a2, .int a3]) (pre := tableOf [(0, 12, 15, 18)]) (npc := 21) (i := 5) (nm := cIl) (aIn1 1200 (by decide +kernel) rfl) kV_X9_snow (by decide) ha rfl (by decide) hx ⟨_, _, rfl⟩ (Nat.le_of_ble_eq_true rfl) dL_snow_7 rfl (fun z hz => by obtain rfl := List.mem_singleton.mp hz; exact Or.inr ⟨by decide, cNo, lk_No, fun U H q => (hN U H q).1⟩) (by decide) (by decide) lk_Il (fun U H q => (hN U H q).2.2) (Or.inr ⟨dL_snow_19, rfl⟩) (by decide) rfl ?_
  refine g_iconst (v := 2) dL_snow_21 (by decide) ?_
  exact g_iret rfl dL_snow_22
abbrev ML_game : aM := (yL_game, cL_game, 6, some .int, 94, [(0, 12, 15, 18), (0, 12, 19, 13)])
theorem kH_game : aCalH ML_game 5 := ⟨(aIn1 1206 (by decide +kernel) rfl), (aIn1 94 (by decide +kernel) rfl), ⟨by decide, by decide⟩, by decide +kernel, by decide, (aIn1 1205 (by decide +kernel) rfl)⟩
theorem w0_game {G : aG} {h h' : aH} {a1 a2 a3 : Int32} {fs : List Value} {v : Int32} {u : Nat → Int64} (ha : AC G M_X9_game [.ref 40, .int a1, .int a2, .int a3] h (.inl (some (.int v)), h')) (hx : h[40]? = some (some (.inr (9, fs)))) (ho : h'[132]? = some (aU u)) : ACH G ML_game [.ref 40, .int a1, .int a2, .int a3, .ref 132] h (.inl (some (.int 0)), h'.set 132 (aU (vp_updL u (0 : Int32).toNatClampNeg v.toInt64))) := by
  refine ACH.of (by decide) (Nat.le_of_ble_eq_true rfl) ?_
  show AG G ML_game 0 [some (.ref 40), some (.int a1), some (.int a2), some (.int a3), some (.ref 132), none] [] _ _
  refine g_aload dL_game_0 rfl ?_
  refine g_iconst (v := 0) dL_game_2 (by decide) ?_
  refine g_aload_n dL_game_3 rfl rfl ?_
  refine g_iload_n dL_game_4 rfl rfl ?_
  refine g_iload_n dL_game_5 rfl rfl ?_
  refine g_iload_n dL_game_6 rfl rfl ?_
  refine g_callV (M' := M_X9_game) (as := [.int a1, .int a2, .int a3]) (v := some (.int v)) l_L_83 kV_X9_game (by decide) ha rfl (by decide) hx ⟨_, _, rfl⟩ (Nat.le_of_ble_eq_true rfl) dL_game_7 ?_
  refine g_i2l dL_game_10 ?_
  refine g_last dL_game_11 (by decide) ho vp01 ?_
  refine g_goto (tgt := 23) dL_game_12 (by decide) ?_
  refine g_iconst (v := 0) dL_game_23 (by decide) ?_
  exact g_iret rfl dL_game_24
theorem wN_game {G : aG} {h h' : aH} {a1 a2 a3 : Int32} {fs : List Value} (hN : aNc G) (ha : AC G M_X9_game [.ref 40, .int a1, .int a2, .int a3] h (.inr cNo, h')) (hx : h[40]? = some (some (.inr (9, fs)))) : ACH G ML_game [.ref 40, .int a1, .int a2, .int a3, .ref 132] h (.inl (some (.int 1)), h') := by
  refine ACH.of (by decide) (Nat.le_of_ble_eq_true rfl) ?_
  show AG G ML_game 0 [some (.ref 40), some (.int a1), some (.int a2), some (.int a3), some (.ref 132), none] [] _ _
  refine g_aload dL_game_0 rfl ?_
  refine g_iconst (v := 0) dL_game_2 (by decide) ?_
  refine g_aload_n dL_game_3 rfl rfl ?_
  refine g_iload_n dL_game_4 rfl rfl ?_
  refine g_iload_n dL_game_5 rfl rfl ?_
  refine g_iload_n dL_game_6 rfl rfl ?_
  refine g_catchV (M' := M_X9_game) (as := [.int a1, .int a2, .int a3]) (pre := []) (npc := 17) (i := 5) (nm := cNo) (aIn1 1207 (by decide +kernel) rfl) kV_X9_game (by decide) ha rfl (by decide) hx ⟨_, _, rfl⟩ (Nat.le_of_ble_eq_true rfl) dL_game_7 rfl (fun z hz => absurd hz List.not_mem_nil) (by decide) (by decide) lk_No (fun U H q => (hN U H q).2.1) (Or.inr ⟨dL_game_15, rfl⟩) (by decide) rfl ?_
  refine g_iconst (v := 1) dL_game_17 (by decide) ?_
  exact g_iret rfl dL_game_18
theorem wI_game {G : aG} {h h' : aH} {a1 a2 a3 : Int32} {fs : List Value} (hN : aNc G) (ha : AC G M_X9_game [.ref 40, .int a1, .int a2, .int a3] h (.inr cIl, h')) (hx : h[40]? = some (some (.inr (9, fs)))) : ACH G ML_game [.ref 40, .int a1, .int a2, .int a3, .ref 132] h (.inl (some (.int 2)), h') := by
  refine ACH.of (by decide) (Nat.le_of_ble_eq_true rfl) ?_
  show AG G ML_game 0 [some (.ref 40), some (.int a1), some (.int a2), some (.int a3), some (.ref 132), none] [] _ _
  refine g_aload dL_game_0 rfl ?_
  refine g_iconst (v := 0) dL_game_2 (by decide) ?_
  refine g_aload_n dL_game_3 rfl rfl ?_
  refine g_iload_n dL_game_4 rfl rfl ?_
  refine g_iload_n dL_game_5 rfl rfl ?_
  refine g_iload_n dL_game_6 rfl rfl ?_
  refine g_catchV (M' := M_X9_game) (as := [.int a1, .int a2, .int a3]) (pre := tableOf [(0, 12, 15, 18)]) (npc := 21) (i := 5) (nm := cIl) (aIn1 1207 (by decide +kernel) rfl) kV_X9_game (by decide) ha rfl (by decide) hx ⟨_, _, rfl⟩ (Nat.le_of_ble_eq_true rfl) dL_game_7 rfl (fun z hz => by obtain rfl := List.mem_singleton.mp hz; exact Or.inr ⟨by decide, cNo, lk_No, fun U H q => (hN U H q).1⟩) (by decide) (by decide) lk_Il (fun U H q => (hN U H q).2.2) (Or.inr ⟨dL_game_19, rfl⟩) (by decide) rfl ?_
  refine g_iconst (v := 2) dL_game_21 (by decide) ?_
  exact g_iret rfl dL_game_22
abbrev ML_years : aM := (yL_years, cL_years, 6, some .int, 94, [(0, 12, 15, 18), (0, 12, 19, 13)])
theorem kH_years : aCalH ML_years 5 := ⟨(aIn1 1219 (by decide +kernel) rfl), (aIn1 94 (by decide +kernel) rfl), ⟨by decide, by decide⟩, by decide +kernel, by decide, (aIn1 1218 (by decide +kernel) rfl)⟩
theorem w0_years {G : aG} {h h' : aH} {a1 a2 a3 : Int32} {fs : List Value} {v : Int32} {u : Nat → Int64} (ha : AC G M_X9_years [.ref 40, .int a1, .int a2, .int a3] h (.inl (some (.int v)), h')) (hx : h[40]? = some (some (.inr (9, fs)))) (ho : h'[132]? = some (aU u)) : ACH G ML_years [.ref 40, .int a1, .int a2, .int a3, .ref 132] h (.inl (some (.int 0)), h'.set 132 (aU (vp_updL u (0 : Int32).toNatClampNeg v.toInt64))) := by
  refine ACH.of (by decide) (Nat.le_of_ble_eq_true rfl) ?_
  show AG G ML_years 0 [some (.ref 40), some (.int a1), some (.int a2), some (.int a3), some (.ref 132), none] [] _ _
  refine g_aload dL_years_0 rfl ?_
  refine g_iconst (v := 0) dL_years_2 (by decide) ?_
  refine g_aload_n dL_years_3 rfl rfl ?_
  refine g_iload_n dL_years_4 rfl rfl ?_
  refine g_iload_n dL_years_5 rfl rfl ?_
  refine g_iload_n dL_years_6 rfl rfl ?_
  refine g_callV (M' := M_X9_years) (as := [.int a1, .int a2, .int a3]) (v := some (.int v)) l_L_86 kV_X9_years (by decide) ha rfl (by decide) hx ⟨_, _, rfl⟩ (Nat.le_of_ble_eq_true rfl) dL_years_7 ?_
  refine g_i2l dL_years_10 ?_
  refine g_last dL_years_11 (by decide) ho vp01 ?_
  refine g_goto (tgt := 23) dL_years_12 (by decide) ?_
  refine g_iconst (v := 0) dL_years_23 (by decide) ?_
  exact g_iret rfl dL_years_24
theorem wN_years {G : aG} {h h' : aH} {a1 a2 a3 : Int32} {fs : List Value} (hN : aNc G) (ha : AC G M_X9_years [.ref 40, .int a1, .int a2, .int a3] h (.inr cNo, h')) (hx : h[40]? = some (some (.inr (9, fs)))) : ACH G ML_years [.ref 40, .int a1, .int a2, .int a3, .ref 132] h (.inl (some (.int 1)), h') := by
  refine ACH.of (by decide) (Nat.le_of_ble_eq_true rfl) ?_
  show AG G ML_years 0 [some (.ref 40), some (.int a1), some (.int a2), some (.int a3), some (.ref 132), none] [] _ _
  refine g_aload dL_years_0 rfl ?_
  refine g_iconst (v := 0) dL_years_2 (by decide) ?_
  refine g_aload_n dL_years_3 rfl rfl ?_
  refine g_iload_n dL_years_4 rfl rfl ?_
  refine g_iload_n dL_years_5 rfl rfl ?_
  refine g_iload_n dL_years_6 rfl rfl ?_
  refine g_catchV (M' := M_X9_years) (as := [.int a1, .int a2, .int a3]) (pre := []) (npc := 17) (i := 5) (nm := cNo) (aIn1 1220 (by decide +kernel) rfl) kV_X9_years (by decide) ha rfl (by decide) hx ⟨_, _, rfl⟩ (Nat.le_of_ble_eq_true rfl) dL_years_7 rfl (fun z hz => absurd hz List.not_mem_nil) (by decide) (by decide) lk_No (fun U H q => (hN U H q).2.1) (Or.inr ⟨dL_years_15, rfl⟩) (by decide) rfl ?_
  refine g_iconst (v := 1) dL_years_17 (by decide) ?_
  exact g_iret rfl dL_years_18
theorem wI_years {G : aG} {h h' : aH} {a1 a2 a3 : Int32} {fs : List Value} (hN : aNc G) (ha : AC G M_X9_years [.ref 40, .int a1, .int a2, .int a3] h (.inr cIl, h')) (hx : h[40]? = some (some (.inr (9, fs)))) : ACH G ML_years [.ref 40, .int a1, .int a2, .int a3, .ref 132] h (.inl (some (.int 2)), h') := by
  refine ACH.of (by decide) (Nat.le_of_ble_eq_true rfl) ?_
  show AG G ML_years 0 [some (.ref 40), some (.int a1), some (.int a2), some (.int a3), some (.ref 132), none] [] _ _
  refine g_aload dL_years_0 rfl ?_
  refine g_iconst (v := 0) dL_years_2 (by decide) ?_
  refine g_aload_n dL_years_3 rfl rfl ?_
  refine g_iload_n dL_years_4 rfl rfl ?_
  refine g_iload_n dL_years_5 rfl rfl ?_
  refine g_iload_n dL_years_6 rfl rfl ?_
  refine g_catchV (M' := M_X9_years) (as := [.int a1, .int a2, .int a3]) (pre := tableOf [(0, 12, 15, 18)]) (npc := 21) (i := 5) (nm := cIl) (aIn1 1220 (by decide +kernel) rfl) kV_X9_years (by decide) ha rfl (by decide) hx ⟨_, _, rfl⟩ (Nat.le_of_ble_eq_true rfl) dL_years_7 rfl (fun z hz => by obtain rfl := List.mem_singleton.mp hz; exact Or.inr ⟨by decide, cNo, lk_No, fun U H q => (hN U H q).1⟩) (by decide) (by decide) lk_Il (fun U H q => (hN U H q).2.2) (Or.inr ⟨dL_years_19, rfl⟩) (by decide) rfl ?_
  refine g_iconst (v := 2) dL_years_21 (by decide) ?_
  exact g_iret rfl dL_years_22
abbrev ML_coming : aM := (yL_coming, cL_coming, 6, some .int, 94, [(0, 12, 15, 18)])
theorem kH_coming : aCalH ML_coming 5 := ⟨(aIn1 1246 (by decide +kernel) rfl), (aIn1 94 (by decide +kernel) rfl), ⟨by decide, by decide⟩, by decide +kernel, by decide, (aIn1 1245 (by decide +kernel) rfl)⟩
theorem w0_coming {G : aG} {h h' : aH} {a1 a2 a3 : Int32} {fs : List Value} {v : Int32} {u : Nat → Int64} (ha : AC G M_X9_coming [.ref 40, .int a1, .int a2, .int a3] h (.inl (some (.int v)), h')) (hx : h[40]? = some (some (.inr (9, fs)))) (ho : h'[132]? = some (aU u)) : ACH G ML_coming [.ref 40, .int a1, .int a2, .int a3, .ref 132] h (.inl (some (.int 0)), h'.set 132 (aU (vp_updL u (0 : Int32).toNatClampNeg v.toInt64))) := by
  refine ACH.of (by decide) (Nat.le_of_ble_eq_true rfl) ?_
  show AG G ML_coming 0 [some (.ref 40), some (.int a1), some (.int a2), some (.int a3), some (.ref 132), none] [] _ _
  refine g_aload dL_coming_0 rfl ?_
  refine g_iconst (v := 0) dL_coming_2 (by decide) ?_
  refine g_aload_n dL_coming_3 rfl rfl ?_
  refine g_iload_n dL_coming_4 rfl rfl ?_
  refine g_iload_n dL_coming_5 rfl rfl ?_
  refine g_iload_n dL_coming_6 rfl rfl ?_
  refine g_callV (M' := M_X9_coming) (as := [.int a1, .int a2, .int a3]) (v := some (.int v)) l_L_89 kV_X9_coming (by decide) ha rfl (by decide) hx ⟨_, _, rfl⟩ (Nat.le_of_ble_eq_true rfl) dL_coming_7 ?_
  refine g_i2l dL_coming_10 ?_
  refine g_last dL_coming_11 (by decide) ho vp01 ?_
  refine g_goto (tgt := 19) dL_coming_12 (by decide) ?_
  refine g_iconst (v := 0) dL_coming_19 (by decide) ?_
  exact g_iret rfl dL_coming_20
theorem wN_coming {G : aG} {h h' : aH} {a1 a2 a3 : Int32} {fs : List Value} (hN : aNc G) (ha : AC G M_X9_coming [.ref 40, .int a1, .int a2, .int a3] h (.inr cNo, h')) (hx : h[40]? = some (some (.inr (9, fs)))) : ACH G ML_coming [.ref 40, .int a1, .int a2, .int a3, .ref 132] h (.inl (some (.int 1)), h') := by
  refine ACH.of (by decide) (Nat.le_of_ble_eq_true rfl) ?_
  show AG G ML_coming 0 [some (.ref 40), some (.int a1), some (.int a2), some (.int a3), some (.ref 132), none] [] _ _
  refine g_aload dL_coming_0 rfl ?_
  refine g_iconst (v := 0) dL_coming_2 (by decide) ?_
  refine g_aload_n dL_coming_3 rfl rfl ?_
  refine g_iload_n dL_coming_4 rfl rfl ?_
  refine g_iload_n dL_coming_5 rfl rfl ?_
  refine g_iload_n dL_coming_6 rfl rfl ?_
  refine g_catchV (M' := M_X9_coming) (as := [.int a1, .int a2, .int a3]) (pre := []) (npc := 17) (i := 5) (nm := cNo) (aIn1 1247 (by decide +kernel) rfl) kV_X9_coming (by decide) ha rfl (by decide) hx ⟨_, _, rfl⟩ (Nat.le_of_ble_eq_true rfl) dL_coming_7 rfl (fun z hz => absurd hz List.not_mem_nil) (by decide) (by decide) lk_No (fun U H q => (hN U H q).2.1) (Or.inr ⟨dL_coming_15, rfl⟩) (by decide) rfl ?_
  refine g_iconst (v := 1) dL_coming_17 (by decide) ?_
  exact g_iret rfl dL_coming_18
abbrev ML_spread : aM := (yL_spread, cL_spread, 4, some .int, 94, [(0, 9, 12, 18)])
theorem kH_spread : aCalH ML_spread 3 := ⟨(aIn1 1258 (by decide +kernel) rfl), (aIn1 94 (by decide +kernel) rfl), ⟨by decide, by decide⟩, by decide +kernel, by decide, (aIn1 1257 (by decide +kernel) rfl)⟩
theorem w0_spread {G : aG} {h h' : aH} {a1 : Int32} {fs : List Value} {v : Int32} {u : Nat → Int64} (ha : AC G M_X9_spread [.ref 40, .int a1] h (.inl (some (.int v)), h')) (hx : h[40]? = some (some (.inr (9, fs)))) (ho : h'[132]? = some (aU u)) : ACH G ML_spread [.ref 40, .int a1, .ref 132] h (.inl (some (.int 0)), h'.set 132 (aU (vp_updL u (0 : Int32).toNatClampNeg v.toInt64))) := by
  refine ACH.of (by decide) (Nat.le_of_ble_eq_true rfl) ?_
  show AG G ML_spread 0 [some (.ref 40), some (.int a1), some (.ref 132), none] [] _ _
  refine g_aload_n dL_spread_0 rfl rfl ?_
  refine g_iconst (v := 0) dL_spread_1 (by decide) ?_
  refine g_aload_n dL_spread_2 rfl rfl ?_
  refine g_iload_n dL_spread_3 rfl rfl ?_
  refine g_callV (M' := M_X9_spread) (as := [.int a1]) (v := some (.int v)) l_L_92 kV_X9_spread (by decide) ha rfl (by decide) hx ⟨_, _, rfl⟩ (Nat.le_of_ble_eq_true rfl) dL_spread_4 ?_
  refine g_i2l dL_spread_7 ?_
  refine g_last dL_spread_8 (by decide) ho vp01 ?_
  refine g_goto (tgt := 15) dL_spread_9 (by decide) ?_
  refine g_iconst (v := 0) dL_spread_15 (by decide) ?_
  exact g_iret rfl dL_spread_16
theorem wN_spread {G : aG} {h h' : aH} {a1 : Int32} {fs : List Value} (hN : aNc G) (ha : AC G M_X9_spread [.ref 40, .int a1] h (.inr cNo, h')) (hx : h[40]? = some (some (.inr (9, fs)))) : ACH G ML_spread [.ref 40, .int a1, .ref 132] h (.inl (some (.int 1)), h') := by
  refine ACH.of (by decide) (Nat.le_of_ble_eq_true rfl) ?_
  show AG G ML_spread 0 [some (.ref 40), some (.int a1), some (.ref 132), none] [] _ _
  refine g_aload_n dL_spread_0 rfl rfl ?_
  refine g_iconst (v := 0) dL_spread_1 (by decide) ?_
  refine g_aload_n dL_spread_2 rfl rfl ?_
  refine g_iload_n dL_spread_3 rfl rfl ?_
  refine g_catchV (M' := M_X9_spread) (as := [.int a1]) (pre := []) (npc := 13) (i := 3) (nm := cNo) (aIn1 1259 (by decide +kernel) rfl) kV_X9_spread (by decide) ha rfl (by decide) hx ⟨_, _, rfl⟩ (Nat.le_of_ble_eq_true rfl) dL_spread_4 rfl (fun z hz => absurd hz List.not_mem_nil) (by decide) (by decide) lk_No (fun U H q => (hN U H q).2.1) (Or.inl ⟨3, dL_spread_12, rfl, rfl⟩) (by decide) rfl ?_
  refine g_iconst (v := 1) dL_spread_13 (by decide) ?_
  exact g_iret rfl dL_spread_14
abbrev ML_ahead : aM := (yL_ahead, cL_ahead, 5, some .int, 94, [(0, 10, 13, 18)])
theorem kH_ahead : aCalH ML_ahead 4 := ⟨(aIn1 1265 (by decide +kernel) rfl), (aIn1 94 (by decide +kernel) rfl), ⟨by decide, by decide⟩, by decide +kernel, by decide, (aIn1 1264 (by decide +kernel) rfl)⟩
theorem w0_ahead {G : aG} {h h' : aH} {a1 a2 : Int32} {fs : List Value} {v : Int32} {u : Nat → Int64} (ha : AC G M_X9_ahead [.ref 40, .int a1, .int a2] h (.inl (some (.int v)), h')) (hx : h[40]? = some (some (.inr (9, fs)))) (ho : h'[132]? = some (aU u)) : ACH G ML_ahead [.ref 40, .int a1, .int a2, .ref 132] h (.inl (some (.int 0)), h'.set 132 (aU (vp_updL u (0 : Int32).toNatClampNeg v.toInt64))) := by
  refine ACH.of (by decide) (Nat.le_of_ble_eq_true rfl) ?_
  show AG G ML_ahead 0 [some (.ref 40), some (.int a1), some (.int a2), some (.ref 132), none] [] _ _
  refine g_aload_n dL_ahead_0 rfl rfl ?_
  refine g_iconst (v := 0) dL_ahead_1 (by decide) ?_
  refine g_aload_n dL_ahead_2 rfl rfl ?_
  refine g_iload_n dL_ahead_3 rfl rfl ?_
  refine g_iload_n dL_ahead_4 rfl rfl ?_
  refine g_callV (M' := M_X9_ahead) (as := [.int a1, .int a2]) (v := some (.int v)) l_L_95 kV_X9_ahead (by decide) ha rfl (by decide) hx ⟨_, _, rfl⟩ (Nat.le_of_ble_eq_true rfl) dL_ahead_5 ?_
  refine g_i2l dL_ahead_8 ?_
  refine g_last dL_ahead_9 (by decide) ho vp01 ?_
  refine g_goto (tgt := 17) dL_ahead_10 (by decide) ?_
  refine g_iconst (v := 0) dL_ahead_17 (by decide) ?_
  exact g_iret rfl dL_ahead_18
theorem wN_ahead {G : aG} {h h' : aH} {a1 a2 : Int32} {fs : List Value} (hN : aNc G) (ha : AC G M_X9_ahead [.ref 40, .int a1, .int a2] h (.inr cNo, h')) (hx : h[40]? = some (some (.inr (9, fs)))) : ACH G ML_ahead [.ref 40, .int a1, .int a2, .ref 132] h (.inl (some (.int 1)), h') := by
  refine ACH.of (by decide) (Nat.le_of_ble_eq_true rfl) ?_
  show AG G ML_ahead 0 [some (.ref 40), some (.int a1), some (.int a2), some (.ref 132), none] [] _ _
  refine g_aload_n dL_ahead_0 rfl rfl ?_
  refine g_iconst (v := 0) dL_ahead_1 (by decide) ?_
  refine g_aload_n dL_ahead_2 rfl rfl ?_
  refine g_iload_n dL_ahead_3 rfl rfl ?_
  refine g_iload_n dL_ahead_4 rfl rfl ?_
  refine g_catchV (M' := M_X9_ahead) (as := [.int a1, .int a2]) (pre := []) (npc := 15) (i := 4) (nm := cNo) (aIn1 1266 (by decide +kernel) rfl) kV_X9_ahead (by decide) ha rfl (by decide) hx ⟨_, _, rfl⟩ (Nat.le_of_ble_eq_true rfl) dL_ahead_5 rfl (fun z hz => absurd hz List.not_mem_nil) (by decide) (by decide) lk_No (fun U H q => (hN U H q).2.1) (Or.inr ⟨dL_ahead_13, rfl⟩) (by decide) rfl ?_
  refine g_iconst (v := 1) dL_ahead_15 (by decide) ?_
  exact g_iret rfl dL_ahead_16
abbrev ML_nearest : aM := (yL_nearest, cL_nearest, 4, some .int, 94, [(0, 9, 12, 18)])
theorem kH_nearest : aCalH ML_nearest 3 := ⟨(aIn1 1272 (by decide +kernel) rfl), (aIn1 94 (by decide +kernel) rfl), ⟨by decide, by decide⟩, by decide +kernel, by decide, (aIn1 1271 (by decide +kernel) rfl)⟩
theorem w0_nearest {G : aG} {h h' : aH} {a1 : Int32} {fs : List Value} {v : Int32} {u : Nat → Int64} (ha : AC G M_X9_nearest [.ref 40, .int a1] h (.inl (some (.int v)), h')) (hx : h[40]? = some (some (.inr (9, fs)))) (ho : h'[132]? = some (aU u)) : ACH G ML_nearest [.ref 40, .int a1, .ref 132] h (.inl (some (.int 0)), h'.set 132 (aU (vp_updL u (0 : Int32).toNatClampNeg v.toInt64))) := by
  refine ACH.of (by decide) (Nat.le_of_ble_eq_true rfl) ?_
  show AG G ML_nearest 0 [some (.ref 40), some (.int a1), some (.ref 132), none] [] _ _
  refine g_aload_n dL_nearest_0 rfl rfl ?_
  refine g_iconst (v := 0) dL_nearest_1 (by decide) ?_
  refine g_aload_n dL_nearest_2 rfl rfl ?_
  refine g_iload_n dL_nearest_3 rfl rfl ?_
  refine g_callV (M' := M_X9_nearest) (as := [.int a1]) (v := some (.int v)) l_L_98 kV_X9_nearest (by decide) ha rfl (by decide) hx ⟨_, _, rfl⟩ (Nat.le_of_ble_eq_true rfl) dL_nearest_4 ?_
  refine g_i2l dL_nearest_7 ?_
  refine g_last dL_nearest_8 (by decide) ho vp01 ?_
  refine g_goto (tgt := 15) dL_nearest_9 (by decide) ?_
  refine g_iconst (v := 0) dL_nearest_15 (by decide) ?_
  exact g_iret rfl dL_nearest_16
theorem wN_nearest {G : aG} {h h' : aH} {a1 : Int32} {fs : List Value} (hN : aNc G) (ha : AC G M_X9_nearest [.ref 40, .int a1] h (.inr cNo, h')) (hx : h[40]? = some (some (.inr (9, fs)))) : ACH G ML_nearest [.ref 40, .int a1, .ref 132] h (.inl (some (.int 1)), h') := by
  refine ACH.of (by decide) (Nat.le_of_ble_eq_true rfl) ?_
  show AG G ML_nearest 0 [some (.ref 40), some (.int a1), some (.ref 132), none] [] _ _
  refine g_aload_n dL_nearest_0 rfl rfl ?_
  refine g_iconst (v := 0) dL_nearest_1 (by decide) ?_
  refine g_aload_n dL_nearest_2 rfl rfl ?_
  refine g_iload_n dL_nearest_3 rfl rfl ?_
  refine g_catchV (M' := M_X9_nearest) (as := [.int a1]) (pre := []) (npc := 13) (i := 3) (nm := cNo) (aIn1 1273 (by decide +kernel) rfl) kV_X9_nearest (by decide) ha rfl (by decide) hx ⟨_, _, rfl⟩ (Nat.le_of_ble_eq_true rfl) dL_nearest_4 rfl (fun z hz => absurd hz List.not_mem_nil) (by decide) (by decide) lk_No (fun U H q => (hN U H q).2.1) (Or.inl ⟨3, dL_nearest_12, rfl, rfl⟩) (by decide) rfl ?_
  refine g_iconst (v := 1) dL_nearest_13 (by decide) ?_
  exact g_iret rfl dL_nearest_14
abbrev ML_neighbours : aM := (yL_neighbours, cL_neighbours, 5, some .int, 94, [(0, 10, 13, 18), (0, 10, 17, 13)])
theorem kH_neighbours : aCalH ML_neighbours 4 := ⟨(aIn1 1280 (by decide +kernel) rfl), (aIn1 94 (by decide +kernel) rfl), ⟨by decide, by decide⟩, by decide +kernel, by decide, (aIn1 1279 (by decide +kernel) rfl)⟩
theorem w0_neighbours {G : aG} {h h' : aH} {a1 a2 : Int32} {fs : List Value} {v : Int32} {u : Nat → Int64} (ha : AC G M_X9_neighbours [.ref 40, .int a1, .int a2] h (.inl (some (.int v)), h')) (hx : h[40]? = some (some (.inr (9, fs)))) (ho : h'[132]? = some (aU u)) : ACH G ML_neighbours [.ref 40, .int a1, .int a2, .ref 132] h (.inl (some (.int 0)), h'.set 132 (aU (vp_updL u (0 : Int32).toNatClampNeg v.toInt64))) := by
  refine ACH.of (by decide) (Nat.le_of_ble_eq_true rfl) ?_
  show AG G ML_neighbours 0 [some (.ref 40), some (.int a1), some (.int a2), some (.ref 132), none] [] _ _
  refine g_aload_n dL_neighbours_0 rfl rfl ?_
  refine g_iconst (v := 0) dL_neighbours_1 (by decide) ?_
  refine g_aload_n dL_neighbours_2 rfl rfl ?_
  refine g_iload_n dL_neighbours_3 rfl rfl ?_
  refine g_iload_n dL_neighbours_4 rfl rfl ?_
  refine g_callV (M' := M_X9_neighbours) (as := [.int a1, .int a2]) (v := some (.int v)) l_L_101 kV_X9_neighbours (by decide) ha rfl (by decide) hx ⟨_, _, rfl⟩ (Nat.le_of_ble_eq_true rfl) dL_neighbours_5 ?_
  refine g_i2l dL_neighbours_8 ?_
  refine g_last dL_neighbours_9 (by decide) ho vp01 ?_
  refine g_goto (tgt := 21) dL_neighbours_10 (by decide) ?_
  refine g_iconst (v := 0) dL_neighbours_21 (by decide) ?_
  exact g_iret rfl dL_neighbours_22
theorem wN_neighbours {G : aG} {h h' : aH} {a1 a2 : Int32} {fs : List Value} (hN : aNc G) (ha : AC G M_X9_neighbours [.ref 40, .int a1, .int a2] h (.inr cNo, h')) (hx : h[40]? = some (some (.inr (9, fs)))) : ACH G ML_neighbours [.ref 40, .int a1, .int a2, .ref 132] h (.inl (some (.int 1)), h') := by
  refine ACH.of (by decide) (Nat.le_of_ble_eq_true rfl) ?_
  show AG G ML_neighbours 0 [some (.ref 40), some (.int a1), some (.int a2), some (.ref 132), none] [] _ _
  refine g_aload_n dL_neighbours_0 rfl rfl ?_
  refine g_iconst (v := 0) dL_neighbours_1 (by decide) ?_
  refine g_aload_n dL_neighbours_2 rfl rfl ?_
  refine g_iload_n dL_neighbours_3 rfl rfl ?_
  refine g_iload_n dL_neighbours_4 rfl rfl ?_
  refine g_catchV (M' := M_X9_neighbours) (as := [.int a1, .int a2]) (pre := []) (npc := 15) (i := 4) (nm := cNo) (aIn1 1281 (by decide +kernel) rfl) kV_X9_neighbours (by decide) ha rfl (by decide) hx ⟨_, _, rfl⟩ (Nat.le_of_ble_eq_true rfl) dL_neighbours_5 rfl (fun z hz => absurd hz List.not_mem_nil) (by decide) (by decide) lk_No (fun U H q => (hN U H q).2.1) (Or.inr ⟨dL_neighbours_13, rfl⟩) (by decide) rfl ?_
  refine g_iconst (v := 1) dL_neighbours_15 (by decide) ?_
  exact g_iret rfl dL_neighbours_16
theorem wI_neighbours {G : aG} {h h' : aH} {a1 a2 : Int32} {fs : List Value} (hN : aNc G) (ha : AC G M_X9_neighbours [.ref 40, .int a1, .int a2] h (.inr cIl, h')) (hx : h[40]? = some (some (.inr (9, fs)))) : ACH G ML_neighbours [.ref 40, .int a1, .int a2, .ref 132] h (.inl (some (.int 2)), h') := by
  refine ACH.of (by decide) (Nat.le_of_ble_eq_true rfl) ?_
  show AG G ML_neighbours 0 [some (.ref 40), some (.int a1), some (.int a2), some (.ref 132), none] [] _ _
  refine g_aload_n dL_neighbours_0 rfl rfl ?_
  refine g_iconst (v := 0) dL_neighbours_1 (by decide) ?_
  refine g_aload_n dL_neighbours_2 rfl rfl ?_
  refine g_iload_n dL_neighbours_3 rfl rfl ?_
  refine g_iload_n dL_neighbours_4 rfl rfl ?_
  refine g_catchV (M' := M_X9_neighbours) (as := [.int a1, .int a2]) (pre := tableOf [(0, 10, 13, 18)]) (npc := 19) (i := 4) (nm := cIl) (aIn1 1281 (by decide +kernel) rfl) kV_X9_neighbours (by decide) ha rfl (by decide) hx ⟨_, _, rfl⟩ (Nat.le_of_ble_eq_true rfl) dL_neighbours_5 rfl (fun z hz => by obtain rfl := List.mem_singleton.mp hz; exact Or.inr ⟨by decide, cNo, lk_No, fun U H q => (hN U H q).1⟩) (by decide) (by decide) lk_Il (fun U H q => (hN U H q).2.2) (Or.inr ⟨dL_neighbours_17, rfl⟩) (by decide) rfl ?_
  refine g_iconst (v := 2) dL_neighbours_19 (by decide) ?_
  exact g_iret rfl dL_neighbours_20
abbrev ML_toMend : aM := (yL_toMend, cL_toMend, 5, some .int, 94, [(0, 10, 13, 18), (0, 10, 17, 13)])
theorem kH_toMend : aCalH ML_toMend 4 := ⟨(aIn1 1288 (by decide +kernel) rfl), (aIn1 94 (by decide +kernel) rfl), ⟨by decide, by decide⟩, by decide +kernel, by decide, (aIn1 1287 (by decide +kernel) rfl)⟩
theorem w0_toMend {G : aG} {h h' : aH} {a1 a2 : Int32} {fs : List Value} {v : Int32} {u : Nat → Int64} (ha : AC G M_X9_toMend [.ref 40, .int a1, .int a2] h (.inl (some (.int v)), h')) (hx : h[40]? = some (some (.inr (9, fs)))) (ho : h'[132]? = some (aU u)) : ACH G ML_toMend [.ref 40, .int a1, .int a2, .ref 132] h (.inl (some (.int 0)), h'.set 132 (aU (vp_updL u (0 : Int32).toNatClampNeg v.toInt64))) := by
  refine ACH.of (by decide) (Nat.le_of_ble_eq_true rfl) ?_
  show AG G ML_toMend 0 [some (.ref 40), some (.int a1), some (.int a2), some (.ref 132), none] [] _ _
  refine g_aload_n dL_toMend_0 rfl rfl ?_
  refine g_iconst (v := 0) dL_toMend_1 (by decide) ?_
  refine g_aload_n dL_toMend_2 rfl rfl ?_
  refine g_iload_n dL_toMend_3 rfl rfl ?_
  refine g_iload_n dL_toMend_4 rfl rfl ?_
  refine g_callV (M' := M_X9_toMend) (as := [.int a1, .int a2]) (v := some (.int v)) l_L_104 kV_X9_toMend (by decide) ha rfl (by decide) hx ⟨_, _, rfl⟩ (Nat.le_of_ble_eq_true rfl) dL_toMend_5 ?_
  refine g_i2l dL_toMend_8 ?_
  refine g_last dL_toMend_9 (by decide) ho vp01 ?_
  refine g_goto (tgt := 21) dL_toMend_10 (by decide) ?_
  refine g_iconst (v := 0) dL_toMend_21 (by decide) ?_
  exact g_iret rfl dL_toMend_22
theorem wN_toMend {G : aG} {h h' : aH} {a1 a2 : Int32} {fs : List Value} (hN : aNc G) (ha : AC G M_X9_toMend [.ref 40, .int a1, .int a2] h (.inr cNo, h')) (hx : h[40]? = some (some (.inr (9, fs)))) : ACH G ML_toMend [.ref 40, .int a1, .int a2, .ref 132] h (.inl (some (.int 1)), h') := by
  refine ACH.of (by decide) (Nat.le_of_ble_eq_true rfl) ?_
  show AG G ML_toMend 0 [some (.ref 40), some (.int a1), some (.int a2), some (.ref 132), none] [] _ _
  refine g_aload_n dL_toMend_0 rfl rfl ?_
  refine g_iconst (v := 0) dL_toMend_1 (by decide) ?_
  refine g_aload_n dL_toMend_2 rfl rfl ?_
  refine g_iload_n dL_toMend_3 rfl rfl ?_
  refine g_iload_n dL_toMend_4 rfl rfl ?_
  refine g_catchV (M' := M_X9_toMend) (as := [.int a1, .int a2]) (pre := []) (npc := 15) (i := 4) (nm := cNo) (aIn1 1289 (by decide +kernel) rfl) kV_X9_toMend (by decide) ha rfl (by decide) hx ⟨_, _, rfl⟩ (Nat.le_of_ble_eq_true rfl) dL_toMend_5 rfl (fun z hz => absurd hz List.not_mem_nil) (by decide) (by decide) lk_No (fun U H q => (hN U H q).2.1) (Or.inr ⟨dL_toMend_13, rfl⟩) (by decide) rfl ?_
  refine g_iconst (v := 1) dL_toMend_15 (by decide) ?_
  exact g_iret rfl dL_toMend_16
theorem wI_toMend {G : aG} {h h' : aH} {a1 a2 : Int32} {fs : List Value} (hN : aNc G) (ha : AC G M_X9_toMend [.ref 40, .int a1, .int a2] h (.inr cIl, h')) (hx : h[40]? = some (some (.inr (9, fs)))) : ACH G ML_toMend [.ref 40, .int a1, .int a2, .ref 132] h (.inl (some (.int 2)), h') := by
  refine ACH.of (by decide) (Nat.le_of_ble_eq_true rfl) ?_
  show AG G ML_toMend 0 [some (.ref 40), some (.int a1), some (.int a2), some (.ref 132), none] [] _ _
  refine g_aload_n dL_toMend_0 rfl rfl ?_
  refine g_iconst (v := 0) dL_toMend_1 (by decide) ?_
  refine g_aload_n dL_toMend_2 rfl rfl ?_
  refine g_iload_n dL_toMend_3 rfl rfl ?_
  refine g_iload_n dL_toMend_4 rfl rfl ?_
  refine g_catchV (M' := M_X9_toMend) (as := [.int a1, .int a2]) (pre := tableOf [(0, 10, 13, 18)]) (npc := 19) (i := 4) (nm := cIl) (aIn1 1289 (by decide +kernel) rfl) kV_X9_toMend (by decide) ha rfl (by decide) hx ⟨_, _, rfl⟩ (Nat.le_of_ble_eq_true rfl) dL_toMend_5 rfl (fun z hz => by obtain rfl := List.mem_singleton.mp hz; exact Or.inr ⟨by decide, cNo, lk_No, fun U H q => (hN U H q).1⟩) (by decide) (by decide) lk_Il (fun U H q => (hN U H q).2.2) (Or.inr ⟨dL_toMend_17, rfl⟩) (by decide) rfl ?_
  refine g_iconst (v := 2) dL_toMend_19 (by decide) ?_
  exact g_iret rfl dL_toMend_20
abbrev ML_silent : aM := (yL_silent, cL_silent, 4, some .int, 94, [(0, 9, 12, 13)])
theorem kH_silent : aCalH ML_silent 3 := ⟨(aIn1 1299 (by decide +kernel) rfl), (aIn1 94 (by decide +kernel) rfl), ⟨by decide, by decide⟩, by decide +kernel, by decide, (aIn1 1298 (by decide +kernel) rfl)⟩
theorem w0_silent {G : aG} {h h' : aH} {a1 : Int32} {fs : List Value} {v : Int32} {u : Nat → Int64} (ha : AC G M_X9_silent [.ref 40, .int a1] h (.inl (some (.int v)), h')) (hx : h[40]? = some (some (.inr (9, fs)))) (ho : h'[132]? = some (aU u)) : ACH G ML_silent [.ref 40, .int a1, .ref 132] h (.inl (some (.int 0)), h'.set 132 (aU (vp_updL u (0 : Int32).toNatClampNeg v.toInt64))) := by
  refine ACH.of (by decide) (Nat.le_of_ble_eq_true rfl) ?_
  show AG G ML_silent 0 [some (.ref 40), some (.int a1), some (.ref 132), none] [] _ _
  refine g_aload_n dL_silent_0 rfl rfl ?_
  refine g_iconst (v := 0) dL_silent_1 (by decide) ?_
  refine g_aload_n dL_silent_2 rfl rfl ?_
  refine g_iload_n dL_silent_3 rfl rfl ?_
  refine g_callV (M' := M_X9_silent) (as := [.int a1]) (v := some (.int v)) l_L_107 kV_X9_silent (by decide) ha rfl (by decide) hx ⟨_, _, rfl⟩ (Nat.le_of_ble_eq_true rfl) dL_silent_4 ?_
  refine g_i2l dL_silent_7 ?_
  refine g_last dL_silent_8 (by decide) ho vp01 ?_
  refine g_goto (tgt := 15) dL_silent_9 (by decide) ?_
  refine g_iconst (v := 0) dL_silent_15 (by decide) ?_
  exact g_iret rfl dL_silent_16
theorem wI_silent {G : aG} {h h' : aH} {a1 : Int32} {fs : List Value} (hN : aNc G) (ha : AC G M_X9_silent [.ref 40, .int a1] h (.inr cIl, h')) (hx : h[40]? = some (some (.inr (9, fs)))) : ACH G ML_silent [.ref 40, .int a1, .ref 132] h (.inl (some (.int 1)), h') := by
  refine ACH.of (by decide) (Nat.le_of_ble_eq_true rfl) ?_
  show AG G ML_silent 0 [some (.ref 40), some (.int a1), some (.ref 132), none] [] _ _
  refine g_aload_n dL_silent_0 rfl rfl ?_
  refine g_iconst (v := 0) dL_silent_1 (by decide) ?_
  refine g_aload_n dL_silent_2 rfl rfl ?_
  refine g_iload_n dL_silent_3 rfl rfl ?_
  refine g_catchV (M' := M_X9_silent) (as := [.int a1]) (pre := []) (npc := 13) (i := 3) (nm := cIl) (aIn1 1300 (by decide +kernel) rfl) kV_X9_silent (by decide) ha rfl (by decide) hx ⟨_, _, rfl⟩ (Nat.le_of_ble_eq_true rfl) dL_silent_4 rfl (fun z hz => absurd hz List.not_mem_nil) (by decide) (by decide) lk_Il (fun U H q => (hN U H q).2.2) (Or.inl ⟨3, dL_silent_12, rfl, rfl⟩) (by decide) rfl ?_
  refine g_iconst (v := 1) dL_silent_13 (by decide) ?_
  exact g_iret rfl dL_silent_14
abbrev ML_behind : aM := (yL_behind, cL_behind, 4, some .int, 94, [(0, 9, 12, 13)])
theorem kH_behind : aCalH ML_behind 3 := ⟨(aIn1 1306 (by decide +kernel) rfl), (aIn1 94 (by decide +kernel) rfl), ⟨by decide, by decide⟩, by decide +kernel, by decide, (aIn1 1305 (by decide +kernel) rfl)⟩
theorem w0_behind {G : aG} {h h' : aH} {a1 : Int32} {fs : List Value} {v : Int32} {u : Nat → Int64} (ha : AC G M_X9_behind [.ref 40, .int a1] h (.inl (some (.int v)), h')) (hx : h[40]? = some (some (.inr (9, fs)))) (ho : h'[132]? = some (aU u)) : ACH G ML_behind [.ref 40, .int a1, .ref 132] h (.inl (some (.int 0)), h'.set 132 (aU (vp_updL u (0 : Int32).toNatClampNeg v.toInt64))) := by
  refine ACH.of (by decide) (Nat.le_of_ble_eq_true rfl) ?_
  show AG G ML_behind 0 [some (.ref 40), some (.int a1), some (.ref 132), none] [] _ _
  refine g_aload_n dL_behind_0 rfl rfl ?_
  refine g_iconst (v := 0) dL_behind_1 (by decide) ?_
  refine g_aload_n dL_behind_2 rfl rfl ?_
  refine g_iload_n dL_behind_3 rfl rfl ?_
  refine g_callV (M' := M_X9_behind) (as := [.int a1]) (v := some (.int v)) l_L_110 kV_X9_behind (by decide) ha rfl (by decide) hx ⟨_, _, rfl⟩ (Nat.le_of_ble_eq_true rfl) dL_behind_4 ?_
  refine g_i2l dL_behind_7 ?_
  refine g_last dL_behind_8 (by decide) ho vp01 ?_
  refine g_goto (tgt := 15) dL_behind_9 (by decide) ?_
  refine g_iconst (v := 0) dL_behind_15 (by decide) ?_
  exact g_iret rfl dL_behind_16
theorem wI_behind {G : aG} {h h' : aH} {a1 : Int32} {fs : List Value} (hN : aNc G) (ha : AC G M_X9_behind [.ref 40, .int a1] h (.inr cIl, h')) (hx : h[40]? = some (some (.inr (9, fs)))) : ACH G ML_behind [.ref 40, .int a1, .ref 132] h (.inl (some (.int 1)), h') := by
  refine ACH.of (by decide) (Nat.le_of_ble_eq_true rfl) ?_
  show AG G ML_behind 0 [some (.ref 40), some (.int a1), some (.ref 132), none] [] _ _
  refine g_aload_n dL_behind_0 rfl rfl ?_
  refine g_iconst (v := 0) dL_behind_1 (by decide) ?_
  refine g_aload_n dL_behind_2 rfl rfl ?_
  refine g_iload_n dL_behind_3 rfl rfl ?_
  refine g_catchV (M' := M_X9_behind) (as := [.int a1]) (pre := []) (npc := 13) (i := 3) (nm := cIl) (aIn1 1307 (by decide +kernel) rfl) kV_X9_behind (by decide) ha rfl (by decide) hx ⟨_, _, rfl⟩ (Nat.le_of_ble_eq_true rfl) dL_behind_4 rfl (fun z hz => absurd hz List.not_mem_nil) (by decide) (by decide) lk_Il (fun U H q => (hN U H q).2.2) (Or.inl ⟨3, dL_behind_12, rfl, rfl⟩) (by decide) rfl ?_
  refine g_iconst (v := 1) dL_behind_13 (by decide) ?_
  exact g_iret rfl dL_behind_14
abbrev ML_most : aM := (yL_most, cL_most, 4, some .int, 94, [(0, 9, 12, 13)])
theorem kH_most : aCalH ML_most 3 := ⟨(aIn1 1313 (by decide +kernel) rfl), (aIn1 94 (by decide +kernel) rfl), ⟨by decide, by decide⟩, by decide +kernel, by decide, (aIn1 1312 (by decide +kernel) rfl)⟩
theorem w0_most {G : aG} {h h' : aH} {a1 : Int32} {fs : List Value} {v : Int32} {u : Nat → Int64} (ha : AC G M_X9_most [.ref 40, .int a1] h (.inl (some (.int v)), h')) (hx : h[40]? = some (some (.inr (9, fs)))) (ho : h'[132]? = some (aU u)) : ACH G ML_most [.ref 40, .int a1, .ref 132] h (.inl (some (.int 0)), h'.set 132 (aU (vp_updL u (0 : Int32).toNatClampNeg v.toInt64))) := by
  refine ACH.of (by decide) (Nat.le_of_ble_eq_true rfl) ?_
  show AG G ML_most 0 [some (.ref 40), some (.int a1), some (.ref 132), none] [] _ _
  refine g_aload_n dL_most_0 rfl rfl ?_
  refine g_iconst (v := 0) dL_most_1 (by decide) ?_
  refine g_aload_n dL_most_2 rfl rfl ?_
  refine g_iload_n dL_most_3 rfl rfl ?_
  refine g_callV (M' := M_X9_most) (as := [.int a1]) (v := some (.int v)) l_L_113 kV_X9_most (by decide) ha rfl (by decide) hx ⟨_, _, rfl⟩ (Nat.le_of_ble_eq_true rfl) dL_most_4 ?_
  refine g_i2l dL_most_7 ?_
  refine g_last dL_most_8 (by decide) ho vp01 ?_
  refine g_goto (tgt := 15) dL_most_9 (by decide) ?_
  refine g_iconst (v := 0) dL_most_15 (by decide) ?_
  exact g_iret rfl dL_most_16
theorem wI_most {G : aG} {h h' : aH} {a1 : Int32} {fs : List Value} (hN : aNc G) (ha : AC G M_X9_most [.ref 40, .int a1] h (.inr cIl, h')) (hx : h[40]? = some (some (.inr (9, fs)))) : ACH G ML_most [.ref 40, .int a1, .ref 132] h (.inl (some (.int 1)), h') := by
  refine ACH.of (by decide) (Nat.le_of_ble_eq_true rfl) ?_
  show AG G ML_most 0 [some (.ref 40), some (.int a1), some (.ref 132), none] [] _ _
  refine g_aload_n dL_most_0 rfl rfl ?_
  refine g_iconst (v := 0) dL_most_1 (by decide) ?_
  refine g_aload_n dL_most_2 rfl rfl ?_
  refine g_iload_n dL_most_3 rfl rfl ?_
  refine g_catchV (M' := M_X9_most) (as := [.int a1]) (pre := []) (npc := 13) (i := 3) (nm := cIl) (aIn1 1314 (by decide +kernel) rfl) kV_X9_most (by decide) ha rfl (by decide) hx ⟨_, _, rfl⟩ (Nat.le_of_ble_eq_true rfl) dL_most_4 rfl (fun z hz => absurd hz List.not_mem_nil) (by decide) (by decide) lk_Il (fun U H q => (hN U H q).2.2) (Or.inl ⟨3, dL_most_12, rfl, rfl⟩) (by decide) rfl ?_
  refine g_iconst (v := 1) dL_most_13 (by decide) ?_
  exact g_iret rfl dL_most_14
abbrev ML_soonest : aM := (yL_soonest, cL_soonest, 5, some .int, 94, [(0, 10, 13, 18), (0, 10, 17, 13)])
theorem kH_soonest : aCalH ML_soonest 4 := ⟨(aIn1 1320 (by decide +kernel) rfl), (aIn1 94 (by decide +kernel) rfl), ⟨by decide, by decide⟩, by decide +kernel, by decide, (aIn1 1319 (by decide +kernel) rfl)⟩
theorem w0_soonest {G : aG} {h h' : aH} {a1 a2 : Int32} {fs : List Value} {v : Int32} {u : Nat → Int64} (ha : AC G M_X9_soonest [.ref 40, .int a1, .int a2] h (.inl (some (.int v)), h')) (hx : h[40]? = some (some (.inr (9, fs)))) (ho : h'[132]? = some (aU u)) : ACH G ML_soonest [.ref 40, .int a1, .int a2, .ref 132] h (.inl (some (.int 0)), h'.set 132 (aU (vp_updL u (0 : Int32).toNatClampNeg v.toInt64))) := by
  refine ACH.of (by decide) (Nat.le_of_ble_eq_true rfl) ?_
  show AG G ML_soonest 0 [some (.ref 40), some (.int a1), some (.int a2), some (.ref 132), none] [] _ _
  refine g_aload_n dL_soonest_0 rfl rfl ?_
  refine g_iconst (v := 0) dL_soonest_1 (by decide) ?_
  refine g_aload_n dL_soonest_2 rfl rfl ?_
  refine g_iload_n dL_soonest_3 rfl rfl ?_
  refine g_iload_n dL_soonest_4 rfl rfl ?_
  refine g_callV (M' := M_X9_soonest) (as := [.int a1, .int a2]) (v := some (.int v)) l_L_116 kV_X9_soonest (by decide) ha rfl (by decide) hx ⟨_, _, rfl⟩ (Nat.le_of_ble_eq_true rfl) dL_soonest_5 ?_
  refine g_i2l dL_soonest_8 ?_
  refine g_last dL_soonest_9 (by decide) ho vp01 ?_
  refine g_goto (tgt := 21) dL_soonest_10 (by decide) ?_
  refine g_iconst (v := 0) dL_soonest_21 (by decide) ?_
  exact g_iret rfl dL_soonest_22
theorem wN_soonest {G : aG} {h h' : aH} {a1 a2 : Int32} {fs : List Value} (hN : aNc G) (ha : AC G M_X9_soonest [.ref 40, .int a1, .int a2] h (.inr cNo, h')) (hx : h[40]? = some (some (.inr (9, fs)))) : ACH G ML_soonest [.ref 40, .int a1, .int a2, .ref 132] h (.inl (some (.int 1)), h') := by
  refine ACH.of (by decide) (Nat.le_of_ble_eq_true rfl) ?_
  show AG G ML_soonest 0 [some (.ref 40), some (.int a1), some (.int a2), some (.ref 132), none] [] _ _
  refine g_aload_n dL_soonest_0 rfl rfl ?_
  refine g_iconst (v := 0) dL_soonest_1 (by decide) ?_
  refine g_aload_n dL_soonest_2 rfl rfl ?_
  refine g_iload_n dL_soonest_3 rfl rfl ?_
  refine g_iload_n dL_soonest_4 rfl rfl ?_
  refine g_catchV (M' := M_X9_soonest) (as := [.int a1, .int a2]) (pre := []) (npc := 15) (i := 4) (nm := cNo) (aIn1 1321 (by decide +kernel) rfl) kV_X9_soonest (by decide) ha rfl (by decide) hx ⟨_, _, rfl⟩ (Nat.le_of_ble_eq_true rfl) dL_soonest_5 rfl (fun z hz => absurd hz List.not_mem_nil) (by decide) (by decide) lk_No (fun U H q => (hN U H q).2.1) (Or.inr ⟨dL_soonest_13, rfl⟩) (by decide) rfl ?_
  refine g_iconst (v := 1) dL_soonest_15 (by decide) ?_
  exact g_iret rfl dL_soonest_16
theorem wI_soonest {G : aG} {h h' : aH} {a1 a2 : Int32} {fs : List Value} (hN : aNc G) (ha : AC G M_X9_soonest [.ref 40, .int a1, .int a2] h (.inr cIl, h')) (hx : h[40]? = some (some (.inr (9, fs)))) : ACH G ML_soonest [.ref 40, .int a1, .int a2, .ref 132] h (.inl (some (.int 2)), h') := by
  refine ACH.of (by decide) (Nat.le_of_ble_eq_true rfl) ?_
  show AG G ML_soonest 0 [some (.ref 40), some (.int a1), some (.int a2), some (.ref 132), none] [] _ _
  refine g_aload_n dL_soonest_0 rfl rfl ?_
  refine g_iconst (v := 0) dL_soonest_1 (by decide) ?_
  refine g_aload_n dL_soonest_2 rfl rfl ?_
  refine g_iload_n dL_soonest_3 rfl rfl ?_
  refine g_iload_n dL_soonest_4 rfl rfl ?_
  refine g_catchV (M' := M_X9_soonest) (as := [.int a1, .int a2]) (pre := tableOf [(0, 10, 13, 18)]) (npc := 19) (i := 4) (nm := cIl) (aIn1 1321 (by decide +kernel) rfl) kV_X9_soonest (by decide) ha rfl (by decide) hx ⟨_, _, rfl⟩ (Nat.le_of_ble_eq_true rfl) dL_soonest_5 rfl (fun z hz => by obtain rfl := List.mem_singleton.mp hz; exact Or.inr ⟨by decide, cNo, lk_No, fun U H q => (hN U H q).1⟩) (by decide) (by decide) lk_Il (fun U H q => (hN U H q).2.2) (Or.inr ⟨dL_soonest_17, rfl⟩) (by decide) rfl ?_
  refine g_iconst (v := 2) dL_soonest_19 (by decide) ?_
  exact g_iret rfl dL_soonest_20
abbrev ML_handed : aM := (yL_handed, cL_handed, 4, some .int, 94, [(0, 9, 12, 13)])
theorem kH_handed : aCalH ML_handed 3 := ⟨(aIn1 1327 (by decide +kernel) rfl), (aIn1 94 (by decide +kernel) rfl), ⟨by decide, by decide⟩, by decide +kernel, by decide, (aIn1 1326 (by decide +kernel) rfl)⟩
theorem w0_handed {G : aG} {h h' : aH} {a1 : Int32} {fs : List Value} {v : Int32} {u : Nat → Int64} (ha : AC G M_X9_handed [.ref 40, .int a1] h (.inl (some (.int v)), h')) (hx : h[40]? = some (some (.inr (9, fs)))) (ho : h'[132]? = some (aU u)) : ACH G ML_handed [.ref 40, .int a1, .ref 132] h (.inl (some (.int 0)), h'.set 132 (aU (vp_updL u (0 : Int32).toNatClampNeg v.toInt64))) := by
  refine ACH.of (by decide) (Nat.le_of_ble_eq_true rfl) ?_
  show AG G ML_handed 0 [some (.ref 40), some (.int a1), some (.ref 132), none] [] _ _
  refine g_aload_n dL_handed_0 rfl rfl ?_
  refine g_iconst (v := 0) dL_handed_1 (by decide) ?_
  refine g_aload_n dL_handed_2 rfl rfl ?_
  refine g_iload_n dL_handed_3 rfl rfl ?_
  refine g_callV (M' := M_X9_handed) (as := [.int a1]) (v := some (.int v)) l_L_119 kV_X9_handed (by decide) ha rfl (by decide) hx ⟨_, _, rfl⟩ (Nat.le_of_ble_eq_true rfl) dL_handed_4 ?_
  refine g_i2l dL_handed_7 ?_
  refine g_last dL_handed_8 (by decide) ho vp01 ?_
  refine g_goto (tgt := 15) dL_handed_9 (by decide) ?_
  refine g_iconst (v := 0) dL_handed_15 (by decide) ?_
  exact g_iret rfl dL_handed_16
theorem wI_handed {G : aG} {h h' : aH} {a1 : Int32} {fs : List Value} (hN : aNc G) (ha : AC G M_X9_handed [.ref 40, .int a1] h (.inr cIl, h')) (hx : h[40]? = some (some (.inr (9, fs)))) : ACH G ML_handed [.ref 40, .int a1, .ref 132] h (.inl (some (.int 1)), h') := by
  refine ACH.of (by decide) (Nat.le_of_ble_eq_true rfl) ?_
  show AG G ML_handed 0 [some (.ref 40), some (.int a1), some (.ref 132), none] [] _ _
  refine g_aload_n dL_handed_0 rfl rfl ?_
  refine g_iconst (v := 0) dL_handed_1 (by decide) ?_
  refine g_aload_n dL_handed_2 rfl rfl ?_
  refine g_iload_n dL_handed_3 rfl rfl ?_
  refine g_catchV (M' := M_X9_handed) (as := [.int a1]) (pre := []) (npc := 13) (i := 3) (nm := cIl) (aIn1 1328 (by decide +kernel) rfl) kV_X9_handed (by decide) ha rfl (by decide) hx ⟨_, _, rfl⟩ (Nat.le_of_ble_eq_true rfl) dL_handed_4 rfl (fun z hz => absurd hz List.not_mem_nil) (by decide) (by decide) lk_Il (fun U H q => (hN U H q).2.2) (Or.inl ⟨3, dL_handed_12, rfl, rfl⟩) (by decide) rfl ?_
  refine g_iconst (v := 1) dL_handed_13 (by decide) ?_
  exact g_iret rfl dL_handed_14
abbrev ML_loses : aM := (yL_loses, cL_loses, 4, some .int, 94, [(0, 9, 12, 18)])
theorem kH_loses : aCalH ML_loses 3 := ⟨(aIn1 1334 (by decide +kernel) rfl), (aIn1 94 (by decide +kernel) rfl), ⟨by decide, by decide⟩, by decide +kernel, by decide, (aIn1 1333 (by decide +kernel) rfl)⟩
theorem w0_loses {G : aG} {h h' : aH} {a1 : Int32} {fs : List Value} {v : Int32} {u : Nat → Int64} (ha : AC G M_X9_loses [.ref 40, .int a1] h (.inl (some (.int v)), h')) (hx : h[40]? = some (some (.inr (9, fs)))) (ho : h'[132]? = some (aU u)) : ACH G ML_loses [.ref 40, .int a1, .ref 132] h (.inl (some (.int 0)), h'.set 132 (aU (vp_updL u (0 : Int32).toNatClampNeg v.toInt64))) := by
  refine ACH.of (by decide) (Nat.le_of_ble_eq_true rfl) ?_
  show AG G ML_loses 0 [some (.ref 40), some (.int a1), some (.ref 132), none] [] _ _
  refine g_aload_n dL_loses_0 rfl rfl ?_
  refine g_iconst (v := 0) dL_loses_1 (by decide) ?_
  refine g_aload_n dL_loses_2 rfl rfl ?_
  refine g_iload_n dL_loses_3 rfl rfl ?_
  refine g_callV (M' := M_X9_loses) (as := [.int a1]) (v := some (.int v)) l_L_122 kV_X9_loses (by decide) ha rfl (by decide) hx ⟨_, _, rfl⟩ (Nat.le_of_ble_eq_true rfl) dL_loses_4 ?_
  refine g_i2l dL_loses_7 ?_
  refine g_last dL_loses_8 (by decide) ho vp01 ?_
  refine g_goto (tgt := 15) dL_loses_9 (by decide) ?_
  refine g_iconst (v := 0) dL_loses_15 (by decide) ?_
  exact g_iret rfl dL_loses_16
theorem wN_loses {G : aG} {h h' : aH} {a1 : Int32} {fs : List Value} (hN : aNc G) (ha : AC G M_X9_loses [.ref 40, .int a1] h (.inr cNo, h')) (hx : h[40]? = some (some (.inr (9, fs)))) : ACH G ML_loses [.ref 40, .int a1, .ref 132] h (.inl (some (.int 1)), h') := by
  refine ACH.of (by decide) (Nat.le_of_ble_eq_true rfl) ?_
  show AG G ML_loses 0 [some (.ref 40), some (.int a1), some (.ref 132), none] [] _ _
  refine g_aload_n dL_loses_0 rfl rfl ?_
  refine g_iconst (v := 0) dL_loses_1 (by decide) ?_
  refine g_aload_n dL_loses_2 rfl rfl ?_
  refine g_iload_n dL_loses_3 rfl rfl ?_
  refine g_catchV (M' := M_X9_loses) (as := [.int a1]) (pre := []) (npc := 13) (i := 3) (nm := cNo) (aIn1 1335 (by decide +kernel) rfl) kV_X9_loses (by decide) ha rfl (by decide) hx ⟨_, _, rfl⟩ (Nat.le_of_ble_eq_true rfl) dL_loses_4 rfl (fun z hz => absurd hz List.not_mem_nil) (by decide) (by decide) lk_No (fun U H q => (hN U H q).2.1) (Or.inl ⟨3, dL_loses_12, rfl, rfl⟩) (by decide) rfl ?_
  refine g_iconst (v := 1) dL_loses_13 (by decide) ?_
  exact g_iret rfl dL_loses_14
abbrev ML_late : aM := (yL_late, cL_late, 5, some .int, 94, [(0, 10, 13, 18)])
theorem kH_late : aCalH ML_late 4 := ⟨(aIn1 1341 (by decide +kernel) rfl), (aIn1 94 (by decide +kernel) rfl), ⟨by decide, by decide⟩, by decide +kernel, by decide, (aIn1 1340 (by decide +kernel) rfl)⟩
theorem w0_late {G : aG} {h h' : aH} {a1 a2 : Int32} {fs : List Value} {v : Int32} {u : Nat → Int64} (ha : AC G M_X9_late [.ref 40, .int a1, .int a2] h (.inl (some (.int v)), h')) (hx : h[40]? = some (some (.inr (9, fs)))) (ho : h'[132]? = some (aU u)) : ACH G ML_late [.ref 40, .int a1, .int a2, .ref 132] h (.inl (some (.int 0)), h'.set 132 (aU (vp_updL u (0 : Int32).toNatClampNeg v.toInt64))) := by
  refine ACH.of (by decide) (Nat.le_of_ble_eq_true rfl) ?_
  show AG G ML_late 0 [some (.ref 40), some (.int a1), some (.int a2), some (.ref 132), none] [] _ _
  refine g_aload_n dL_late_0 rfl rfl ?_
  refine g_iconst (v := 0) dL_late_1 (by decide) ?_
  refine g_aload_n dL_late_2 rfl rfl ?_
  refine g_iload_n dL_late_3 rfl rfl ?_
  refine g_iload_n dL_late_4 rfl rfl ?_
  refine g_callV (M' := M_X9_late) (as := [.int a1, .int a2]) (v := some (.int v)) l_L_125 kV_X9_late (by decide) ha rfl (by decide) hx ⟨_, _, rfl⟩ (Nat.le_of_ble_eq_true rfl) dL_late_5 ?_
  refine g_i2l dL_late_8 ?_
  refine g_last dL_late_9 (by decide) ho vp01 ?_
  refine g_goto (tgt := 17) dL_late_10 (by decide) ?_
  refine g_iconst (v := 0) dL_late_17 (by decide) ?_
  exact g_iret rfl dL_late_18
theorem wN_late {G : aG} {h h' : aH} {a1 a2 : Int32} {fs : List Value} (hN : aNc G) (ha : AC G M_X9_late [.ref 40, .int a1, .int a2] h (.inr cNo, h')) (hx : h[40]? = some (some (.inr (9, fs)))) : ACH G ML_late [.ref 40, .int a1, .int a2, .ref 132] h (.inl (some (.int 1)), h') := by
  refine ACH.of (by decide) (Nat.le_of_ble_eq_true rfl) ?_
  show AG G ML_late 0 [some (.ref 40), some (.int a1), some (.int a2), some (.ref 132), none] [] _ _
  refine g_aload_n dL_late_0 rfl rfl ?_
  refine g_iconst (v := 0) dL_late_1 (by decide) ?_
  refine g_aload_n dL_late_2 rfl rfl ?_
  refine g_iload_n dL_late_3 rfl rfl ?_
  refine g_iload_n dL_late_4 rfl rfl ?_
  refine g_catchV (M' := M_X9_late) (as := [.int a1, .int a2]) (pre := []) (npc := 15) (i := 4) (nm := cNo) (aIn1 1342 (by decide +kernel) rfl) kV_X9_late (by decide) ha rfl (by decide) hx ⟨_, _, rfl⟩ (Nat.le_of_ble_eq_true rfl) dL_late_5 rfl (fun z hz => absurd hz List.not_mem_nil) (by decide) (by decide) lk_No (fun U H q => (hN U H q).2.1) (Or.inr ⟨dL_late_13, rfl⟩) (by decide) rfl ?_
  refine g_iconst (v := 1) dL_late_15 (by decide) ?_
  exact g_iret rfl dL_late_16
abbrev ML_prompt : aM := (yL_prompt, cL_prompt, 4, some .int, 94, [(0, 9, 12, 18)])
theorem kH_prompt : aCalH ML_prompt 3 := ⟨(aIn1 1348 (by decide +kernel) rfl), (aIn1 94 (by decide +kernel) rfl), ⟨by decide, by decide⟩, by decide +kernel, by decide, (aIn1 1347 (by decide +kernel) rfl)⟩
theorem w0_prompt {G : aG} {h h' : aH} {a1 : Int32} {fs : List Value} {v : Int32} {u : Nat → Int64} (ha : AC G M_X9_prompt [.ref 40, .int a1] h (.inl (some (.int v)), h')) (hx : h[40]? = some (some (.inr (9, fs)))) (ho : h'[132]? = some (aU u)) : ACH G ML_prompt [.ref 40, .int a1, .ref 132] h (.inl (some (.int 0)), h'.set 132 (aU (vp_updL u (0 : Int32).toNatClampNeg v.toInt64))) := by
  refine ACH.of (by decide) (Nat.le_of_ble_eq_true rfl) ?_
  show AG G ML_prompt 0 [some (.ref 40), some (.int a1), some (.ref 132), none] [] _ _
  refine g_aload_n dL_prompt_0 rfl rfl ?_
  refine g_iconst (v := 0) dL_prompt_1 (by decide) ?_
  refine g_aload_n dL_prompt_2 rfl rfl ?_
  refine g_iload_n dL_prompt_3 rfl rfl ?_
  refine g_callV (M' := M_X9_prompt) (as := [.int a1]) (v := some (.int v)) l_L_128 kV_X9_prompt (by decide) ha rfl (by decide) hx ⟨_, _, rfl⟩ (Nat.le_of_ble_eq_true rfl) dL_prompt_4 ?_
  refine g_i2l dL_prompt_7 ?_
  refine g_last dL_prompt_8 (by decide) ho vp01 ?_
  refine g_goto (tgt := 15) dL_prompt_9 (by decide) ?_
  refine g_iconst (v := 0) dL_prompt_15 (by decide) ?_
  exact g_iret rfl dL_prompt_16
theorem wN_prompt {G : aG} {h h' : aH} {a1 : Int32} {fs : List Value} (hN : aNc G) (ha : AC G M_X9_prompt [.ref 40, .int a1] h (.inr cNo, h')) (hx : h[40]? = some (some (.inr (9, fs)))) : ACH G ML_prompt [.ref 40, .int a1, .ref 132] h (.inl (some (.int 1)), h') := by
  refine ACH.of (by decide) (Nat.le_of_ble_eq_true rfl) ?_
  show AG G ML_prompt 0 [some (.ref 40), some (.int a1), some (.ref 132), none] [] _ _
  refine g_aload_n dL_prompt_0 rfl rfl ?_
  refine g_iconst (v := 0) dL_prompt_1 (by decide) ?_
  refine g_aload_n dL_prompt_2 rfl rfl ?_
  refine g_iload_n dL_prompt_3 rfl rfl ?_
  refine g_catchV (M' := M_X9_prompt) (as := [.int a1]) (pre := []) (npc := 13) (i := 3) (nm := cNo) (aIn1 1349 (by decide +kernel) rfl) kV_X9_prompt (by decide) ha rfl (by decide) hx ⟨_, _, rfl⟩ (Nat.le_of_ble_eq_true rfl) dL_prompt_4 rfl (fun z hz => absurd hz List.not_mem_nil) (by decide) (by decide) lk_No (fun U H q => (hN U H q).2.1) (Or.inl ⟨3, dL_prompt_12, rfl, rfl⟩) (by decide) rfl ?_
  refine g_iconst (v := 1) dL_prompt_13 (by decide) ?_
  exact g_iret rfl dL_prompt_14
abbrev ML_walk : aM := (yL_walk, cL_walk, 4, some .int, 94, [(0, 9, 12, 18)])
theorem kH_walk : aCalH ML_walk 3 := ⟨(aIn1 1355 (by decide +kernel) rfl), (aIn1 94 (by decide +kernel) rfl), ⟨by decide, by decide⟩, by decide +kernel, by decide, (aIn1 1354 (by decide +kernel) rfl)⟩
theorem w0_walk {G : aG} {h h' : aH} {a1 : Int32} {fs : List Value} {v : Int32} {u : Nat → Int64} (ha : AC G M_X9_walk [.ref 40, .int a1] h (.inl (some (.int v)), h')) (hx : h[40]? = some (some (.inr (9, fs)))) (ho : h'[132]? = some (aU u)) : ACH G ML_walk [.ref 40, .int a1, .ref 132] h (.inl (some (.int 0)), h'.set 132 (aU (vp_updL u (0 : Int32).toNatClampNeg v.toInt64))) := by
  refine ACH.of (by decide) (Nat.le_of_ble_eq_true rfl) ?_
  show AG G ML_walk 0 [some (.ref 40), some (.int a1), some (.ref 132), none] [] _ _
  refine g_aload_n dL_walk_0 rfl rfl ?_
  refine g_iconst (v := 0) dL_walk_1 (by decide) ?_
  refine g_aload_n dL_walk_2 rfl rfl ?_
  refine g_iload_n dL_walk_3 rfl rfl ?_
  refine g_callV (M' := M_X9_walk) (as := [.int a1]) (v := some (.int v)) l_L_131 kV_X9_walk (by decide) ha rfl (by decide) hx ⟨_, _, rfl⟩ (Nat.le_of_ble_eq_true rfl) dL_walk_4 ?_
  refine g_i2l dL_walk_7 ?_
  refine g_last dL_walk_8 (by decide) ho vp01 ?_
  refine g_goto (tgt := 15) dL_walk_9 (by decide) ?_
  refine g_iconst (v := 0) dL_walk_15 (by decide) ?_
  exact g_iret rfl dL_walk_16
theorem wN_walk {G : aG} {h h' : aH} {a1 : Int32} {fs : List Value} (hN : aNc G) (ha : AC G M_X9_walk [.ref 40, .int a1] h (.inr cNo, h')) (hx : h[40]? = some (some (.inr (9, fs)))) : ACH G ML_walk [.ref 40, .int a1, .ref 132] h (.inl (some (.int 1)), h') := by
  refine ACH.of (by decide) (Nat.le_of_ble_eq_true rfl) ?_
  show AG G ML_walk 0 [some (.ref 40), some (.int a1), some (.ref 132), none] [] _ _
  refine g_aload_n dL_walk_0 rfl rfl ?_
  refine g_iconst (v := 0) dL_walk_1 (by decide) ?_
  refine g_aload_n dL_walk_2 rfl rfl ?_
  refine g_iload_n dL_walk_3 rfl rfl ?_
  refine g_catchV (M' := M_X9_walk) (as := [.int a1]) (pre := []) (npc := 13) (i := 3) (nm := cNo) (aIn1 1356 (by decide +kernel) rfl) kV_X9_walk (by decide) ha rfl (by decide) hx ⟨_, _, rfl⟩ (Nat.le_of_ble_eq_true rfl) dL_walk_4 rfl (fun z hz => absurd hz List.not_mem_nil) (by decide) (by decide) lk_No (fun U H q => (hN U H q).2.1) (Or.inl ⟨3, dL_walk_12, rfl, rfl⟩) (by decide) rfl ?_
  refine g_iconst (v := 1) dL_walk_13 (by decide) ?_
  exact g_iret rfl dL_walk_14
end
