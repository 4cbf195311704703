section
/-! ===== the law, from its first instruction ===== -/
theorem nw_L_8 : aNew RL 8 9 [.null, .null, .null, .null, .null, .null, .null, .null, .null, .null, .int 0, .int 0] := ⟨RX9, TX9, 12, cl_9, (aIn1 120 (by decide +kernel) rfl), (aIn1 121 (by decide +kernel) rfl), (aIn1 95 (by decide +kernel) rfl), rfl, fun k t hk ht => by
  have h9 := (tyX9_ok k hk).symm.trans ht
  obtain rfl := Option.some.inj h9
  revert k
  decide +kernel⟩
theorem nw_L_135 : aNew RL 135 10 [.int 0, .int 0, .int 0, .int 0, .int 0, .int 0, .null, .null, .null, .null, .null, .null, .int 0, .int 0, .int 0, .null, .int 0, .int 0, .int 0, .int 0, .int 0, .int 0, .int 0, .long 0, .int 0, .int 0, .int 0, .int 0, .int 0, .int 0, .int 0, .int 0, .int 0, .null, .null, .null, .null, .null, .null, .null, .null, .null, .null, .int 0, .null, .null, .null, .null, .null, .int 0, .int 0, .int 0, .int 0, .int 0, .int 0, .int 0, .null, .null, .int 0, .null, .null, .null, .int 0, .null, .int 0, .int 0, .int 0, .null, .null, .null] := ⟨RX10, TX10, 70, cl_10, (aIn1 1360 (by decide +kernel) rfl), (aIn1 1361 (by decide +kernel) rfl), (aIn1 104 (by decide +kernel) rfl), rfl, fun k t hk ht => by
  have h9 := (tyX10_ok k hk).symm.trans ht
  obtain rfl := Option.some.inj h9
  revert k
  decide +kernel⟩
theorem al_long : Cond.arrayClass .long ∈ aW := (aIn1 421 (by decide +kernel) rfl)
abbrev h0L : aH := List.replicate 40 none
abbrev hXL : aH := wWin tbX 40 0 wx0 ++ wWin tbT 93 1000 wx0
theorem c_X9 {G : aG} : AC G M_X9_init [.ref 40] (h0L ++ [some (.inr (9, [.null, .null, .null, .null, .null, .null, .null, .null, .null, .null, .int 0, .int 0]))]) (.inl none, h0L ++ hXL) := C_X9_init (b := 40) List.length_replicate (by decide)
theorem h1len : (h0L ++ hXL).length = 100 := by
  rw [List.length_append, List.length_append, List.length_replicate, wWin_len, wWin_len, len_X, len_T]
set_option maxRecDepth 40000 in
theorem c_X10 {G : aG} : AC G M_X10_init [.ref 100] ((h0L ++ hXL) ++ [some (.inr (10, [.int 0, .int 0, .int 0, .int 0, .int 0, .int 0, .null, .null, .null, .null, .null, .null, .int 0, .int 0, .int 0, .null, .int 0, .int 0, .int 0, .int 0, .int 0, .int 0, .int 0, .long 0, .int 0, .int 0, .int 0, .int 0, .int 0, .int 0, .int 0, .int 0, .int 0, .null, .null, .null, .null, .null, .null, .null, .null, .null, .null, .int 0, .null, .null, .null, .null, .null, .int 0, .int 0, .int 0, .int 0, .int 0, .int 0, .int 0, .null, .null, .int 0, .null, .null, .null, .int 0, .null, .int 0, .int 0, .int 0, .null, .null, .null]))]) (.inl none, (h0L ++ hXL) ++ wWin tbM 100 0 wm0) := C_X10_init (b := 100) h1len (by decide)
theorem h2len : ((h0L ++ hXL) ++ wWin tbM 100 0 wm0).length = 132 := by
  rw [List.length_append, h1len, wWin_len, len_M]
theorem h3eq : ((h0L ++ hXL) ++ wWin tbM 100 0 wm0) ++ [aU (fun _ => 0)] = FF0 wx0 wm0 (fun _ => 0) := by
  rw [FF0_eq2]
  unfold A0
  rw [← List.append_assoc (List.replicate 40 none)]
set_option maxRecDepth 40000 in
theorem law_run {G : aG} {L : Nat} {xs : Nat → Int32} (hG : aGood G) (hT : aTxt G) (hX : aScr G L xs) (hN : aNc G) (hL : L ≤ 3072) : ∃ R, Rfin (133 + 13 * 512) (240 + sTb tbX + sTb tbT + sTb tbM + 1 + 1600 * 512) R ∧ AG G ML_law 0 [some (.ref 0), none, none, none, none, none, none] [] h0L R := by
  obtain ⟨R, hR, K⟩ := law_loop hG hT hX hN hL 512 0 FF0 o0 133 _ t0 _ wx0 wm0 (fun _ => 0) (by omega) (Nat.zero_le _) LH0 RR0
  refine ⟨R, hR, ?_⟩
  refine g_new nw_L_8 dL_law_0 ?_
  rw [List.length_replicate]
  refine g_dup dL_law_3 rfl ?_
  refine g_callI (M' := M_X9_init) (as := []) l_L_134 kI_X9_init (by decide) c_X9 rfl (Nat.le_of_ble_eq_true rfl) dL_law_4 ?_
  refine g_astore_n (i := 1) dL_law_7 rfl (by decide) rfl ?_
  refine g_new nw_L_135 dL_law_8 ?_
  rw [h1len]
  refine g_dup dL_law_11 rfl ?_
  refine g_callI (M' := M_X10_init) (as := []) l_L_137 kI_X10_init (by decide) c_X10 rfl (Nat.le_of_ble_eq_true rfl) dL_law_12 ?_
  refine g_astore_n (i := 2) dL_law_15 rfl (by decide) rfl ?_
  refine g_iconst (v := 1) dL_law_16 (by decide) ?_
  refine g_new_long (n := 1) al_long dL_law_17 (by decide) (by decide) (by decide) ?_
  rw [h2len]
  refine g_astore_n (i := 3) dL_law_19 rfl (by decide) rfl ?_
  refine g_iconst (v := 0) dL_law_20 (by decide) ?_
  refine g_istore dL_law_21 (by decide) rfl ?_
  rw [← h3eq] at K
  exact K
end
