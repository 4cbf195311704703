/-! ===== Reader.line ===== -/
/-- what holds while a text is read -/
def KD (A : wS → aH) (bx : Nat) (o : wO) : Prop := Emb A bx 0 tbX ∧ wFar A ∧ (∀ w, (A w).length = oT o) ∧ 40 ≤ oT o ∧ oOk o
theorem KD.E {A : wS → aH} {bx : Nat} {o : wO} (K : KD A bx o) : EX (HD A o) bx o := EX_HR K.1 K.2.1 K.2.2.1 (fun _ _ _ _ => rfl) K.2.2.2.1 K.2.2.2.2
theorem KD.to {A : wS → aH} {bx : Nat} {o o' : wO} (K : KD A bx o) (h : oT o' = oT o) (ho : oOk o') : KD A bx o' := ⟨K.1, K.2.1, by rw [h]; exact K.2.2.1, by rw [h]; exact K.2.2.2.1, ho⟩
theorem KD.told {G : aG} {A : wS → aH} {bx : Nat} {o : wO} {a : Int32} {w : wS} {r : Int32 × wO × wS} (K : KD A bx o) (hG : aGood G) (hX : aTxt G) (hL : L_X2_ruleTold o a w = some r) : AC G N_X2_ruleTold [.ref (bx + 1), .int a] (HD A o w) (.inl (some (.int r.1)), HD A r.2.1 r.2.2) ∧ KD A bx r.2.1 := by
  obtain ⟨h1, h2, h3⟩ := C_X2_ruleTold hG hX K.1 K.2.1 K.2.2.1 K.2.2.2.1 K.2.2.2.2 hL
  exact ⟨h1, K.to h2 h3⟩
def xB3 {α β δ γ : Type} (o : Option (α × β × δ)) (k : α → β → δ → Option γ) : Option γ := match o with
  | some (a, b, c) => k a b c
  | none => none
theorem xB3_some {α β δ γ : Type} {o : Option (α × β × δ)} {k : α → β → δ → Option γ} {r : γ} (h : xB3 o k = some r) : ∃ a b c, o = some (a, b, c) ∧ k a b c = some r := by
  cases o with
  | none => cases h
  | some a => exact ⟨a.1, a.2.1, a.2.2, rfl, h⟩
abbrev N_X2_line : aM := (yX2_line, cX2_line, 2, some .boolean, 91, [])
theorem nV_X2_line : aCalV N_X2_line 0 := kV_X2_line
def J_X2_line_169 (o : wO) (y0 : Int32) (w : wS) : Option (Int32 × wO × wS) :=
  xB (xBool (y0)) fun v1 => some (v1, o, w)
set_option maxRecDepth 20000 in
theorem J_X2_line_169_ok {G : aG} {A : wS → aH} {bx : Nat} {o : wO} {y0 : Int32} {w : wS} {r : Int32 × wO × wS} (hG : aGood G) (hX : aTxt G) (K : KD A bx o) (hL : J_X2_line_169 o  y0 w = some r) : AG G N_X2_line 169 [none, none] [.int (y0)] (HD A o w) (.inl (some (.int r.1)), HD A r.2.1 r.2.2) := by
  unfold J_X2_line_169 at hL
  have E := K.E
  obtain ⟨v1, hb, hR⟩ := xB_some hL
  obtain ⟨hz, hb2⟩ := xBool_some hb
  clear hL
  subst hz
  obtain rfl := Option.some.inj hR
  exact g_zret rfl (narrow_bool hb2) dX2_line_169
def J_X2_line_168 (o : wO) (w : wS) : Option (Int32 × wO × wS) :=
  J_X2_line_169 o  (0) w
set_option maxRecDepth 20000 in
theorem J_X2_line_168_ok {G : aG} {A : wS → aH} {bx : Nat} {o : wO} {w : wS} {r : Int32 × wO × wS} (hG : aGood G) (hX : aTxt G) (K : KD A bx o) (hL : J_X2_line_168 o   w = some r) : AG G N_X2_line 168 [none, none] [] (HD A o w) (.inl (some (.int r.1)), HD A r.2.1 r.2.2) := by
  unfold J_X2_line_168 at hL
  have E := K.E
  refine g_iconst (v := 0) dX2_line_168 (by decide) ?_
  exact J_X2_line_169_ok hG hX K hL 
def J_X2_line_151 (o : wO) (x1 : Int32) (w : wS) : Option (Int32 × wO × wS) :=
  if x1 = 0 then J_X2_line_168 o   w else xB2 (L_X2_taken o (59) w) fun v2 w3 => if v2 = 0 then J_X2_line_168 o   w3 else J_X2_line_169 o  (1) w3
set_option maxRecDepth 20000 in
theorem J_X2_line_151_ok {G : aG} {A : wS → aH} {bx : Nat} {o : wO} {x1 : Int32} {w : wS} {r : Int32 × wO × wS} (hG : aGood G) (hX : aTxt G) (K : KD A bx o) (hL : J_X2_line_151 o  x1 w = some r) : AG G N_X2_line 151 [some (.ref (bx + 1)), some (.int (x1))] [] (HD A o w) (.inl (some (.int r.1)), HD A r.2.1 r.2.2) := by
  unfold J_X2_line_151 at hL
  have E := K.E
  refine g_iload_n dX2_line_151 rfl rfl ?_
  refine g_none 1 ?_
  refine g_if_eq (tgt := 168) dX2_line_152 (by decide) (fun q5 => ?_) (fun q5 => ?_)
  · rw [if_pos q5] at hL
    refine g_none 0 ?_
    exact J_X2_line_168_ok hG hX K hL 
  · rw [if_neg q5] at hL
    refine g_aload_n dX2_line_155 rfl rfl ?_
    refine g_none 0 ?_
    refine g_bipush (v := 59) dX2_line_156 (by decide) ?_
    obtain ⟨v2, w3, hc, hL⟩ := xB2_some hL
    refine g_callV (M' := M_X2_taken) (as := [.int (59)]) (v := some (.int (v2))) l_X2_95 kV_X2_taken (by decide) (C_X2_taken hG hX E hc) rfl (by have := E.1.1; omega) (E.1.2.1 _ 1 _ rfl) ⟨_, _, rfl⟩ (Nat.le_of_ble_eq_true rfl) dX2_line_158 ?_
    refine g_if_eq (tgt := 168) dX2_line_161 (by decide) (fun q4 => ?_) (fun q4 => ?_)
    · rw [if_pos q4] at hL
      exact J_X2_line_168_ok hG hX K hL 
    · rw [if_neg q4] at hL
      refine g_iconst (v := 1) dX2_line_164 (by decide) ?_
      refine g_goto (tgt := 169) dX2_line_165 (by decide) ?_
      exact J_X2_line_169_ok hG hX K hL 
def L_X2_line (o : wO) (w : wS) : Option (Int32 × wO × wS) :=
  xB2 (L_X7_is_S1 o  w) fun v6 w7 => if v6 = 0 then xB2 (L_X7_is_S2 o  w7) fun v8 w9 => if v8 = 0 then xB2 (L_X7_is_S3 o  w9) fun v10 w11 => if v10 = 0 then xB2 (L_X7_is_S4 o  w11) fun v12 w13 => if v12 = 0 then xB2 (L_X7_is_S5 o  w13) fun v14 w15 => if v14 = 0 then xB2 (L_X7_is_S6 o  w15) fun v16 w17 => if v16 = 0 then xB2 (L_X7_is_S16 o  w17) fun v18 w19 => if v18 = 0 then xB2 (L_X2_refuse o (1) w19) fun v20 w21 => J_X2_line_151 o  (v20) w21 else xB3 (L_X2_ruleTold o (1) w19) fun v22 o w23 => J_X2_line_151 o  (v22) w23 else xB3 (L_X2_ruleTold o (0) w17) fun v25 o w26 => J_X2_line_151 o  (v25) w26 else xB2 (L_X2_paceTold o  w15) fun v28 w29 => J_X2_line_151 o  (v28) w29 else xB2 (L_X2_dutyTold o  w13) fun v31 w32 => J_X2_line_151 o  (v31) w32 else xB2 (L_X2_human o (2) w11) fun v34 w35 => J_X2_line_151 o  (v34) w35 else xB2 (L_X2_human o (1) w9) fun v37 w38 => J_X2_line_151 o  (v37) w38 else xB2 (L_X2_human o (0) w7) fun v40 w41 => J_X2_line_151 o  (v40) w41
set_option maxRecDepth 20000 in
theorem C_X2_line {G : aG} {A : wS → aH} {bx : Nat} {o : wO} {w : wS} {r : Int32 × wO × wS} (hG : aGood G) (hX : aTxt G) (K : KD A bx o) (hL : L_X2_line o  w = some r) : AC G N_X2_line [.ref (bx + 1)] (HD A o w) (.inl (some (.int r.1)), HD A r.2.1 r.2.2) := by
  unfold L_X2_line at hL
  have E := K.E
  refine AC.of (by decide) rfl (Nat.le_of_ble_eq_true rfl) ?_
  show AG G N_X2_line 0 [some (.ref (bx + 1)), none] [] _ _
  refine g_aload_n dX2_line_0 rfl rfl ?_
  refine s_getR (k := 1) (j := 0) E.1 rfl rfl f_X2_12 dX2_line_1 ?_
  refine g_ldcS (k := 1) hG (by decide) rfl dX2_line_4 ?_
  obtain ⟨v6, w7, hc, hL⟩ := xB2_some hL
  refine g_callV (M' := M_X7_is) (as := [.ref 2]) (v := some (.int (v6))) l_X2_62 kV_X7_is (by decide) (C_X7_is_S1 hG hX E hc) rfl (by have := E.1.1; omega) (E.1.2.1 _ 2 _ rfl) ⟨_, _, rfl⟩ (Nat.le_of_ble_eq_true rfl) dX2_line_6 ?_
  refine g_if_eq (tgt := 21) dX2_line_9 (by decide) (fun q42 => ?_) (fun q42 => ?_)
  · rw [if_pos q42] at hL
    refine g_aload_n dX2_line_21 rfl rfl ?_
    refine s_getR (k := 1) (j := 0) E.1 rfl rfl f_X2_12 dX2_line_22 ?_
    refine g_ldcS (k := 2) hG (by decide) rfl dX2_line_25 ?_
    obtain ⟨v8, w9, hc, hL⟩ := xB2_some hL
    refine g_callV (M' := M_X7_is) (as := [.ref 3]) (v := some (.int (v8))) l_X2_62 kV_X7_is (by decide) (C_X7_is_S2 hG hX E hc) rfl (by have := E.1.1; omega) (E.1.2.1 _ 2 _ rfl) ⟨_, _, rfl⟩ (Nat.le_of_ble_eq_true rfl) dX2_line_27 ?_
    refine g_if_eq (tgt := 42) dX2_line_30 (by decide) (fun q39 => ?_) (fun q39 => ?_)
    · rw [if_pos q39] at hL
      refine g_aload_n dX2_line_42 rfl rfl ?_
      refine s_getR (k := 1) (j := 0) E.1 rfl rfl f_X2_12 dX2_line_43 ?_
      refine g_ldcS (k := 3) hG (by decide) rfl dX2_line_46 ?_
      obtain ⟨v10, w11, hc, hL⟩ := xB2_some hL
      refine g_callV (M' := M_X7_is) (as := [.ref 4]) (v := some (.int (v10))) l_X2_62 kV_X7_is (by decide) (C_X7_is_S3 hG hX E hc) rfl (by have := E.1.1; omega) (E.1.2.1 _ 2 _ rfl) ⟨_, _, rfl⟩ (Nat.le_of_ble_eq_true rfl) dX2_line_48 ?_
      refine g_if_eq (tgt := 63) dX2_line_51 (by decide) (fun q36 => ?_) (fun q36 => ?_)
      · rw [if_pos q36] at hL
        refine g_aload_n dX2_line_63 rfl rfl ?_
        refine s_getR (k := 1) (j := 0) E.1 rfl rfl f_X2_12 dX2_line_64 ?_
        refine g_ldcS (k := 4) hG (by decide) rfl dX2_line_67 ?_
        obtain ⟨v12, w13, hc, hL⟩ := xB2_some hL
        refine g_callV (M' := M_X7_is) (as := [.ref 5]) (v := some (.int (v12))) l_X2_62 kV_X7_is (by decide) (C_X7_is_S4 hG hX E hc) rfl (by have := E.1.1; omega) (E.1.2.1 _ 2 _ rfl) ⟨_, _, rfl⟩ (Nat.le_of_ble_eq_true rfl) dX2_line_69 ?_
        refine g_if_eq (tgt := 83) dX2_line_72 (by decide) (fun q33 => ?_) (fun q33 => ?_)
        · rw [if_pos q33] at hL
          refine g_aload_n dX2_line_83 rfl rfl ?_
          refine s_getR (k := 1) (j := 0) E.1 rfl rfl f_X2_12 dX2_line_84 ?_
          refine g_ldcS (k := 5) hG (by decide) rfl dX2_line_87 ?_
          obtain ⟨v14, w15, hc, hL⟩ := xB2_some hL
          refine g_callV (M' := M_X7_is) (as := [.ref 6]) (v := some (.int (v14))) l_X2_62 kV_X7_is (by decide) (C_X7_is_S5 hG hX E hc) rfl (by have := E.1.1; omega) (E.1.2.1 _ 2 _ rfl) ⟨_, _, rfl⟩ (Nat.le_of_ble_eq_true rfl) dX2_line_89 ?_
          refine g_if_eq (tgt := 103) dX2_line_92 (by decide) (fun q30 => ?_) (fun q30 => ?_)
          · rw [if_pos q30] at hL
            refine g_aload_n dX2_line_103 rfl rfl ?_
            refine s_getR (k := 1) (j := 0) E.1 rfl rfl f_X2_12 dX2_line_104 ?_
            refine g_ldcS (k := 6) hG (by decide) rfl dX2_line_107 ?_
            obtain ⟨v16, w17, hc, hL⟩ := xB2_some hL
            refine g_callV (M' := M_X7_is) (as := [.ref 7]) (v := some (.int (v16))) l_X2_62 kV_X7_is (by decide) (C_X7_is_S6 hG hX E hc) rfl (by have := E.1.1; omega) (E.1.2.1 _ 2 _ rfl) ⟨_, _, rfl⟩ (Nat.le_of_ble_eq_true rfl) dX2_line_109 ?_
            refine g_if_eq (tgt := 124) dX2_line_112 (by decide) (fun q27 => ?_) (fun q27 => ?_)
            · rw [if_pos q27] at hL
              refine g_aload_n dX2_line_124 rfl rfl ?_
              refine s_getR (k := 1) (j := 0) E.1 rfl rfl f_X2_12 dX2_line_125 ?_
              refine g_ldcS (k := 16) hG (by decide) rfl dX2_line_128 ?_
              obtain ⟨v18, w19, hc, hL⟩ := xB2_some hL
              refine g_callV (M' := M_X7_is) (as := [.ref 17]) (v := some (.int (v18))) l_X2_62 kV_X7_is (by decide) (C_X7_is_S16 hG hX E hc) rfl (by have := E.1.1; omega) (E.1.2.1 _ 2 _ rfl) ⟨_, _, rfl⟩ (Nat.le_of_ble_eq_true rfl) dX2_line_130 ?_
              refine g_if_eq (tgt := 145) dX2_line_133 (by decide) (fun q24 => ?_) (fun q24 => ?_)
              · rw [if_pos q24] at hL
                refine g_aload_n dX2_line_145 rfl rfl ?_
                refine g_iconst (v := 1) dX2_line_146 (by decide) ?_
                obtain ⟨v20, w21, hc, hL⟩ := xB2_some hL
                refine g_callV (M' := M_X2_refuse) (as := [.int (1)]) (v := some (.int (v20))) l_X2_92 kV_X2_refuse (by decide) (C_X2_refuse hG hX E hc) rfl (by have := E.1.1; omega) (E.1.2.1 _ 1 _ rfl) ⟨_, _, rfl⟩ (Nat.le_of_ble_eq_true rfl) dX2_line_147 ?_
                refine g_istore_n (i := 1) dX2_line_150 rfl (by decide) rfl ?_
                exact J_X2_line_151_ok hG hX K hL 
              · rw [if_neg q24] at hL
                refine g_aload_n dX2_line_136 rfl rfl ?_
                refine g_iconst (v := 1) dX2_line_137 (by decide) ?_
                obtain ⟨v22, o9, w23, hc, hL⟩ := xB3_some hL
                obtain ⟨hac, K9⟩ := K.told hG hX hc
                refine g_callV (M' := N_X2_ruleTold) (as := [.int (1)]) (v := some (.int v22)) l_X2_86 nV_X2_ruleTold (by decide) hac rfl (by have := E.1.1; omega) (E.1.2.1 _ 1 _ rfl) ⟨_, _, rfl⟩ (Nat.le_of_ble_eq_true rfl) dX2_line_138 ?_
                clear hac E K
                rename KD A bx o9 => K
                have E := K.E
                clear hc
                refine g_istore_n (i := 1) dX2_line_141 rfl (by decide) rfl ?_
                refine g_goto (tgt := 151) dX2_line_142 (by decide) ?_
                exact J_X2_line_151_ok hG hX K hL 
            · rw [if_neg q27] at hL
              refine g_aload_n dX2_line_115 rfl rfl ?_
              refine g_iconst (v := 0) dX2_line_116 (by decide) ?_
              obtain ⟨v25, o9, w26, hc, hL⟩ := xB3_some hL
              obtain ⟨hac, K9⟩ := K.told hG hX hc
              refine g_callV (M' := N_X2_ruleTold) (as := [.int (0)]) (v := some (.int v25)) l_X2_86 nV_X2_ruleTold (by decide) hac rfl (by have := E.1.1; omega) (E.1.2.1 _ 1 _ rfl) ⟨_, _, rfl⟩ (Nat.le_of_ble_eq_true rfl) dX2_line_117 ?_
              clear hac E K
              rename KD A bx o9 => K
              have E := K.E
              clear hc
              refine g_istore_n (i := 1) dX2_line_120 rfl (by decide) rfl ?_
              refine g_goto (tgt := 151) dX2_line_121 (by decide) ?_
              exact J_X2_line_151_ok hG hX K hL 
          · rw [if_neg q30] at hL
            refine g_aload_n dX2_line_95 rfl rfl ?_
            obtain ⟨v28, w29, hc, hL⟩ := xB2_some hL
            refine g_callV (M' := M_X2_paceTold) (as := []) (v := some (.int (v28))) l_X2_81 kV_X2_paceTold (by decide) (C_X2_paceTold hG hX E hc) rfl (by have := E.1.1; omega) (E.1.2.1 _ 1 _ rfl) ⟨_, _, rfl⟩ (Nat.le_of_ble_eq_true rfl) dX2_line_96 ?_
            refine g_istore_n (i := 1) dX2_line_99 rfl (by decide) rfl ?_
            refine g_goto (tgt := 151) dX2_line_100 (by decide) ?_
            exact J_X2_line_151_ok hG hX K hL 
        · rw [if_neg q33] at hL
          refine g_aload_n dX2_line_75 rfl rfl ?_
          obtain ⟨v31, w32, hc, hL⟩ := xB2_some hL
          refine g_callV (M' := M_X2_dutyTold) (as := []) (v := some (.int (v31))) l_X2_76 kV_X2_dutyTold (by decide) (C_X2_dutyTold hG hX E hc) rfl (by have := E.1.1; omega) (E.1.2.1 _ 1 _ rfl) ⟨_, _, rfl⟩ (Nat.le_of_ble_eq_true rfl) dX2_line_76 ?_
          refine g_istore_n (i := 1) dX2_line_79 rfl (by decide) rfl ?_
          refine g_goto (tgt := 151) dX2_line_80 (by decide) ?_
          exact J_X2_line_151_ok hG hX K hL 
      · rw [if_neg q36] at hL
        refine g_aload_n dX2_line_54 rfl rfl ?_
        refine g_iconst (v := 2) dX2_line_55 (by decide) ?_
        obtain ⟨v34, w35, hc, hL⟩ := xB2_some hL
        refine g_callV (M' := M_X2_human) (as := [.int (2)]) (v := some (.int (v34))) l_X2_66 kV_X2_human (by decide) (C_X2_human hG hX E hc) rfl (by have := E.1.1; omega) (E.1.2.1 _ 1 _ rfl) ⟨_, _, rfl⟩ (Nat.le_of_ble_eq_true rfl) dX2_line_56 ?_
        refine g_istore_n (i := 1) dX2_line_59 rfl (by decide) rfl ?_
        refine g_goto (tgt := 151) dX2_line_60 (by decide) ?_
        exact J_X2_line_151_ok hG hX K hL 
    · rw [if_neg q39] at hL
      refine g_aload_n dX2_line_33 rfl rfl ?_
      refine g_iconst (v := 1) dX2_line_34 (by decide) ?_
      obtain ⟨v37, w38, hc, hL⟩ := xB2_some hL
      refine g_callV (M' := M_X2_human) (as := [.int (1)]) (v := some (.int (v37))) l_X2_66 kV_X2_human (by decide) (C_X2_human hG hX E hc) rfl (by have := E.1.1; omega) (E.1.2.1 _ 1 _ rfl) ⟨_, _, rfl⟩ (Nat.le_of_ble_eq_true rfl) dX2_line_35 ?_
      refine g_istore_n (i := 1) dX2_line_38 rfl (by decide) rfl ?_
      refine g_goto (tgt := 151) dX2_line_39 (by decide) ?_
      exact J_X2_line_151_ok hG hX K hL 
  · rw [if_neg q42] at hL
    refine g_aload_n dX2_line_12 rfl rfl ?_
    refine g_iconst (v := 0) dX2_line_13 (by decide) ?_
    obtain ⟨v40, w41, hc, hL⟩ := xB2_some hL
    refine g_callV (M' := M_X2_human) (as := [.int (0)]) (v := some (.int (v40))) l_X2_66 kV_X2_human (by decide) (C_X2_human hG hX E hc) rfl (by have := E.1.1; omega) (E.1.2.1 _ 1 _ rfl) ⟨_, _, rfl⟩ (Nat.le_of_ble_eq_true rfl) dX2_line_14 ?_
    refine g_istore_n (i := 1) dX2_line_17 rfl (by decide) rfl ?_
    refine g_goto (tgt := 151) dX2_line_18 (by decide) ?_
    exact J_X2_line_151_ok hG hX K hL 
