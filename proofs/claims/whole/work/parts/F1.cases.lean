section
theorem lc_12 {G : aG} {F : aF} {o : wO} {n s i L : Nat} {wx wm : wS} {u : Nat → Int64} {t : Tn} {z : Sy} {xs : Nat → Int32} {Q : aR → Prop} (hG : aGood G) (hT : aTxt G) (hX : aScr G L xs) (hN : aNc G) (h : LH F o n s) (r : RR t z o wx wm) (hi : i + 6 ≤ L) (hL : L ≤ 3072) (ih : IHs G i n s Q) : ∃ R, Q R ∧ AG G ML_law 899 (lsL i) [] (F wx wm u) R := by
  obtain ⟨w', rm, F1, n1, s1, u1, k, e2, h1, ⟨b1, b2⟩, ha, ⟨z1, rr⟩, ek, ev⟩ := wr_then (a1 := xs (i + 1)) (a2 := xs (i + 2)) (a3 := xs (i + 3)) (u := u) hG hN h r
  obtain ⟨R, hQ, K⟩ := ih F1 o t z1 w' rm.2 u1 n1 s1 h1 rr (by omega) (by omega)
  have hm := h1.2.1 w' u1
  have ho := h1.2.2.1 w' rm.2 u1
  refine ⟨R, hQ, ?_⟩
  refine g_aload_n dL_law_899 rfl rfl ?_
  refine g_arg (i := i) (j := 1) hX (v := 1) dL_law_900 dL_law_901 dL_law_903 dL_law_904 dL_law_905 rfl rfl rfl (by omega) hL ?_
  refine g_arg (i := i) (j := 2) hX (v := 2) dL_law_906 dL_law_907 dL_law_909 dL_law_910 dL_law_911 rfl rfl rfl (by omega) hL ?_
  refine g_arg (i := i) (j := 3) hX (v := 3) dL_law_912 dL_law_913 dL_law_915 dL_law_916 dL_law_917 rfl rfl rfl (by omega) hL ?_
  refine g_aload_n dL_law_918 rfl rfl ?_
  refine g_callH (M' := ML_then) (as := [.ref 40, .int (xs (i + 1)), .int (xs (i + 2)), .int (xs (i + 3)), .ref 132]) (v := some (.int k)) (aIn1 1026 (by decide +kernel) rfl) kH_then (by decide) ha rfl (Nat.le_of_ble_eq_true rfl) dL_law_919 ?_
  refine g_istore dL_law_922 (by decide) rfl ?_
  refine g_aload_n dL_law_924 rfl rfl ?_
  refine g_arg (i := i) (j := 1) hX (v := 1) dL_law_925 dL_law_926 dL_law_928 dL_law_929 dL_law_930 rfl rfl rfl (by omega) hL ?_
  refine g_arg (i := i) (j := 2) hX (v := 2) dL_law_931 dL_law_932 dL_law_934 dL_law_935 dL_law_936 rfl rfl rfl (by omega) hL ?_
  refine g_arg (i := i) (j := 3) hX (v := 3) dL_law_937 dL_law_938 dL_law_940 dL_law_941 dL_law_942 rfl rfl rfl (by omega) hL ?_
  refine g_callV (M' := M_X10_then) (as := [.int (xs (i + 1)), .int (xs (i + 2)), .int (xs (i + 3))]) (v := some (.int rm.1)) l_L_191 kV_X10_then (by decide) (C_X10_then hm e2) rfl (by decide) (hm.2.1 wm 0 _ rfl) ⟨_, _, rfl⟩ (Nat.le_of_ble_eq_true rfl) dL_law_943 ?_
  refine g_istore dL_law_946 (by decide) rfl ?_
  refine g_aload_n dL_law_948 rfl rfl ?_
  refine g_callV (M' := M_X10_thrown) (as := []) (v := some (.int (rm.2.1 0))) l_L_149 kV_X10_thrown (by decide) (C_X10_thrown hm (thrown_s rm.2)) rfl (by decide) (hm.2.1 rm.2 0 _ rfl) ⟨_, _, rfl⟩ (Nat.le_of_ble_eq_true rfl) dL_law_949 ?_
  refine g_iload dL_law_952 rfl ?_
  refine g_icmp_eq (tgt := 959) dL_law_954 (by decide) (fun _ => ?_) (fun q => absurd ek q)
  refine g_iload dL_law_959 rfl ?_
  have fin : AG G ML_law 976 [some (.ref 0), some (.ref 40), some (.ref 100), some (.ref 132), some (.int (nI i)), some (.int k), some (.int rm.1)] [] (F1 w' rm.2 u1) R := by
    refine g_goto (tgt := 2947) dL_law_976 (by decide) ?_
    refine g_none 5 ?_
    refine g_none 6 ?_
    exact K
  refine g_if_ne (tgt := 976) dL_law_961 (by decide) (fun _ => fin) (fun q => ?_)
  have hk0 : k = 0 := q
  refine g_aload_n dL_law_964 rfl rfl ?_
  refine g_iconst (v := 0) dL_law_965 (by decide) ?_
  refine g_lald dL_law_966 (by decide) ho vp01 ?_
  refine g_iload dL_law_967 rfl ?_
  refine g_i2l dL_law_969 ?_
  refine g_lcmp dL_law_970 ?_
  exact g_if_eq (tgt := 976) dL_law_971 (by decide) (fun _ => fin) (fun q => absurd (lg_0.2 (ev hk0)) q)
theorem lc_13 {G : aG} {F : aF} {o : wO} {n s i L : Nat} {wx wm : wS} {u : Nat → Int64} {t : Tn} {z : Sy} {xs : Nat → Int32} {Q : aR → Prop} (hG : aGood G) (hT : aTxt G) (hX : aScr G L xs) (hN : aNc G) (h : LH F o n s) (r : RR t z o wx wm) (hi : i + 6 ≤ L) (hL : L ≤ 3072) (ih : IHs G i n s Q) : ∃ R, Q R ∧ AG G ML_law 979 (lsL i) [] (F wx wm u) R := by
  obtain ⟨w', rm, F1, n1, s1, u1, k, e2, h1, ⟨b1, b2⟩, ha, ⟨z1, rr⟩, ek, ev⟩ := wr_later (a1 := xs (i + 1)) (a2 := xs (i + 2)) (a3 := xs (i + 3)) (u := u) hG hN h r
  obtain ⟨R, hQ, K⟩ := ih F1 o t z1 w' rm.2 u1 n1 s1 h1 rr (by omega) (by omega)
  have hm := h1.2.1 w' u1
  have ho := h1.2.2.1 w' rm.2 u1
  refine ⟨R, hQ, ?_⟩
  refine g_aload_n dL_law_979 rfl rfl ?_
  refine g_arg (i := i) (j := 1) hX (v := 1) dL_law_980 dL_law_981 dL_law_983 dL_law_984 dL_law_985 rfl rfl rfl (by omega) hL ?_
  refine g_arg (i := i) (j := 2) hX (v := 2) dL_law_986 dL_law_987 dL_law_989 dL_law_990 dL_law_991 rfl rfl rfl (by omega) hL ?_
  refine g_arg (i := i) (j := 3) hX (v := 3) dL_law_992 dL_law_993 dL_law_995 dL_law_996 dL_law_997 rfl rfl rfl (by omega) hL ?_
  refine g_aload_n dL_law_998 rfl rfl ?_
  refine g_callH (M' := ML_later) (as := [.ref 40, .int (xs (i + 1)), .int (xs (i + 2)), .int (xs (i + 3)), .ref 132]) (v := some (.int k)) (aIn1 1041 (by decide +kernel) rfl) kH_later (by decide) ha rfl (Nat.le_of_ble_eq_true rfl) dL_law_999 ?_
  refine g_istore dL_law_1002 (by decide) rfl ?_
  refine g_aload_n dL_law_1004 rfl rfl ?_
  refine g_arg (i := i) (j := 1) hX (v := 1) dL_law_1005 dL_law_1006 dL_law_1008 dL_law_1009 dL_law_1010 rfl rfl rfl (by omega) hL ?_
  refine g_arg (i := i) (j := 2) hX (v := 2) dL_law_1011 dL_law_1012 dL_law_1014 dL_law_1015 dL_law_1016 rfl rfl rfl (by omega) hL ?_
  refine g_arg (i := i) (j := 3) hX (v := 3) dL_law_1017 dL_law_1018 dL_law_1020 dL_law_1021 dL_law_1022 rfl rfl rfl (by omega) hL ?_
  refine g_callV (M' := M_X10_later) (as := [.int (xs (i + 1)), .int (xs (i + 2)), .int (xs (i + 3))]) (v := some (.int rm.1)) l_L_194 kV_X10_later (by decide) (C_X10_later hm e2) rfl (by decide) (hm.2.1 wm 0 _ rfl) ⟨_, _, rfl⟩ (Nat.le_of_ble_eq_true rfl) dL_law_1023 ?_
  refine g_istore dL_law_1026 (by decide) rfl ?_
  refine g_aload_n dL_law_1028 rfl rfl ?_
  refine g_callV (M' := M_X10_thrown) (as := []) (v := some (.int (rm.2.1 0))) l_L_149 kV_X10_thrown (by decide) (C_X10_thrown hm (thrown_s rm.2)) rfl (by decide) (hm.2.1 rm.2 0 _ rfl) ⟨_, _, rfl⟩ (Nat.le_of_ble_eq_true rfl) dL_law_1029 ?_
  refine g_iload dL_law_1032 rfl ?_
  refine g_icmp_eq (tgt := 1039) dL_law_1034 (by decide) (fun _ => ?_) (fun q => absurd ek q)
  refine g_iload dL_law_1039 rfl ?_
  have fin : AG G ML_law 1056 [some (.ref 0), some (.ref 40), some (.ref 100), some (.ref 132), some (.int (nI i)), some (.int k), some (.int rm.1)] [] (F1 w' rm.2 u1) R := by
    refine g_goto (tgt := 2947) dL_law_1056 (by decide) ?_
    refine g_none 5 ?_
    refine g_none 6 ?_
    exact K
  refine g_if_ne (tgt := 1056) dL_law_1041 (by decide) (fun _ => fin) (fun q => ?_)
  have hk0 : k = 0 := q
  refine g_aload_n dL_law_1044 rfl rfl ?_
  refine g_iconst (v := 0) dL_law_1045 (by decide) ?_
  refine g_lald dL_law_1046 (by decide) ho vp01 ?_
  refine g_iload dL_law_1047 rfl ?_
  refine g_i2l dL_law_1049 ?_
  refine g_lcmp dL_law_1050 ?_
  exact g_if_eq (tgt := 1056) dL_law_1051 (by decide) (fun _ => fin) (fun q => absurd (lg_0.2 (ev hk0)) q)
theorem lc_14 {G : aG} {F : aF} {o : wO} {n s i L : Nat} {wx wm : wS} {u : Nat → Int64} {t : Tn} {z : Sy} {xs : Nat → Int32} {Q : aR → Prop} (hG : aGood G) (hT : aTxt G) (hX : aScr G L xs) (hN : aNc G) (h : LH F o n s) (r : RR t z o wx wm) (hi : i + 6 ≤ L) (hL : L ≤ 3072) (ih : IHs G i n s Q) : ∃ R, Q R ∧ AG G ML_law 1059 (lsL i) [] (F wx wm u) R := by
  obtain ⟨w', rm, F1, n1, s1, u1, k, e2, h1, ⟨b1, b2⟩, ha, ⟨z1, rr⟩, ek, ev⟩ := wr_first (a1 := xs (i + 1)) (u := u) hG hN h r
  obtain ⟨R, hQ, K⟩ := ih F1 o t z1 w' rm.2 u1 n1 s1 h1 rr (by omega) (by omega)
  have hm := h1.2.1 w' u1
  have ho := h1.2.2.1 w' rm.2 u1
  refine ⟨R, hQ, ?_⟩
  refine g_aload_n dL_law_1059 rfl rfl ?_
  refine g_arg (i := i) (j := 1) hX (v := 1) dL_law_1060 dL_law_1061 dL_law_1063 dL_law_1064 dL_law_1065 rfl rfl rfl (by omega) hL ?_
  refine g_aload_n dL_law_1066 rfl rfl ?_
  refine g_callH (M' := ML_first) (as := [.ref 40, .int (xs (i + 1)), .ref 132]) (v := some (.int k)) (aIn1 1048 (by decide +kernel) rfl) kH_first (by decide) ha rfl (Nat.le_of_ble_eq_true rfl) dL_law_1067 ?_
  refine g_istore dL_law_1070 (by decide) rfl ?_
  refine g_aload_n dL_law_1072 rfl rfl ?_
  refine g_arg (i := i) (j := 1) hX (v := 1) dL_law_1073 dL_law_1074 dL_law_1076 dL_law_1077 dL_law_1078 rfl rfl rfl (by omega) hL ?_
  refine g_callV (M' := M_X10_first) (as := [.int (xs (i + 1))]) (v := some (.int rm.1)) l_L_197 kV_X10_first (by decide) (C_X10_first hm e2) rfl (by decide) (hm.2.1 wm 0 _ rfl) ⟨_, _, rfl⟩ (Nat.le_of_ble_eq_true rfl) dL_law_1079 ?_
  refine g_istore dL_law_1082 (by decide) rfl ?_
  refine g_aload_n dL_law_1084 rfl rfl ?_
  refine g_callV (M' := M_X10_thrown) (as := []) (v := some (.int (rm.2.1 0))) l_L_149 kV_X10_thrown (by decide) (C_X10_thrown hm (thrown_s rm.2)) rfl (by decide) (hm.2.1 rm.2 0 _ rfl) ⟨_, _, rfl⟩ (Nat.le_of_ble_eq_true rfl) dL_law_1085 ?_
  refine g_iload dL_law_1088 rfl ?_
  refine g_icmp_eq (tgt := 1095) dL_law_1090 (by decide) (fun _ => ?_) (fun q => absurd ek q)
  refine g_iload dL_law_1095 rfl ?_
  have fin : AG G ML_law 1112 [some (.ref 0), some (.ref 40), some (.ref 100), some (.ref 132), some (.int (nI i)), some (.int k), some (.int rm.1)] [] (F1 w' rm.2 u1) R := by
    refine g_goto (tgt := 2947) dL_law_1112 (by decide) ?_
    refine g_none 5 ?_
    refine g_none 6 ?_
    exact K
  refine g_if_ne (tgt := 1112) dL_law_1097 (by decide) (fun _ => fin) (fun q => ?_)
  have hk0 : k = 0 := q
  refine g_aload_n dL_law_1100 rfl rfl ?_
  refine g_iconst (v := 0) dL_law_1101 (by decide) ?_
  refine g_lald dL_law_1102 (by decide) ho vp01 ?_
  refine g_iload dL_law_1103 rfl ?_
  refine g_i2l dL_law_1105 ?_
  refine g_lcmp dL_law_1106 ?_
  exact g_if_eq (tgt := 1112) dL_law_1107 (by decide) (fun _ => fin) (fun q => absurd (lg_0.2 (ev hk0)) q)
theorem lc_15 {G : aG} {F : aF} {o : wO} {n s i L : Nat} {wx wm : wS} {u : Nat → Int64} {t : Tn} {z : Sy} {xs : Nat → Int32} {Q : aR → Prop} (hG : aGood G) (hT : aTxt G) (hX : aScr G L xs) (hN : aNc G) (h : LH F o n s) (r : RR t z o wx wm) (hi : i + 6 ≤ L) (hL : L ≤ 3072) (ih : IHs G i n s Q) : ∃ R, Q R ∧ AG G ML_law 1115 (lsL i) [] (F wx wm u) R := by
  obtain ⟨w', rm, F1, n1, s1, u1, k, e2, h1, ⟨b1, b2⟩, ha, ⟨z1, rr⟩, ek, ev⟩ := wr_worst (a1 := xs (i + 1)) (u := u) hG hN h r
  obtain ⟨R, hQ, K⟩ := ih F1 o t z1 w' rm.2 u1 n1 s1 h1 rr (by omega) (by omega)
  have hm := h1.2.1 w' u1
  have ho := h1.2.2.1 w' rm.2 u1
  refine ⟨R, hQ, ?_⟩
  refine g_aload_n dL_law_1115 rfl rfl ?_
  refine g_arg (i := i) (j := 1) hX (v := 1) dL_law_1116 dL_law_1117 dL_law_1119 dL_law_1120 dL_law_1121 rfl rfl rfl (by omega) hL ?_
  refine g_aload_n dL_law_1122 rfl rfl ?_
  refine g_callH (M' := ML_worst) (as := [.ref 40, .int (xs (i + 1)), .ref 132]) (v := some (.int k)) (aIn1 1057 (by decide +kernel) rfl) kH_worst (by decide) ha rfl (Nat.le_of_ble_eq_true rfl) dL_law_1123 ?_
  refine g_istore dL_law_1126 (by decide) rfl ?_
  refine g_aload_n dL_law_1128 rfl rfl ?_
  refine g_arg (i := i) (j := 1) hX (v := 1) dL_law_1129 dL_law_1130 dL_law_1132 dL_law_1133 dL_law_1134 rfl rfl rfl (by omega) hL ?_
  refine g_callV (M' := M_X10_worst) (as := [.int (xs (i + 1))]) (v := some (.int rm.1)) l_L_200 kV_X10_worst (by decide) (C_X10_worst hm e2) rfl (by decide) (hm.2.1 wm 0 _ rfl) ⟨_, _, rfl⟩ (Nat.le_of_ble_eq_true rfl) dL_law_1135 ?_
  refine g_istore dL_law_1138 (by decide) rfl ?_
  refine g_aload_n dL_law_1140 rfl rfl ?_
  refine g_callV (M' := M_X10_thrown) (as := []) (v := some (.int (rm.2.1 0))) l_L_149 kV_X10_thrown (by decide) (C_X10_thrown hm (thrown_s rm.2)) rfl (by decide) (hm.2.1 rm.2 0 _ rfl) ⟨_, _, rfl⟩ (Nat.le_of_ble_eq_true rfl) dL_law_1141 ?_
  refine g_iload dL_law_1144 rfl ?_
  refine g_icmp_eq (tgt := 1151) dL_law_1146 (by decide) (fun _ => ?_) (fun q => absurd ek q)
  refine g_iload dL_law_1151 rfl ?_
  have fin : AG G ML_law 1168 [some (.ref 0), some (.ref 40), some (.ref 100), some (.ref 132), some (.int (nI i)), some (.int k), some (.int rm.1)] [] (F1 w' rm.2 u1) R := by
    refine g_goto (tgt := 2947) dL_law_1168 (by decide) ?_
    refine g_none 5 ?_
    refine g_none 6 ?_
    exact K
  refine g_if_ne (tgt := 1168) dL_law_1153 (by decide) (fun _ => fin) (fun q => ?_)
  have hk0 : k = 0 := q
  refine g_aload_n dL_law_1156 rfl rfl ?_
  refine g_iconst (v := 0) dL_law_1157 (by decide) ?_
  refine g_lald dL_law_1158 (by decide) ho vp01 ?_
  refine g_iload dL_law_1159 rfl ?_
  refine g_i2l dL_law_1161 ?_
  refine g_lcmp dL_law_1162 ?_
  exact g_if_eq (tgt := 1168) dL_law_1163 (by decide) (fun _ => fin) (fun q => absurd (lg_0.2 (ev hk0)) q)
theorem lc_16 {G : aG} {F : aF} {o : wO} {n s i L : Nat} {wx wm : wS} {u : Nat → Int64} {t : Tn} {z : Sy} {xs : Nat → Int32} {Q : aR → Prop} (hG : aGood G) (hT : aTxt G) (hX : aScr G L xs) (hN : aNc G) (h : LH F o n s) (r : RR t z o wx wm) (hi : i + 6 ≤ L) (hL : L ≤ 3072) (ih : IHs G i n s Q) : ∃ R, Q R ∧ AG G ML_law 1171 (lsL i) [] (F wx wm u) R := by
  obtain ⟨w', rm, F1, n1, s1, u1, k, e2, h1, ⟨b1, b2⟩, ha, ⟨z1, rr⟩, ek, ev⟩ := wr_idle (a1 := xs (i + 1)) (u := u) hG hN h r
  obtain ⟨R, hQ, K⟩ := ih F1 o t z1 w' rm.2 u1 n1 s1 h1 rr (by omega) (by omega)
  have hm := h1.2.1 w' u1
  have ho := h1.2.2.1 w' rm.2 u1
  refine ⟨R, hQ, ?_⟩
  refine g_aload_n dL_law_1171 rfl rfl ?_
  refine g_arg (i := i) (j := 1) hX (v := 1) dL_law_1172 dL_law_1173 dL_law_1175 dL_law_1176 dL_law_1177 rfl rfl rfl (by omega) hL ?_
  refine g_aload_n dL_law_1178 rfl rfl ?_
  refine g_callH (M' := ML_idle) (as := [.ref 40, .int (xs (i + 1)), .ref 132]) (v := some (.int k)) (aIn1 1064 (by decide +kernel) rfl) kH_idle (by decide) ha rfl (Nat.le_of_ble_eq_true rfl) dL_law_1179 ?_
  refine g_istore dL_law_1182 (by decide) rfl ?_
  refine g_aload_n dL_law_1184 rfl rfl ?_
  refine g_arg (i := i) (j := 1) hX (v := 1) dL_law_1185 dL_law_1186 dL_law_1188 dL_law_1189 dL_law_1190 rfl rfl rfl (by omega) hL ?_
  refine g_callV (M' := M_X10_idle) (as := [.int (xs (i + 1))]) (v := some (.int rm.1)) l_L_203 kV_X10_idle (by decide) (C_X10_idle hm e2) rfl (by decide) (hm.2.1 wm 0 _ rfl) ⟨_, _, rfl⟩ (Nat.le_of_ble_eq_true rfl) dL_law_1191 ?_
  refine g_istore dL_law_1194 (by decide) rfl ?_
  refine g_aload_n dL_law_1196 rfl rfl ?_
  refine g_callV (M' := M_X10_thrown) (as := []) (v := some (.int (rm.2.1 0))) l_L_149 kV_X10_thrown (by decide) (C_X10_thrown hm (thrown_s rm.2)) rfl (by decide) (hm.2.1 rm.2 0 _ rfl) ⟨_, _, rfl⟩ (Nat.le_of_ble_eq_true rfl) dL_law_1197 ?_
  refine g_iload dL_law_1200 rfl ?_
  refine g_icmp_eq (tgt := 1207) dL_law_1202 (by decide) (fun _ => ?_) (fun q => absurd ek q)
  refine g_iload dL_law_1207 rfl ?_
  have fin : AG G ML_law 1224 [some (.ref 0), some (.ref 40), some (.ref 100), some (.ref 132), some (.int (nI i)), some (.int k), some (.int rm.1)] [] (F1 w' rm.2 u1) R := by
    refine g_goto (tgt := 2947) dL_law_1224 (by decide) ?_
    refine g_none 5 ?_
    refine g_none 6 ?_
    exact K
  refine g_if_ne (tgt := 1224) dL_law_1209 (by decide) (fun _ => fin) (fun q => ?_)
  have hk0 : k = 0 := q
  refine g_aload_n dL_law_1212 rfl rfl ?_
  refine g_iconst (v := 0) dL_law_1213 (by decide) ?_
  refine g_lald dL_law_1214 (by decide) ho vp01 ?_
  refine g_iload dL_law_1215 rfl ?_
  refine g_i2l dL_law_1217 ?_
  refine g_lcmp dL_law_1218 ?_
  exact g_if_eq (tgt := 1224) dL_law_1219 (by decide) (fun _ => fin) (fun q => absurd (lg_0.2 (ev hk0)) q)
theorem lc_17 {G : aG} {F : aF} {o : wO} {n s i L : Nat} {wx wm : wS} {u : Nat → Int64} {t : Tn} {z : Sy} {xs : Nat → Int32} {Q : aR → Prop} (hG : aGood G) (hT : aTxt G) (hX : aScr G L xs) (hN : aNc G) (h : LH F o n s) (r : RR t z o wx wm) (hi : i + 6 ≤ L) (hL : L ≤ 3072) (ih : IHs G i n s Q) : ∃ R, Q R ∧ AG G ML_law 1227 (lsL i) [] (F wx wm u) R := by
  obtain ⟨w', rm, F1, n1, s1, u1, k, e2, h1, ⟨b1, b2⟩, ha, ⟨z1, rr⟩, ek, ev⟩ := wr_round (a1 := xs (i + 1)) (u := u) hG hN h r
  obtain ⟨R, hQ, K⟩ := ih F1 o t z1 w' rm.2 u1 n1 s1 h1 rr (by omega) (by omega)
  have hm := h1.2.1 w' u1
  have ho := h1.2.2.1 w' rm.2 u1
  refine ⟨R, hQ, ?_⟩
  refine g_aload_n dL_law_1227 rfl rfl ?_
  refine g_arg (i := i) (j := 1) hX (v := 1) dL_law_1228 dL_law_1229 dL_law_1231 dL_law_1232 dL_law_1233 rfl rfl rfl (by omega) hL ?_
  refine g_aload_n dL_law_1234 rfl rfl ?_
  refine g_callH (M' := ML_round) (as := [.ref 40, .int (xs (i + 1)), .ref 132]) (v := some (.int k)) (aIn1 1071 (by decide +kernel) rfl) kH_round (by decide) ha rfl (Nat.le_of_ble_eq_true rfl) dL_law_1235 ?_
  refine g_istore dL_law_1238 (by decide) rfl ?_
  refine g_aload_n dL_law_1240 rfl rfl ?_
  refine g_arg (i := i) (j := 1) hX (v := 1) dL_law_1241 dL_law_1242 dL_law_1244 dL_law_1245 dL_law_1246 rfl rfl rfl (by omega) hL ?_
  refine g_callV (M' := M_X10_round) (as := [.int (xs (i + 1))]) (v := some (.int rm.1)) l_L_206 kV_X10_round (by decide) (C_X10_round hm e2) rfl (by decide) (hm.2.1 wm 0 _ rfl) ⟨_, _, rfl⟩ (Nat.le_of_ble_eq_true rfl) dL_law_1247 ?_
  refine g_istore dL_law_1250 (by decide) rfl ?_
  refine g_aload_n dL_law_1252 rfl rfl ?_
  refine g_callV (M' := M_X10_thrown) (as := []) (v := some (.int (rm.2.1 0))) l_L_149 kV_X10_thrown (by decide) (C_X10_thrown hm (thrown_s rm.2)) rfl (by decide) (hm.2.1 rm.2 0 _ rfl) ⟨_, _, rfl⟩ (Nat.le_of_ble_eq_true rfl) dL_law_1253 ?_
  refine g_iload dL_law_1256 rfl ?_
  refine g_icmp_eq (tgt := 1263) dL_law_1258 (by decide) (fun _ => ?_) (fun q => absurd ek q)
  refine g_iload dL_law_1263 rfl ?_
  have fin : AG G ML_law 1280 [some (.ref 0), some (.ref 40), some (.ref 100), some (.ref 132), some (.int (nI i)), some (.int k), some (.int rm.1)] [] (F1 w' rm.2 u1) R := by
    refine g_goto (tgt := 2947) dL_law_1280 (by decide) ?_
    refine g_none 5 ?_
    refine g_none 6 ?_
    exact K
  refine g_if_ne (tgt := 1280) dL_law_1265 (by decide) (fun _ => fin) (fun q => ?_)
  have hk0 : k = 0 := q
  refine g_aload_n dL_law_1268 rfl rfl ?_
  refine g_iconst (v := 0) dL_law_1269 (by decide) ?_
  refine g_lald dL_law_1270 (by decide) ho vp01 ?_
  refine g_iload dL_law_1271 rfl ?_
  refine g_i2l dL_law_1273 ?_
  refine g_lcmp dL_law_1274 ?_
  exact g_if_eq (tgt := 1280) dL_law_1275 (by decide) (fun _ => fin) (fun q => absurd (lg_0.2 (ev hk0)) q)
theorem lc_18 {G : aG} {F : aF} {o : wO} {n s i L : Nat} {wx wm : wS} {u : Nat → Int64} {t : Tn} {z : Sy} {xs : Nat → Int32} {Q : aR → Prop} (hG : aGood G) (hT : aTxt G) (hX : aScr G L xs) (hN : aNc G) (h : LH F o n s) (r : RR t z o wx wm) (hi : i + 6 ≤ L) (hL : L ≤ 3072) (ih : IHs G i n s Q) : ∃ R, Q R ∧ AG G ML_law 1283 (lsL i) [] (F wx wm u) R := by
  obtain ⟨w', rm, F1, n1, s1, u1, k, e2, h1, ⟨b1, b2⟩, ha, ⟨z1, rr⟩, ek, ev⟩ := wr_delay (a1 := xs (i + 1)) (a2 := xs (i + 2)) (u := u) hG hN h r
  obtain ⟨R, hQ, K⟩ := ih F1 o t z1 w' rm.2 u1 n1 s1 h1 rr (by omega) (by omega)
  have hm := h1.2.1 w' u1
  have ho := h1.2.2.1 w' rm.2 u1
  refine ⟨R, hQ, ?_⟩
  refine g_aload_n dL_law_1283 rfl rfl ?_
  refine g_arg (i := i) (j := 1) hX (v := 1) dL_law_1284 dL_law_1285 dL_law_1287 dL_law_1288 dL_law_1289 rfl rfl rfl (by omega) hL ?_
  refine g_arg (i := i) (j := 2) hX (v := 2) dL_law_1290 dL_law_1291 dL_law_1293 dL_law_1294 dL_law_1295 rfl rfl rfl (by omega) hL ?_
  refine g_aload_n dL_law_1296 rfl rfl ?_
  refine g_callH (M' := ML_delay) (as := [.ref 40, .int (xs (i + 1)), .int (xs (i + 2)), .ref 132]) (v := some (.int k)) (aIn1 1086 (by decide +kernel) rfl) kH_delay (by decide) ha rfl (Nat.le_of_ble_eq_true rfl) dL_law_1297 ?_
  refine g_istore dL_law_1300 (by decide) rfl ?_
  refine g_aload_n dL_law_1302 rfl rfl ?_
  refine g_arg (i := i) (j := 1) hX (v := 1) dL_law_1303 dL_law_1304 dL_law_1306 dL_law_1307 dL_law_1308 rfl rfl rfl (by omega) hL ?_
  refine g_arg (i := i) (j := 2) hX (v := 2) dL_law_1309 dL_law_1310 dL_law_1312 dL_law_1313 dL_law_1314 rfl rfl rfl (by omega) hL ?_
  refine g_callV (M' := M_X10_delay) (as := [.int (xs (i + 1)), .int (xs (i + 2))]) (v := some (.int rm.1)) l_L_209 kV_X10_delay (by decide) (C_X10_delay hm e2) rfl (by decide) (hm.2.1 wm 0 _ rfl) ⟨_, _, rfl⟩ (Nat.le_of_ble_eq_true rfl) dL_law_1315 ?_
  refine g_istore dL_law_1318 (by decide) rfl ?_
  refine g_aload_n dL_law_1320 rfl rfl ?_
  refine g_callV (M' := M_X10_thrown) (as := []) (v := some (.int (rm.2.1 0))) l_L_149 kV_X10_thrown (by decide) (C_X10_thrown hm (thrown_s rm.2)) rfl (by decide) (hm.2.1 rm.2 0 _ rfl) ⟨_, _, rfl⟩ (Nat.le_of_ble_eq_true rfl) dL_law_1321 ?_
  refine g_iload dL_law_1324 rfl ?_
  refine g_icmp_eq (tgt := 1331) dL_law_1326 (by decide) (fun _ => ?_) (fun q => absurd ek q)
  refine g_iload dL_law_1331 rfl ?_
  have fin : AG G ML_law 1348 [some (.ref 0), some (.ref 40), some (.ref 100), some (.ref 132), some (.int (nI i)), some (.int k), some (.int rm.1)] [] (F1 w' rm.2 u1) R := by
    refine g_goto (tgt := 2947) dL_law_1348 (by decide) ?_
    refine g_none 5 ?_
    refine g_none 6 ?_
    exact K
  refine g_if_ne (tgt := 1348) dL_law_1333 (by decide) (fun _ => fin) (fun q => ?_)
  have hk0 : k = 0 := q
  refine g_aload_n dL_law_1336 rfl rfl ?_
  refine g_iconst (v := 0) dL_law_1337 (by decide) ?_
  refine g_lald dL_law_1338 (by decide) ho vp01 ?_
  refine g_iload dL_law_1339 rfl ?_
  refine g_i2l dL_law_1341 ?_
  refine g_lcmp dL_law_1342 ?_
  exact g_if_eq (tgt := 1348) dL_law_1343 (by decide) (fun _ => fin) (fun q => absurd (lg_0.2 (ev hk0)) q)
theorem lc_19 {G : aG} {F : aF} {o : wO} {n s i L : Nat} {wx wm : wS} {u : Nat → Int64} {t : Tn} {z : Sy} {xs : Nat → Int32} {Q : aR → Prop} (hG : aGood G) (hT : aTxt G) (hX : aScr G L xs) (hN : aNc G) (h : LH F o n s) (r : RR t z o wx wm) (hi : i + 6 ≤ L) (hL : L ≤ 3072) (ih : IHs G i n s Q) : ∃ R, Q R ∧ AG G ML_law 1351 (lsL i) [] (F wx wm u) R := by
  obtain ⟨w', rm, F1, n1, s1, u1, k, e2, h1, ⟨b1, b2⟩, ha, ⟨z1, rr⟩, ek, ev⟩ := wr_club (a1 := xs (i + 1)) (a2 := xs (i + 2)) (u := u) hG hN h r
  obtain ⟨R, hQ, K⟩ := ih F1 o t z1 w' rm.2 u1 n1 s1 h1 rr (by omega) (by omega)
  have hm := h1.2.1 w' u1
  have ho := h1.2.2.1 w' rm.2 u1
  refine ⟨R, hQ, ?_⟩
  refine g_aload_n dL_law_1351 rfl rfl ?_
  refine g_arg (i := i) (j := 1) hX (v := 1) dL_law_1352 dL_law_1353 dL_law_1355 dL_law_1356 dL_law_1357 rfl rfl rfl (by omega) hL ?_
  refine g_arg (i := i) (j := 2) hX (v := 2) dL_law_1358 dL_law_1359 dL_law_1361 dL_law_1362 dL_law_1363 rfl rfl rfl (by omega) hL ?_
  refine g_aload_n dL_law_1364 rfl rfl ?_
  refine g_callH (M' := ML_club) (as := [.ref 40, .int (xs (i + 1)), .int (xs (i + 2)), .ref 132]) (v := some (.int k)) (aIn1 1100 (by decide +kernel) rfl) kH_club (by decide) ha rfl (Nat.le_of_ble_eq_true rfl) dL_law_1365 ?_
  refine g_istore dL_law_1368 (by decide) rfl ?_
  refine g_aload_n dL_law_1370 rfl rfl ?_
  refine g_arg (i := i) (j := 1) hX (v := 1) dL_law_1371 dL_law_1372 dL_law_1374 dL_law_1375 dL_law_1376 rfl rfl rfl (by omega) hL ?_
  refine g_arg (i := i) (j := 2) hX (v := 2) dL_law_1377 dL_law_1378 dL_law_1380 dL_law_1381 dL_law_1382 rfl rfl rfl (by omega) hL ?_
  refine g_callV (M' := M_X10_club) (as := [.int (xs (i + 1)), .int (xs (i + 2))]) (v := some (.int rm.1)) l_L_212 kV_X10_club (by decide) (C_X10_club hm e2) rfl (by decide) (hm.2.1 wm 0 _ rfl) ⟨_, _, rfl⟩ (Nat.le_of_ble_eq_true rfl) dL_law_1383 ?_
  refine g_istore dL_law_1386 (by decide) rfl ?_
  refine g_aload_n dL_law_1388 rfl rfl ?_
  refine g_callV (M' := M_X10_thrown) (as := []) (v := some (.int (rm.2.1 0))) l_L_149 kV_X10_thrown (by decide) (C_X10_thrown hm (thrown_s rm.2)) rfl (by decide) (hm.2.1 rm.2 0 _ rfl) ⟨_, _, rfl⟩ (Nat.le_of_ble_eq_true rfl) dL_law_1389 ?_
  refine g_iload dL_law_1392 rfl ?_
  refine g_icmp_eq (tgt := 1399) dL_law_1394 (by decide) (fun _ => ?_) (fun q => absurd ek q)
  refine g_iload dL_law_1399 rfl ?_
  have fin : AG G ML_law 1416 [some (.ref 0), some (.ref 40), some (.ref 100), some (.ref 132), some (.int (nI i)), some (.int k), some (.int rm.1)] [] (F1 w' rm.2 u1) R := by
    refine g_goto (tgt := 2947) dL_law_1416 (by decide) ?_
    refine g_none 5 ?_
    refine g_none 6 ?_
    exact K
  refine g_if_ne (tgt := 1416) dL_law_1401 (by decide) (fun _ => fin) (fun q => ?_)
  have hk0 : k = 0 := q
  refine g_aload_n dL_law_1404 rfl rfl ?_
  refine g_iconst (v := 0) dL_law_1405 (by decide) ?_
  refine g_lald dL_law_1406 (by decide) ho vp01 ?_
  refine g_iload dL_law_1407 rfl ?_
  refine g_i2l dL_law_1409 ?_
  refine g_lcmp dL_law_1410 ?_
  exact g_if_eq (tgt := 1416) dL_law_1411 (by decide) (fun _ => fin) (fun q => absurd (lg_0.2 (ev hk0)) q)
theorem lc_20 {G : aG} {F : aF} {o : wO} {n s i L : Nat} {wx wm : wS} {u : Nat → Int64} {t : Tn} {z : Sy} {xs : Nat → Int32} {Q : aR → Prop} (hG : aGood G) (hT : aTxt G) (hX : aScr G L xs) (hN : aNc G) (h : LH F o n s) (r : RR t z o wx wm) (hi : i + 6 ≤ L) (hL : L ≤ 3072) (ih : IHs G i n s Q) : ∃ R, Q R ∧ AG G ML_law 1419 (lsL i) [] (F wx wm u) R := by
  obtain ⟨w', rm, F1, n1, s1, u1, k, e2, h1, ⟨b1, b2⟩, ha, ⟨z1, rr⟩, ek, ev⟩ := wr_rota (a1 := xs (i + 1)) (u := u) hG hN h r
  obtain ⟨R, hQ, K⟩ := ih F1 o t z1 w' rm.2 u1 n1 s1 h1 rr (by omega) (by omega)
  have hm := h1.2.1 w' u1
  have ho := h1.2.2.1 w' rm.2 u1
  refine ⟨R, hQ, ?_⟩
  refine g_aload_n dL_law_1419 rfl rfl ?_
  refine g_arg (i := i) (j := 1) hX (v := 1) dL_law_1420 dL_law_1421 dL_law_1423 dL_law_1424 dL_law_1425 rfl rfl rfl (by omega) hL ?_
  refine g_aload_n dL_law_1426 rfl rfl ?_
  refine g_callH (M' := ML_rota) (as := [.ref 40, .int (xs (i + 1)), .ref 132]) (v := some (.int k)) (aIn1 1108 (by decide +kernel) rfl) kH_rota (by decide) ha rfl (Nat.le_of_ble_eq_true rfl) dL_law_1427 ?_
  refine g_istore dL_law_1430 (by decide) rfl ?_
  refine g_aload_n dL_law_1432 rfl rfl ?_
  refine g_arg (i := i) (j := 1) hX (v := 1) dL_law_1433 dL_law_1434 dL_law_1436 dL_law_1437 dL_law_1438 rfl rfl rfl (by omega) hL ?_
  refine g_callV (M' := M_X10_rota) (as := [.int (xs (i + 1))]) (v := some (.int rm.1)) l_L_215 kV_X10_rota (by decide) (C_X10_rota hm e2) rfl (by decide) (hm.2.1 wm 0 _ rfl) ⟨_, _, rfl⟩ (Nat.le_of_ble_eq_true rfl) dL_law_1439 ?_
  refine g_istore dL_law_1442 (by decide) rfl ?_
  refine g_aload_n dL_law_1444 rfl rfl ?_
  refine g_callV (M' := M_X10_thrown) (as := []) (v := some (.int (rm.2.1 0))) l_L_149 kV_X10_thrown (by decide) (C_X10_thrown hm (thrown_s rm.2)) rfl (by decide) (hm.2.1 rm.2 0 _ rfl) ⟨_, _, rfl⟩ (Nat.le_of_ble_eq_true rfl) dL_law_1445 ?_
  refine g_iload dL_law_1448 rfl ?_
  refine g_icmp_eq (tgt := 1455) dL_law_1450 (by decide) (fun _ => ?_) (fun q => absurd ek q)
  refine g_iload dL_law_1455 rfl ?_
  have fin : AG G ML_law 1472 [some (.ref 0), some (.ref 40), some (.ref 100), some (.ref 132), some (.int (nI i)), some (.int k), some (.int rm.1)] [] (F1 w' rm.2 u1) R := by
    refine g_goto (tgt := 2947) dL_law_1472 (by decide) ?_
    refine g_none 5 ?_
    refine g_none 6 ?_
    exact K
  refine g_if_ne (tgt := 1472) dL_law_1457 (by decide) (fun _ => fin) (fun q => ?_)
  have hk0 : k = 0 := q
  refine g_aload_n dL_law_1460 rfl rfl ?_
  refine g_iconst (v := 0) dL_law_1461 (by decide) ?_
  refine g_lald dL_law_1462 (by decide) ho vp01 ?_
  refine g_iload dL_law_1463 rfl ?_
  refine g_i2l dL_law_1465 ?_
  refine g_lcmp dL_law_1466 ?_
  exact g_if_eq (tgt := 1472) dL_law_1467 (by decide) (fun _ => fin) (fun q => absurd (lg_0.2 (ev hk0)) q)
theorem lc_21 {G : aG} {F : aF} {o : wO} {n s i L : Nat} {wx wm : wS} {u : Nat → Int64} {t : Tn} {z : Sy} {xs : Nat → Int32} {Q : aR → Prop} (hG : aGood G) (hT : aTxt G) (hX : aScr G L xs) (hN : aNc G) (h : LH F o n s) (r : RR t z o wx wm) (hi : i + 6 ≤ L) (hL : L ≤ 3072) (ih : IHs G i n s Q) : ∃ R, Q R ∧ AG G ML_law 1475 (lsL i) [] (F wx wm u) R := by
  obtain ⟨w', rm, F1, n1, s1, u1, k, e2, h1, ⟨b1, b2⟩, ha, ⟨z1, rr⟩, ek, ev⟩ := wr_towers (a1 := xs (i + 1)) (a2 := xs (i + 2)) (u := u) hG hN h r
  obtain ⟨R, hQ, K⟩ := ih F1 o t z1 w' rm.2 u1 n1 s1 h1 rr (by omega) (by omega)
  have hm := h1.2.1 w' u1
  have ho := h1.2.2.1 w' rm.2 u1
  refine ⟨R, hQ, ?_⟩
  refine g_aload_n dL_law_1475 rfl rfl ?_
  refine g_arg (i := i) (j := 1) hX (v := 1) dL_law_1476 dL_law_1477 dL_law_1479 dL_law_1480 dL_law_1481 rfl rfl rfl (by omega) hL ?_
  refine g_arg (i := i) (j := 2) hX (v := 2) dL_law_1482 dL_law_1483 dL_law_1485 dL_law_1486 dL_law_1487 rfl rfl rfl (by omega) hL ?_
  refine g_aload_n dL_law_1488 rfl rfl ?_
  refine g_callH (M' := ML_towers) (as := [.ref 40, .int (xs (i + 1)), .int (xs (i + 2)), .ref 132]) (v := some (.int k)) (aIn1 1134 (by decide +kernel) rfl) kH_towers (by decide) ha rfl (Nat.le_of_ble_eq_true rfl) dL_law_1489 ?_
  refine g_istore dL_law_1492 (by decide) rfl ?_
  refine g_aload_n dL_law_1494 rfl rfl ?_
  refine g_arg (i := i) (j := 1) hX (v := 1) dL_law_1495 dL_law_1496 dL_law_1498 dL_law_1499 dL_law_1500 rfl rfl rfl (by omega) hL ?_
  refine g_arg (i := i) (j := 2) hX (v := 2) dL_law_1501 dL_law_1502 dL_law_1504 dL_law_1505 dL_law_1506 rfl rfl rfl (by omega) hL ?_
  refine g_callV (M' := M_X10_towers) (as := [.int (xs (i + 1)), .int (xs (i + 2))]) (v := some (.int rm.1)) l_L_218 kV_X10_towers (by decide) (C_X10_towers hm e2) rfl (by decide) (hm.2.1 wm 0 _ rfl) ⟨_, _, rfl⟩ (Nat.le_of_ble_eq_true rfl) dL_law_1507 ?_
  refine g_istore dL_law_1510 (by decide) rfl ?_
  refine g_aload_n dL_law_1512 rfl rfl ?_
  refine g_callV (M' := M_X10_thrown) (as := []) (v := some (.int (rm.2.1 0))) l_L_149 kV_X10_thrown (by decide) (C_X10_thrown hm (thrown_s rm.2)) rfl (by decide) (hm.2.1 rm.2 0 _ rfl) ⟨_, _, rfl⟩ (Nat.le_of_ble_eq_true rfl) dL_law_1513 ?_
  refine g_iload dL_law_1516 rfl ?_
  refine g_icmp_eq (tgt := 1523) dL_law_1518 (by decide) (fun _ => ?_) (fun q => absurd ek q)
  refine g_iload dL_law_1523 rfl ?_
  have fin : AG G ML_law 1540 [some (.ref 0), some (.ref 40), some (.ref 100), some (.ref 132), some (.int (nI i)), some (.int k), some (.int rm.1)] [] (F1 w' rm.2 u1) R := by
    refine g_goto (tgt := 2947) dL_law_1540 (by decide) ?_
    refine g_none 5 ?_
    refine g_none 6 ?_
    exact K
  refine g_if_ne (tgt := 1540) dL_law_1525 (by decide) (fun _ => fin) (fun q => ?_)
  have hk0 : k = 0 := q
  refine g_aload_n dL_law_1528 rfl rfl ?_
  refine g_iconst (v := 0) dL_law_1529 (by decide) ?_
  refine g_lald dL_law_1530 (by decide) ho vp01 ?_
  refine g_iload dL_law_1531 rfl ?_
  refine g_i2l dL_law_1533 ?_
  refine g_lcmp dL_law_1534 ?_
  exact g_if_eq (tgt := 1540) dL_law_1535 (by decide) (fun _ => fin) (fun q => absurd (lg_0.2 (ev hk0)) q)
theorem lc_22 {G : aG} {F : aF} {o : wO} {n s i L : Nat} {wx wm : wS} {u : Nat → Int64} {t : Tn} {z : Sy} {xs : Nat → Int32} {Q : aR → Prop} (hG : aGood G) (hT : aTxt G) (hX : aScr G L xs) (hN : aNc G) (h : LH F o n s) (r : RR t z o wx wm) (hi : i + 6 ≤ L) (hL : L ≤ 3072) (ih : IHs G i n s Q) : ∃ R, Q R ∧ AG G ML_law 1543 (lsL i) [] (F wx wm u) R := by
  obtain ⟨w', rm, F1, n1, s1, u1, k, e2, h1, ⟨b1, b2⟩, ha, ⟨z1, rr⟩, ek, ev⟩ := wr_see (a1 := xs (i + 1)) (a2 := xs (i + 2)) (a3 := xs (i + 3)) (u := u) hG hN h r
  obtain ⟨R, hQ, K⟩ := ih F1 o t z1 w' rm.2 u1 n1 s1 h1 rr (by omega) (by omega)
  have hm := h1.2.1 w' u1
  have ho := h1.2.2.1 w' rm.2 u1
  refine ⟨R, hQ, ?_⟩
  refine g_aload_n dL_law_1543 rfl rfl ?_
  refine g_arg (i := i) (j := 1) hX (v := 1) dL_law_1544 dL_law_1545 dL_law_1547 dL_law_1548 dL_law_1549 rfl rfl rfl (by omega) hL ?_
  refine g_arg (i := i) (j := 2) hX (v := 2) dL_law_1550 dL_law_1551 dL_law_1553 dL_law_1554 dL_law_1555 rfl rfl rfl (by omega) hL ?_
  refine g_arg (i := i) (j := 3) hX (v := 3) dL_law_1556 dL_law_1557 dL_law_1559 dL_law_1560 dL_law_1561 rfl rfl rfl (by omega) hL ?_
  refine g_aload_n dL_law_1562 rfl rfl ?_
  refine g_callH (M' := ML_see) (as := [.ref 40, .int (xs (i + 1)), .int (xs (i + 2)), .int (xs (i + 3)), .ref 132]) (v := some (.int k)) (aIn1 1145 (by decide +kernel) rfl) kH_see (by decide) ha rfl (Nat.le_of_ble_eq_true rfl) dL_law_1563 ?_
  refine g_istore dL_law_1566 (by decide) rfl ?_
  refine g_aload_n dL_law_1568 rfl rfl ?_
  refine g_arg (i := i) (j := 1) hX (v := 1) dL_law_1569 dL_law_1570 dL_law_1572 dL_law_1573 dL_law_1574 rfl rfl rfl (by omega) hL ?_
  refine g_arg (i := i) (j := 2) hX (v := 2) dL_law_1575 dL_law_1576 dL_law_1578 dL_law_1579 dL_law_1580 rfl rfl rfl (by omega) hL ?_
  refine g_arg (i := i) (j := 3) hX (v := 3) dL_law_1581 dL_law_1582 dL_law_1584 dL_law_1585 dL_law_1586 rfl rfl rfl (by omega) hL ?_
  refine g_callV (M' := M_X10_see) (as := [.int (xs (i + 1)), .int (xs (i + 2)), .int (xs (i + 3))]) (v := some (.int rm.1)) l_L_221 kV_X10_see (by decide) (C_X10_see hm e2) rfl (by decide) (hm.2.1 wm 0 _ rfl) ⟨_, _, rfl⟩ (Nat.le_of_ble_eq_true rfl) dL_law_1587 ?_
  refine g_istore dL_law_1590 (by decide) rfl ?_
  refine g_aload_n dL_law_1592 rfl rfl ?_
  refine g_callV (M' := M_X10_thrown) (as := []) (v := some (.int (rm.2.1 0))) l_L_149 kV_X10_thrown (by decide) (C_X10_thrown hm (thrown_s rm.2)) rfl (by decide) (hm.2.1 rm.2 0 _ rfl) ⟨_, _, rfl⟩ (Nat.le_of_ble_eq_true rfl) dL_law_1593 ?_
  refine g_iload dL_law_1596 rfl ?_
  refine g_icmp_eq (tgt := 1603) dL_law_1598 (by decide) (fun _ => ?_) (fun q => absurd ek q)
  refine g_iload dL_law_1603 rfl ?_
  have fin : AG G ML_law 1620 [some (.ref 0), some (.ref 40), some (.ref 100), some (.ref 132), some (.int (nI i)), some (.int k), some (.int rm.1)] [] (F1 w' rm.2 u1) R := by
    refine g_goto (tgt := 2947) dL_law_1620 (by decide) ?_
    refine g_none 5 ?_
    refine g_none 6 ?_
    exact K
  refine g_if_ne (tgt := 1620) dL_law_1605 (by decide) (fun _ => fin) (fun q => ?_)
  have hk0 : k = 0 := q
  refine g_aload_n dL_law_1608 rfl rfl ?_
  refine g_iconst (v := 0) dL_law_1609 (by decide) ?_
  refine g_lald dL_law_1610 (by decide) ho vp01 ?_
  refine g_iload dL_law_1611 rfl ?_
  refine g_i2l dL_law_1613 ?_
  refine g_lcmp dL_law_1614 ?_
  exact g_if_eq (tgt := 1620) dL_law_1615 (by decide) (fun _ => fin) (fun q => absurd (lg_0.2 (ev hk0)) q)
theorem lc_23 {G : aG} {F : aF} {o : wO} {n s i L : Nat} {wx wm : wS} {u : Nat → Int64} {t : Tn} {z : Sy} {xs : Nat → Int32} {Q : aR → Prop} (hG : aGood G) (hT : aTxt G) (hX : aScr G L xs) (hN : aNc G) (h : LH F o n s) (r : RR t z o wx wm) (hi : i + 6 ≤ L) (hL : L ≤ 3072) (ih : IHs G i n s Q) : ∃ R, Q R ∧ AG G ML_law 1623 (lsL i) [] (F wx wm u) R := by
  obtain ⟨rx, rm, e1, e2, hq⟩ := q_forget  r
  obtain ⟨z1, rr⟩ := hq
  have hx := h.1 wm u
  have hm := h.2.1 rx u
  obtain ⟨R, hQ, K⟩ := ih F o t z1 rx rm u n s h rr (by omega) (by omega)
  refine ⟨R, hQ, ?_⟩
  refine g_aload_n dL_law_1623 rfl rfl ?_
  refine g_callV (M' := M_X9_forget) (as := []) (v := none) l_L_222 kV_X9_forget (by decide) (C_X9_forget hG hx e1) rfl (by decide) (hx.1.2.1 wx 0 _ rfl) ⟨_, _, rfl⟩ (Nat.le_of_ble_eq_true rfl) dL_law_1624 ?_
  refine g_aload_n dL_law_1627 rfl rfl ?_
  refine g_callV (M' := M_X10_forget) (as := []) (v := none) l_L_225 kV_X10_forget (by decide) (C_X10_forget hm e2) rfl (by decide) (hm.2.1 wm 0 _ rfl) ⟨_, _, rfl⟩ (Nat.le_of_ble_eq_true rfl) dL_law_1628 ?_
  refine g_goto (tgt := 2947) dL_law_1631 (by decide) ?_
  exact K
end
