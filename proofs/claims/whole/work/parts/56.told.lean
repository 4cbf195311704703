/-! ===== Reader.ruleTold ===== -/
abbrev N_X2_ruleTold : aM := (yX2_ruleTold, cX2_ruleTold, 4, some .boolean, 90, [])
theorem nV_X2_ruleTold : aCalV N_X2_ruleTold 1 := kV_X2_ruleTold
def xIsR (v : Value) : Bool := match v with
  | .ref _ => true
  | _ => false
def L_X2_ruleTold (o : wO) (a : Int32) (w : wS) : Option (Int32 × wO × wS) :=
  xIf (xRef w 107 (oT o + 0)) (
    if w.2.2.2.2 (if a = 0 then 100009 else 100010) = .null then
      xB (xBool a) fun v => xB (xPut w 105 v) fun w => xB (xPut w 104 0) fun w => xB (L_X7_advance o w) fun w => xB2 (L_X2_exprN 7 o 0 w) fun v w => if v = 0 then some (0, o, w) else xRule o a w
    else xIf (xIsR (w.2.2.2.2 (if a = 0 then 100009 else 100010))) (xB2 (L_X2_refuse o 5 w) fun v w => xB (xBool v) fun v => some (v, o, w)))
set_option maxRecDepth 20000 in
set_option maxHeartbeats 4000000 in
theorem C_X2_ruleTold {G : aG} {A : wS → aH} {bx : Nat} {o : wO} {a : Int32} {w : wS} {r : Int32 × wO × wS} (hG : aGood G) (hX : aTxt G) (EA : Emb A bx 0 tbX) (hA : wFar A) (hl : ∀ w, (A w).length = oT o) (h40 : 40 ≤ oT o) (ho : oOk o) (hL : L_X2_ruleTold o a w = some r) :
    AC G N_X2_ruleTold [.ref (bx + 1), .int a] (HD A o w) (.inl (some (.int r.1)), HD A r.2.1 r.2.2) ∧ oT r.2.1 = oT o ∧ oOk r.2.1 := by
  have E : EX (HD A o) bx o := EX_HR EA hA hl (fun _ _ _ _ => rfl) h40 ho
  have hbx := E.1.1
  unfold L_X2_ruleTold at hL
  obtain ⟨hdr, hL⟩ := xIf_some hL
  · have hdr' : w.2.2.2.2 107 = .ref (oT o + 0) := of_decide_eq_true hdr
    -- the end of the walk: what is told of the earlier rule stands on the stack
    have tail : ∀ (hn : w.2.2.2.2 (if a = 0 then 100009 else 100010) = .null ∨ ∃ q, w.2.2.2.2 (if a = 0 then 100009 else 100010) = .ref q), AG G N_X2_ruleTold 21 [some (.ref (bx + 1)), some (.int a), none, none] [w.2.2.2.2 (if a = 0 then 100009 else 100010)] (HD A o w) (.inl (some (.int r.1)), HD A r.2.1 r.2.2) ∧ oT r.2.1 = oT o ∧ oOk r.2.1 := by
      intro hn
      by_cases hnull : w.2.2.2.2 (if a = 0 then 100009 else 100010) = .null
      · rw [if_pos hnull] at hL
        rw [hnull]
        obtain ⟨v, hb, hL⟩ := xB_some hL
        obtain ⟨rfl, hb⟩ := xBool_some hb
        obtain ⟨w1, hw1, hL⟩ := xB_some hL
        obtain ⟨w2, hw2, hL⟩ := xB_some hL
        obtain ⟨w3, hw3, hL⟩ := xB_some hL
        obtain ⟨v4, w4, hw4, hL⟩ := xB2_some hL
        have c4 := C_X2_exprN hG hX E 7 _ _ _ hw4
        have fin : ∀ R, (AG G N_X2_ruleTold 54 [some (.ref (bx + 1)), some (.int v), none, none] [.int v4] (HD A o w4) R) → AG G N_X2_ruleTold 21 [some (.ref (bx + 1)), some (.int v), none, none] [.null] (HD A o w) R := by
          intro R hR
          refine g_astore_nN (i := 2) dX2_ruleTold_21 rfl (by decide) rfl ?_
          refine g_aload_nN dX2_ruleTold_22 rfl rfl ?_
          refine g_none 2 ?_
          refine g_ifnullN (tgt := 32) dX2_ruleTold_23 (by decide) ?_
          refine g_aload_n dX2_ruleTold_32 rfl rfl ?_
          refine g_iload_n dX2_ruleTold_33 rfl rfl ?_
          refine s_putI (k := 1) (j := 5) (kk := fun z => some z) (r := w1) E.1 (by show xB (xPut w 105 v) _ = _; rw [hw1]; rfl) rfl rfl (by decide) fw_X2_32 (narrow_bool hb) (fits_bool hb) dX2_ruleTold_34 ?_
          intro z hz
          obtain rfl := Option.some.inj hz
          refine g_aload_n dX2_ruleTold_37 rfl rfl ?_
          refine g_iconst (v := 0) dX2_ruleTold_38 (by decide) ?_
          refine s_putI (k := 1) (j := 4) (kk := fun y => some y) (r := w2) E.1 (by show xB (xPut z 104 0) _ = _; rw [hw2]; rfl) rfl rfl (by decide) fw_X2_29 rfl rfl dX2_ruleTold_39 ?_
          intro y hy
          obtain rfl := Option.some.inj hy
          refine g_aload_n dX2_ruleTold_42 rfl rfl ?_
          refine s_getR (k := 1) (j := 0) E.1 rfl rfl f_X2_12 dX2_ruleTold_43 ?_
          refine g_callV (M' := M_X7_advance) (as := []) (v := none) l_X2_99 kV_X7_advance (by decide) (C_X7_advance hG hX E hw3) rfl (by omega) (E.1.2.1 _ 2 _ rfl) ⟨_, _, rfl⟩ (Nat.le_of_ble_eq_true rfl) dX2_ruleTold_46 ?_
          refine g_aload_n dX2_ruleTold_49 rfl rfl ?_
          refine g_iconst (v := 0) dX2_ruleTold_50 (by decide) ?_
          exact g_callV (M' := M_X2_expr 7) (as := [.int 0]) (v := some (.int v4)) l_X2_140 (kV_X2_expr 7) (by decide) c4 rfl (by omega) (E.1.2.1 _ 1 _ rfl) ⟨_, _, rfl⟩ (Nat.le_of_ble_eq_true rfl) dX2_ruleTold_51 hR
        by_cases hv4 : v4 = 0
        · rw [if_pos hv4] at hL
          obtain rfl := Option.some.inj hL
          refine ⟨fin _ ?_, rfl, ho⟩
          refine g_if_ne (tgt := 59) dX2_ruleTold_54 (by decide) (fun q => absurd hv4 q) (fun _ => ?_)
          refine g_iconst (v := 0) dX2_ruleTold_57 (by decide) ?_
          exact g_zret rfl (by decide) dX2_ruleTold_58
        · rw [if_neg hv4] at hL
          obtain ⟨hc, hL⟩ := xIf_some hL
          · obtain ⟨hc1, hc2, -, hc4, hc5⟩ := of_decide_eq_true hc
            obtain rfl := Option.some.inj hL
            refine ⟨fin _ ?_, by show oT (oNew o v _) = oT o; unfold oNew; split <;> rfl, oNew_ok ho hc4⟩
            obtain ⟨m, hm⟩ : ∃ m, m = (w4.1 104).toNatClampNeg := ⟨_, rfl⟩
            rw [← hm] at hc2 ⊢
            have hnm : w4.1 104 = nI m := by rw [hm]; exact nI_nn hc1
            have ho' := oNew_ok (m := m) ho hc4
            have hoT : oT (oNew o v m) = oT o := by unfold oNew; split <;> rfl
            have E' : EX (HD A (oNew o v m)) bx (oNew o v m) := EX_HR EA hA (by rw [hoT]; exact hl) (fun _ _ _ _ => rfl) (by rw [hoT]; exact h40) ho'
            obtain ⟨b, hbl⟩ : ∃ b, (HD A o w4).length = b := ⟨_, rfl⟩
            have hlen := HD_len (hl w4) ho
            have hb40 : 40 ≤ b := by omega
            refine g_if_ne (tgt := 59) dX2_ruleTold_54 (by decide) (fun _ => ?_) (fun q => absurd q hv4)
            refine g_new nw_X2_143 dX2_ruleTold_59 ?_
            rw [hbl]
            refine g_dup dX2_ruleTold_62 rfl ?_
            refine g_aload_n dX2_ruleTold_63 rfl rfl ?_
            have EN : Emb (fun u => HD A o u ++ [some (.inr (3, [.null, .null]))]) bx 0 tbX := Emb.app (Q := fun _ => [some (.inr (3, [.null, .null]))]) E.1 (fun _ _ _ _ _ _ => rfl)
            refine g_get f_X2_25 dX2_ruleTold_64 (by omega) (EN.2.1 w4 1 _ rfl) (wFs_get (j := 3) rfl) ?_
            show AG G N_X2_ruleTold 67 _ (.ref (bx + 4) :: _) _ _
            refine g_aload_n dX2_ruleTold_67 rfl rfl ?_
            refine g_get f_X2_29 dX2_ruleTold_68 (by omega) (EN.2.1 w4 1 _ rfl) (wFs_get (j := 4) rfl) ?_
            show AG G N_X2_ruleTold 71 _ (.int (w4.1 104) :: _) _ _
            rw [hnm]
            have hst4 := EN.2.1 w4 4 _ (rfl : tbX[4]? = some (.inr (0, 700)))
            have ccp := C_copyOf (G := G) (h := HD A o w4 ++ [some (.inr (3, [.null, .null]))]) (i0 := bx + 4) (n0 := 700) (m := m) (f := w4.2.1 (0 + 4)) (by omega) hst4 (by omega) (by decide)
            have hlen1 : (HD A o w4 ++ [some (.inr (3, [.null, .null]))] : aH).length = b + 1 := by rw [List.length_append, hbl]; rfl
            rw [hlen1, List.append_assoc] at ccp
            refine g_callS (M' := M_J7_copyOf_59c91) (as := [.ref (bx + 4), .int (nI m)]) (v := some (.ref (b + 1))) l_X2_145 kS_J7_copyOf_59c91 (by decide) ccp rfl (Nat.le_of_ble_eq_true rfl) dX2_ruleTold_71 ?_
            refine g_callI (M' := M_X3_init) (as := [.ref (b + 1)]) (b := b + 0) l_X2_151 kI_X3_init (by decide) (C_X3_init (n := m) hbl hb40) rfl (Nat.le_of_ble_eq_true rfl) dX2_ruleTold_74 ?_
            have hnew := HD_new (a := v) (m := m) hA (hl w4) ho hc4 hbl
            rw [show (w4.2.1 (0 + 4)) = w4.2.1 4 from rfl, hnew]
            refine g_astore_n (i := 3) dX2_ruleTold_77 rfl (by decide) rfl ?_
            have hrf : (wNew v m w4).2.2.2.2 107 = .ref (oT (oNew o v m) + 0) := by rw [hoT]; exact hc5
            have hbv : b = (if v = 0 then oR (oNew o v m) else oS (oNew o v m)) := by
              unfold oNew
              by_cases hv0 : v = 0
              · rw [if_pos hv0, if_pos hv0]
                rw [if_pos hv0] at hc4
                rw [if_pos (show oR o = 0 from hc4)] at hlen
                show b = oT o + 7 + (if oS o = 0 then 0 else 3)
                omega
              · rw [if_neg hv0, if_neg hv0]
                rw [if_neg hv0] at hc4
                rw [if_pos (show oS o = 0 from hc4)] at hlen
                show b = oT o + 7 + (if oR o = 0 then 0 else 3)
                omega
            refine g_iload_n dX2_ruleTold_78 rfl rfl ?_
            by_cases hv0 : v = 0
            · refine g_if_eq (tgt := 93) dX2_ruleTold_79 (by decide) (fun _ => ?_) (fun q => absurd hv0 q)
              refine g_aload_n dX2_ruleTold_93 rfl rfl ?_
              refine s_getT (k := 1) (j := 7) (kk := some ()) (r := ()) E'.1 (by show xIf (xRef (wNew v m w4) 107 (oT (oNew o v m) + 0)) _ = _; simp [xIf, xRef, hrf]) rfl rfl f_X2_42 dX2_ruleTold_94 ?_
              intro _
              refine g_aload_n dX2_ruleTold_97 rfl rfl ?_
              refine s_putR (k := 0) (j := 9) (v := .ref b) (kk := fun z => some z) (r := wuR (wNew v m w4) 100009 (.ref b)) E'.2.1 rfl rfl rfl (by decide) fw_X2_138 rfl rfl dX2_ruleTold_98 ?_
              intro z hz
              obtain rfl := Option.some.inj hz
              refine g_iconst (v := 1) dX2_ruleTold_101 (by decide) ?_
              have e9 : wuR (wNew v m w4) 100009 (.ref b) = wuR (wNew v m w4) (if v = 0 then 100009 else 100010) (.ref ((if v = 0 then oR (oNew o v m) else oS (oNew o v m)) + 0)) := by rw [← hbv, if_pos hv0]; rfl
              rw [e9]
              exact g_zret rfl (by decide) dX2_ruleTold_102
            · refine g_if_eq (tgt := 93) dX2_ruleTold_79 (by decide) (fun q => absurd q hv0) (fun _ => ?_)
              refine g_aload_n dX2_ruleTold_82 rfl rfl ?_
              refine s_getT (k := 1) (j := 7) (kk := some ()) (r := ()) E'.1 (by show xIf (xRef (wNew v m w4) 107 (oT (oNew o v m) + 0)) _ = _; simp [xIf, xRef, hrf]) rfl rfl f_X2_42 dX2_ruleTold_83 ?_
              intro _
              refine g_aload_n dX2_ruleTold_86 rfl rfl ?_
              refine s_putR (k := 0) (j := 10) (v := .ref b) (kk := fun z => some z) (r := wuR (wNew v m w4) 100010 (.ref b)) E'.2.1 rfl rfl rfl (by decide) fw_X2_135 rfl rfl dX2_ruleTold_87 ?_
              intro z hz
              obtain rfl := Option.some.inj hz
              refine g_goto (tgt := 101) dX2_ruleTold_90 (by decide) ?_
              refine g_iconst (v := 1) dX2_ruleTold_101 (by decide) ?_
              have e9 : wuR (wNew v m w4) 100010 (.ref b) = wuR (wNew v m w4) (if v = 0 then 100009 else 100010) (.ref ((if v = 0 then oR (oNew o v m) else oS (oNew o v m)) + 0)) := by rw [← hbv, if_neg hv0]; rfl
              rw [e9]
              exact g_zret rfl (by decide) dX2_ruleTold_102
      · rw [if_neg hnull] at hL
        rcases hn with hn | ⟨q, hq⟩
        · exact absurd hn hnull
        · rw [hq] at hL ⊢
          obtain ⟨-, hL⟩ := xIf_some hL
          obtain ⟨v, w1, hc, hL⟩ := xB2_some hL
          obtain ⟨v2, hb0, hR⟩ := xB_some hL
          obtain ⟨hv2, hb⟩ := xBool_some hb0
          clear hL
          subst hv2
          obtain rfl := Option.some.inj hR
          refine ⟨?_, rfl, ho⟩
          refine g_astore_n (i := 2) dX2_ruleTold_21 rfl (by decide) rfl ?_
          refine g_aload_n dX2_ruleTold_22 rfl rfl ?_
          refine g_ifnull dX2_ruleTold_23 ?_
          refine g_aload_n dX2_ruleTold_26 rfl rfl ?_
          refine g_iconst (v := 5) dX2_ruleTold_27 (by decide) ?_
          refine g_callV (M' := M_X2_refuse) (as := [.int 5]) (v := some (.int v2)) l_X2_92 kV_X2_refuse (by decide) (C_X2_refuse hG hX E hc) rfl (by omega) (E.1.2.1 _ 1 _ rfl) ⟨_, _, rfl⟩ (Nat.le_of_ble_eq_true rfl) dX2_ruleTold_28 ?_
          exact g_zret rfl (narrow_bool hb) dX2_ruleTold_31
    have hn : w.2.2.2.2 (if a = 0 then 100009 else 100010) = .null ∨ ∃ q, w.2.2.2.2 (if a = 0 then 100009 else 100010) = .ref q := by
      by_cases h0 : w.2.2.2.2 (if a = 0 then 100009 else 100010) = .null
      · exact Or.inl h0
      · rw [if_neg h0] at hL
        obtain ⟨hr, -⟩ := xIf_some hL
        cases hv : w.2.2.2.2 (if a = 0 then 100009 else 100010) with
        | ref q => exact Or.inr ⟨q, rfl⟩
        | _ => rw [hv] at hr; cases hr
    obtain ⟨t1, t2, t3⟩ := tail hn
    refine ⟨AC.of (by decide) rfl (Nat.le_of_ble_eq_true rfl) ?_, t2, t3⟩
    show AG G N_X2_ruleTold 0 [some (.ref (bx + 1)), some (.int a), none, none] [] _ _
    refine g_iload_n dX2_ruleTold_0 rfl rfl ?_
    by_cases ha : a = 0
    · rw [if_pos ha] at t1
      refine g_if_eq (tgt := 14) dX2_ruleTold_1 (by decide) (fun _ => ?_) (fun q => absurd ha q)
      refine g_aload_n dX2_ruleTold_14 rfl rfl ?_
      refine s_getT (k := 1) (j := 7) (kk := some ()) (r := ()) E.1 (by show xIf (xRef w 107 (oT o + 0)) _ = _; simp [xIf, xRef, hdr']) rfl rfl f_X2_42 dX2_ruleTold_15 ?_
      intro _
      exact g_get f_X2_138 dX2_ruleTold_18 (by omega) (E.2.1.2.1 w 0 _ rfl) (wFs_get (j := 9) rfl) t1
    · rw [if_neg ha] at t1
      refine g_if_eq (tgt := 14) dX2_ruleTold_1 (by decide) (fun q => absurd q ha) (fun _ => ?_)
      refine g_aload_n dX2_ruleTold_4 rfl rfl ?_
      refine s_getT (k := 1) (j := 7) (kk := some ()) (r := ()) E.1 (by show xIf (xRef w 107 (oT o + 0)) _ = _; simp [xIf, xRef, hdr']) rfl rfl f_X2_42 dX2_ruleTold_5 ?_
      intro _
      refine g_get f_X2_135 dX2_ruleTold_8 (by omega) (E.2.1.2.1 w 0 _ rfl) (wFs_get (j := 10) rfl) ?_
      refine g_goto (tgt := 21) dX2_ruleTold_11 (by decide) ?_
      exact t1
