/-! ===== LateRingers.town ===== -/
abbrev N_X9_town : aM := (yX9_town, cX9_town, 3, some .int, 93, [])
theorem nV_X9_town : aCalV N_X9_town 1 := kV_X9_town
/-- behind a text without a fault -/
def xTold (o : wO) (w : wS) : Option (Int32 × wO × wS) := xB (xPutR w 9 (.ref (oT o + 0))) fun w => xB (L_X6_begin_x12_t0 o w) fun w => xB (xPut w 10 0) fun w => some (0, o, w)
/-- behind one with a fault -/
def xFault (o : wO) (w : wS) : Option (Int32 × wO × wS) := xB (xAld w 48 3 0) fun v => xB (xAst w 48 3 0 (v + 1)) fun w => xB (xGet w 101) fun v => some (v, o, w)
def L_X9_town (bt : Nat) (n : Int32) (w : wS) : Option (Int32 × wO × wS) :=
  xB3 (L_X2_read bt n w) fun v o w => xB (xPut w 201 0) fun w => xB (xGet w 102) fun p => xB (xPut w 11 p) fun w => if v = .null then xFault o w else if v = .ref (oT o + 0) then xTold o w else none
section
variable {G : aG} {A : wS → aH} {bx : Nat}
set_option maxRecDepth 20000 in
theorem C_X9_town_x {n : Int32} {w : wS} (hG : aGood G) (EA : Emb A bx 0 tbX) (hn : n < 0 ∨ w.1 201 < n) : AC G N_X9_town [.ref (bx + 0), .int n] (A w) (.inr cIl, A w ++ [none]) := by
  refine AC.of (by decide) rfl (Nat.le_of_ble_eq_true rfl) ?_
  show AG G N_X9_town 0 [some (.ref (bx + 0)), some (.int n), none] [] _ _
  have thr : ∀ ls : List (Option Value), AG G N_X9_town 18 ls [] (A w) (.inr cIl, A w ++ [none]) := fun ls => g_throwS (k := 0) hG thr_Il rfl rfl (by decide) (Nat.le_of_ble_eq_true rfl) dX9_town_18 dX9_town_21 dX9_town_22 dX9_town_24 dX9_town_27
  refine g_iload_n dX9_town_0 rfl rfl ?_
  refine g_if_lt (tgt := 18) dX9_town_1 (by decide) (fun _ => thr _) (fun q => ?_)
  refine g_iload_n dX9_town_4 rfl rfl ?_
  refine g_aload_n dX9_town_5 rfl rfl ?_
  refine s_getR (k := 0) (j := 0) EA rfl rfl f_X9_10 dX9_town_6 ?_
  refine s_getR (k := 1) (j := 0) EA rfl rfl f_X9_67 dX9_town_9 ?_
  refine s_getI (k := 2) (j := 1) (kk := fun z => some z) (r := w.1 201) EA rfl rfl rfl f_X9_71 dX9_town_12 ?_
  intro z hz
  obtain rfl := Option.some.inj hz
  refine g_icmp_le (tgt := 28) dX9_town_15 (by decide) (fun q2 => ?_) (fun _ => thr _)
  rcases hn with h | h
  · exact absurd h q
  · exact absurd q2 (by rw [Int32.not_le]; exact h)
set_option maxRecDepth 20000 in
set_option maxHeartbeats 4000000 in
theorem C_X9_town {bt : Nat} {n : Int32} {w : wS} {r : Int32 × wO × wS} (hG : aGood G) (hX : aTxt G) (K : KD A bx (bt, 0, 0, 0, 0)) (hn : ¬ (n < 0 ∨ w.1 201 < n)) (hL : L_X9_town bt n w = some r) : AC G N_X9_town [.ref (bx + 0), .int n] (A w) (.inl (some (.int r.1)), HD A r.2.1 r.2.2) ∧ KD A bx r.2.1 := by
  have EA := K.1
  unfold L_X9_town at hL
  obtain ⟨v, o, w1, hc, hL⟩ := xB3_some hL
  obtain ⟨hac, K1⟩ := C_X2_read hG hX K hc
  have hac : AC G N_X2_read [.ref (bx + 1), .int n] (A w) (.inl (some v), HD A o w1) := hac
  have K1 : KD A bx o := K1
  have E := K1.E
  obtain ⟨w2, hw2, hL⟩ := xB_some hL
  obtain ⟨p, hp, hL⟩ := xB_some hL
  obtain ⟨w3, hw3, hL⟩ := xB_some hL
  have head : ∀ R, AG G N_X9_town 60 [some (.ref (bx + 0)), none, some v] [v] (HD A o w3) R → (v = .null ∨ ∃ q, v = .ref q) → AG G N_X9_town 0 [some (.ref (bx + 0)), some (.int n), none] [] (A w) R := by
    intro R hR hv
    refine g_iload_n dX9_town_0 rfl rfl ?_
    refine g_if_lt (tgt := 18) dX9_town_1 (by decide) (fun q => absurd (Or.inl q) hn) (fun _ => ?_)
    refine g_iload_n dX9_town_4 rfl rfl ?_
    refine g_aload_n dX9_town_5 rfl rfl ?_
    refine s_getR (k := 0) (j := 0) EA rfl rfl f_X9_10 dX9_town_6 ?_
    refine s_getR (k := 1) (j := 0) EA rfl rfl f_X9_67 dX9_town_9 ?_
    refine s_getI (k := 2) (j := 1) (kk := fun z => some z) (r := w.1 201) EA rfl rfl rfl f_X9_71 dX9_town_12 ?_
    intro z hz
    obtain rfl := Option.some.inj hz
    refine g_icmp_le (tgt := 28) dX9_town_15 (by decide) (fun _ => ?_) (fun q => absurd (Or.inr (Int32.not_le.mp q)) hn)
    refine g_aload_n dX9_town_28 rfl rfl ?_
    refine s_getR (k := 0) (j := 0) EA rfl rfl f_X9_10 dX9_town_29 ?_
    refine g_iload_n dX9_town_32 rfl rfl ?_
    refine g_none 1 ?_
    refine g_callV (M' := N_X2_read) (as := [.int n]) (v := some v) l_X9_87 nV_X2_read (by decide) hac rfl (by have := EA.1; omega) (EA.2.1 _ 1 _ rfl) ⟨_, _, rfl⟩ (Nat.le_of_ble_eq_true rfl) dX9_town_33 ?_
    have rest : AG G N_X9_town 37 [some (.ref (bx + 0)), none, some v] [] (HD A o w1) R := by
      refine g_aload_n dX9_town_37 rfl rfl ?_
      refine s_getR (k := 0) (j := 0) E.1 rfl rfl f_X9_10 dX9_town_38 ?_
      refine s_getR (k := 1) (j := 0) E.1 rfl rfl f_X9_67 dX9_town_41 ?_
      refine g_iconst (v := 0) dX9_town_44 (by decide) ?_
      refine s_putI (k := 2) (j := 1) (kk := fun z => some z) (r := w2) E.1 (by show xB (xPut _ 201 0) _ = _; rw [hw2]; rfl) rfl rfl (by decide) fw_X9_71 rfl rfl dX9_town_45 ?_
      intro z hz
      obtain rfl := Option.some.inj hz
      refine g_aload_n dX9_town_48 rfl rfl ?_
      refine g_aload_n dX9_town_49 rfl rfl ?_
      refine s_getR (k := 0) (j := 0) E.1 rfl rfl f_X9_10 dX9_town_50 ?_
      refine s_getI (k := 1) (j := 2) (kk := fun z => some z) (r := p) E.1 (by show xB (xGet _ 102) _ = _; rw [hp]; rfl) rfl rfl f_X9_91 dX9_town_53 ?_
      intro y hy
      obtain rfl := Option.some.inj hy
      refine s_putI (k := 0) (j := 11) (kk := fun z => some z) (r := w3) E.1 (by show xB (xPut _ 11 _) _ = _; rw [hw3]; rfl) rfl rfl (by decide) fw_X9_63 rfl rfl dX9_town_56 ?_
      intro x hx
      obtain rfl := Option.some.inj hx
      rcases hv with rfl | ⟨q, rfl⟩
      · exact g_aload_nN dX9_town_59 rfl rfl hR
      · exact g_aload_n dX9_town_59 rfl rfl hR
    rcases hv with rfl | ⟨q, rfl⟩
    · exact g_astore_nN (i := 2) dX9_town_36 rfl (by decide) rfl rest
    · exact g_astore_n (i := 2) dX9_town_36 rfl (by decide) rfl rest
  by_cases hv : v = .null
  · rw [if_pos hv] at hL
    unfold xFault at hL
    obtain ⟨u, hu, hL⟩ := xB_some hL
    obtain ⟨w4, hw4, hL⟩ := xB_some hL
    obtain ⟨f, hf, hL⟩ := xB_some hL
    obtain rfl := Option.some.inj hL
    refine ⟨AC.of (by decide) rfl (Nat.le_of_ble_eq_true rfl) (head _ ?_ (Or.inl hv)), K1⟩
    subst hv
    refine g_ifnonnullN dX9_town_60 ?_
    refine g_aload_n dX9_town_63 rfl rfl ?_
    refine s_getR (k := 0) (j := 4) E.1 rfl rfl f_X9_33 dX9_town_64 ?_
    refine g_iconst (v := 0) dX9_town_67 (by decide) ?_
    refine g_dup2 dX9_town_68 rfl rfl ?_
    refine s_iald (k := 48) (kk := fun z => some z) (r := u) E.1 (by show xB (xAld _ 48 3 0) _ = _; rw [hu]; rfl) rfl dX9_town_69 ?_
    intro z hz
    obtain rfl := Option.some.inj hz
    refine g_iconst (v := 1) dX9_town_70 (by decide) ?_
    refine g_iadd dX9_town_71 ?_
    refine s_iast (k := 48) (kk := fun z => some z) (r := w4) E.1 (by show xB (xAst _ 48 3 0 _) _ = _; rw [hw4]; rfl) rfl dX9_town_72 ?_
    intro y hy
    obtain rfl := Option.some.inj hy
    refine g_aload_n dX9_town_73 rfl rfl ?_
    refine s_getR (k := 0) (j := 0) E.1 rfl rfl f_X9_10 dX9_town_74 ?_
    refine s_getI (k := 1) (j := 1) (kk := fun z => some z) (r := f) E.1 (by show xB (xGet _ 101) _ = _; rw [hf]; rfl) rfl rfl f_X9_92 dX9_town_77 ?_
    intro x hx
    obtain rfl := Option.some.inj hx
    exact g_iret rfl dX9_town_80
  · rw [if_neg hv] at hL
    by_cases hr : v = .ref (oT o + 0)
    · rw [if_pos hr] at hL
      unfold xTold at hL
      obtain ⟨w4, hw4, hL⟩ := xB_some hL
      obtain ⟨w5, hw5, hL⟩ := xB_some hL
      obtain ⟨w6, hw6, hL⟩ := xB_some hL
      obtain rfl := Option.some.inj hL
      refine ⟨AC.of (by decide) rfl (Nat.le_of_ble_eq_true rfl) (head _ ?_ (Or.inr ⟨_, hr⟩)), K1⟩
      subst hr
      refine g_ifnonnull (tgt := 81) dX9_town_60 (by decide) ?_
      refine g_aload_n dX9_town_81 rfl rfl ?_
      refine g_aload_n dX9_town_82 rfl rfl ?_
      refine s_putR (k := 0) (j := 9) (v := .ref (oT o + 0)) (kk := fun z => some z) (r := w4) E.1 (by show xB (xPutR _ 9 _) _ = _; rw [hw4]; rfl) rfl rfl (by decide) fw_X9_55 rfl rfl dX9_town_83 ?_
      intro z hz
      obtain rfl := Option.some.inj hz
      refine g_aload_n dX9_town_86 rfl rfl ?_
      refine s_getR (k := 0) (j := 1) E.1 rfl rfl f_X9_19 dX9_town_87 ?_
      refine g_aload_n dX9_town_90 rfl rfl ?_
      refine g_callV (M' := M_X6_begin) (as := [.ref (oT o + 0)]) (v := none) l_X9_95 kV_X6_begin (by decide) (C_X6_begin_x12_t0 hG E hw5) rfl (by have := E.1.1; omega) (E.1.2.1 _ 12 _ rfl) ⟨_, _, rfl⟩ (Nat.le_of_ble_eq_true rfl) dX9_town_91 ?_
      refine g_aload_n dX9_town_94 rfl rfl ?_
      refine g_iconst (v := 0) dX9_town_95 (by decide) ?_
      refine s_putI (k := 0) (j := 10) (kk := fun z => some z) (r := w6) E.1 (by show xB (xPut _ 10 0) _ = _; rw [hw6]; rfl) rfl rfl (by decide) fw_X9_59 rfl (by decide) dX9_town_96 ?_
      intro y hy
      obtain rfl := Option.some.inj hy
      refine g_iconst (v := 0) dX9_town_99 (by decide) ?_
      exact g_iret rfl dX9_town_100
    · rw [if_neg hr] at hL
      cases hL
end
