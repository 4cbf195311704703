/-! ===== Reader.read ===== -/
abbrev N_X2_read : aM := (yX2_read, cX2_read, 3, some (.object "LateRingers$Town"), 92, [])
theorem nV_X2_read : aCalV N_X2_read 1 := kV_X2_read
def wTown (w : wS) : wS := wuR (wuR (wuS (wuS (wuS (wuA (wuA (wuA (wuA (wuA (wuA w 1001 (fun _ => 0)) 1002 (fun _ => 0)) 1003 (fun _ => 0)) 1004 (fun _ => 0)) 1005 (fun _ => 0)) 1006 (fun _ => 0)) 100006 0) 100007 0) 100008 2) 100009 .null) 100010 .null
theorem wFar.A1 {A : wS → aH} (h : wFar A) (w : wS) {k : Nat} (hk : 1000 ≤ k) (f : Nat → Int32) : A (wuA w k f) = A w := (h w _ k hk (wuA_eq w k f)).symm
theorem wFar.S1 {A : wS → aH} (h : wFar A) (w : wS) {k : Nat} (hk : 100000 ≤ k) (v : Int32) : A (wuS w k v) = A w := (h w _ (k / 100) (by omega) (wuS_eq w rfl v)).symm
theorem wFar.R1 {A : wS → aH} (h : wFar A) (w : wS) {k : Nat} (hk : 100000 ≤ k) (v : Value) : A (wuR w k v) = A w := (h w _ (k / 100) (by omega) (wuR_eq w rfl v)).symm
theorem wFar.town {A : wS → aH} (h : wFar A) (w : wS) : A (wTown w) = A w := by
  unfold wTown
  rw [h.R1 _ (by decide), h.R1 _ (by decide), h.S1 _ (by decide), h.S1 _ (by decide), h.S1 _ (by decide), h.A1 _ (by decide), h.A1 _ (by decide), h.A1 _ (by decide), h.A1 _ (by decide), h.A1 _ (by decide), h.A1 _ (by decide)]
def oOkB (o o' : wO) : Bool := decide (oT o' = oT o ∧ ((oR o' = 0 ∧ oS o' = 0) ∨ (oR o' = oT o' + 7 ∧ oS o' = 0) ∨ (oR o' = 0 ∧ oS o' = oT o' + 7) ∨ (oR o' = oT o' + 7 ∧ oS o' = oT o' + 10) ∨ (oS o' = oT o' + 7 ∧ oR o' = oT o' + 10)))
def xEnd (o : wO) (w : wS) : Option (Value × wO × wS) := xIf (xRef w 107 (oT o + 0)) (some (.ref (oT o + 0), o, w))
def xRead1 (kh : Int32 → wO → wS → Option (Value × wO × wS)) (i : Int32) (o : wO) (w : wS) : Option (Value × wO × wS) :=
  if 700 ≤ i then xEnd o w
  else xB (xGet w 202) fun k => if k = 0 then xEnd o w else xB3 (L_X2_line o w) fun v o1 w1 => xIf (oOkB o o1) (if v = 0 then some (.null, o1, w1) else kh (i + 1) o1 w1)
def xRead (n : Nat) (i : Int32) (o : wO) (w : wS) : Option (Value × wO × wS) := xLoop (fun (kk : Int32 × wO × wS → Option (Value × wO × wS)) σ => xRead1 (fun i o w => kk (i, o, w)) σ.1 σ.2.1 σ.2.2) n (i, o, w)
def L_X2_read (bt : Nat) (n : Int32) (w : wS) : Option (Value × wO × wS) :=
  xB (xPut (wuR (wTown w) 107 (.ref (bt + 0))) 106 0) fun w => xB (xPut w 101 0) fun w => xB (xPut w 102 (-1)) fun w => xB (L_X7_open (bt, 0, 0, 0, 0) n w) fun w => xRead 5000 0 (bt, 0, 0, 0, 0) w
set_option maxRecDepth 40000 in
theorem HD_town {A : wS → aH} {bt : Nat} (hA : wFar A) (w : wS) : A w ++ [some (.inr (8, [.ref (bt + 1), .ref (bt + 2), .ref (bt + 3), .ref (bt + 4), .ref (bt + 5), .ref (bt + 6), .int 0, .int 0, .int 2, .null, .null])), some (.inl (0, 8, .inl (fun _ => 0))), some (.inl (0, 8, .inl (fun _ => 0))), some (.inl (0, 8, .inl (fun _ => 0))), some (.inl (0, 8, .inl (fun _ => 0))), some (.inl (0, 6, .inl (fun _ => 0))), some (.inl (0, 6, .inl (fun _ => 0)))] = HD A (bt, 0, 0, 0, 0) (wTown w) := by
  unfold HD HR
  rw [hA.town w]
  congr 1
section
variable {G : aG} {A : wS → aH} {bx : Nat}
theorem C_read_end {o : wO} {w : wS} {r : Value × wO × wS} {ls : List (Option Value)} (K : KD A bx o) (hL : xEnd o w = some r) (h0 : ls[0]? = some (some (.ref (bx + 1)))) : AG G N_X2_read 68 ls [] (HD A o w) (.inl (some r.1), HD A r.2.1 r.2.2) ∧ KD A bx r.2.1 := by
  obtain ⟨hc, hL⟩ := xIf_some hL
  obtain rfl := Option.some.inj hL
  have hrf : w.2.2.2.2 107 = .ref (oT o + 0) := of_decide_eq_true hc
  have E := K.E
  refine ⟨?_, K⟩
  refine g_aload_n dX2_read_68 rfl h0 ?_
  refine s_getT (k := 1) (j := 7) (kk := some ()) (r := ()) E.1 (by show xIf (xRef w 107 (oT o + 0)) _ = _; simp [xIf, xRef, hrf]) rfl rfl f_X2_42 dX2_read_69 ?_
  intro _
  exact g_aret rfl (Or.inl ⟨_, rfl⟩) (Or.inr ⟨_, rfl⟩) dX2_read_72
theorem C_read_loop (hG : aGood G) (hX : aTxt G) {r : Value × wO × wS} : ∀ (n : Nat) (σ : Int32 × wO × wS), xLoop (fun (kk : Int32 × wO × wS → Option (Value × wO × wS)) σ => xRead1 (fun i o w => kk (i, o, w)) σ.1 σ.2.1 σ.2.2) n σ = some r → (KD A bx σ.2.1 → AG G N_X2_read 36 [some (.ref (bx + 1)), none, some (.int σ.1)] [] (HD A σ.2.1 σ.2.2) (.inl (some r.1), HD A r.2.1 r.2.2) ∧ KD A bx r.2.1) := by
  refine xLoop_ok (Q := fun σ : Int32 × wO × wS => KD A bx σ.2.1 → AG G N_X2_read 36 [some (.ref (bx + 1)), none, some (.int σ.1)] [] (HD A σ.2.1 σ.2.2) (.inl (some r.1), HD A r.2.1 r.2.2) ∧ KD A bx r.2.1) ?_
  rintro kk hk ⟨i, o, w⟩ hL K
  have E := K.E
  have hL : xRead1 (fun i o w => kk (i, o, w)) i o w = some r := hL
  show AG G N_X2_read 36 [some (.ref (bx + 1)), none, some (.int i)] [] (HD A o w) _ ∧ _
  unfold xRead1 at hL
  have hd36 : ∀ R, AG G N_X2_read 40 [some (.ref (bx + 1)), none, some (.int i)] [.int 700, .int i] (HD A o w) R → AG G N_X2_read 36 [some (.ref (bx + 1)), none, some (.int i)] [] (HD A o w) R := fun R h => by
    refine g_iload_n dX2_read_36 rfl rfl ?_
    exact g_sipush (v := 700) dX2_read_37 (by decide) h
  by_cases hi : 700 ≤ i
  · rw [if_pos hi] at hL
    obtain ⟨h1, h2⟩ := C_read_end (G := G) (ls := [some (.ref (bx + 1)), none, some (.int i)]) K hL rfl
    exact ⟨hd36 _ (g_icmp_ge (tgt := 68) dX2_read_40 (by decide) (fun _ => h1) (fun q => absurd hi q)), h2⟩
  · rw [if_neg hi] at hL
    obtain ⟨k, hk2, hL⟩ := xB_some hL
    have hd43 : ∀ R, AG G N_X2_read 50 [some (.ref (bx + 1)), none, some (.int i)] [.int k] (HD A o w) R → AG G N_X2_read 36 [some (.ref (bx + 1)), none, some (.int i)] [] (HD A o w) R := fun R h => by
      refine hd36 _ (g_icmp_ge (tgt := 68) dX2_read_40 (by decide) (fun q => absurd q hi) (fun _ => ?_))
      refine g_aload_n dX2_read_43 rfl rfl ?_
      refine s_getR (k := 1) (j := 0) E.1 rfl rfl f_X2_12 dX2_read_44 ?_
      refine s_getI (k := 2) (j := 2) (kk := fun z => some z) (r := k) E.1 (by show xB (xGet w 202) _ = _; rw [hk2]; rfl) rfl rfl f_X2_50 dX2_read_47 ?_
      intro z hz
      obtain rfl := Option.some.inj hz
      exact h
    by_cases hk0 : k = 0
    · rw [if_pos hk0] at hL
      obtain ⟨h1, h2⟩ := C_read_end (G := G) (ls := [some (.ref (bx + 1)), none, some (.int i)]) K hL rfl
      exact ⟨hd43 _ (g_if_eq (tgt := 68) dX2_read_50 (by decide) (fun _ => h1) (fun q => absurd hk0 q)), h2⟩
    · rw [if_neg hk0] at hL
      obtain ⟨v, o1, w1, hc, hL⟩ := xB3_some hL
      obtain ⟨hob, hL⟩ := xIf_some hL
      obtain ⟨hT, hO⟩ := of_decide_eq_true hob
      have K1 : KD A bx o1 := K.to hT hO
      have hd53 : ∀ R, AG G N_X2_read 57 [some (.ref (bx + 1)), none, some (.int i)] [.int v] (HD A o1 w1) R → AG G N_X2_read 36 [some (.ref (bx + 1)), none, some (.int i)] [] (HD A o w) R := fun R h => by
        refine hd43 _ (g_if_eq (tgt := 68) dX2_read_50 (by decide) (fun q => absurd q hk0) (fun _ => ?_))
        refine g_aload_n dX2_read_53 rfl rfl ?_
        exact g_callV (M' := N_X2_line) (as := []) (v := some (.int v)) l_X2_53 nV_X2_line (by decide) (C_X2_line hG hX K hc) rfl (by have := E.1.1; omega) (E.1.2.1 _ 1 _ rfl) ⟨_, _, rfl⟩ (Nat.le_of_ble_eq_true rfl) dX2_read_54 h
      by_cases hv : v = 0
      · rw [if_pos hv] at hL
        obtain rfl := Option.some.inj hL
        refine ⟨hd53 _ ?_, K1⟩
        refine g_if_ne (tgt := 62) dX2_read_57 (by decide) (fun q => absurd hv q) (fun _ => ?_)
        refine g_null dX2_read_60 ?_
        exact g_aret rfl (Or.inl ⟨_, rfl⟩) (Or.inl rfl) dX2_read_61
      · rw [if_neg hv] at hL
        obtain ⟨h1, h2⟩ := hk (i + 1, o1, w1) hL K1
        refine ⟨hd53 _ ?_, h2⟩
        refine g_if_ne (tgt := 62) dX2_read_57 (by decide) (fun _ => ?_) (fun q => absurd q hv)
        refine g_iincV (v := i + 1) dX2_read_62 rfl rfl (by decide) rfl ?_
        refine g_goto (tgt := 36) dX2_read_65 (by decide) ?_
        exact h1
set_option maxRecDepth 20000 in
theorem C_X2_read {bt : Nat} {n : Int32} {w : wS} {r : Value × wO × wS} (hG : aGood G) (hX : aTxt G) (K : KD A bx (bt, 0, 0, 0, 0)) (hL : L_X2_read bt n w = some r) : AC G N_X2_read [.ref (bx + 1), .int n] (A w) (.inl (some r.1), HD A r.2.1 r.2.2) ∧ KD A bx r.2.1 := by
  have E := K.E
  have hbl : (A w).length = bt := K.2.2.1 w
  have hb40 : 40 ≤ bt := K.2.2.2.1
  unfold L_X2_read at hL
  obtain ⟨w1, hw1, hL⟩ := xB_some hL
  obtain ⟨w2, hw2, hL⟩ := xB_some hL
  obtain ⟨w3, hw3, hL⟩ := xB_some hL
  obtain ⟨w4, hw4, hL⟩ := xB_some hL
  obtain ⟨h1, h2⟩ := C_read_loop hG hX 5000 _ hL K
  refine ⟨AC.of (by decide) rfl (Nat.le_of_ble_eq_true rfl) ?_, h2⟩
  show AG G N_X2_read 0 [some (.ref (bx + 1)), some (.int n), none] [] _ _
  refine g_aload_n dX2_read_0 rfl rfl ?_
  refine g_new nw_X2_39 dX2_read_1 ?_
  rw [hbl]
  refine g_dup dX2_read_4 rfl ?_
  refine g_callI (M' := M_X8_init) (as := []) (b := bt + 0) l_X2_41 kI_X8_init (by decide) (C_X8_init hbl hb40) rfl (Nat.le_of_ble_eq_true rfl) dX2_read_5 ?_
  have ht := HD_town (bt := bt) K.2.1 w
  rw [ht]
  refine s_putR (k := 1) (j := 7) (v := .ref (bt + 0)) (kk := fun z => some z) (r := wuR (wTown w) 107 (.ref (bt + 0))) E.1 rfl rfl rfl (by decide) fw_X2_42 rfl rfl dX2_read_8 ?_
  intro z hz
  obtain rfl := Option.some.inj hz
  refine g_aload_n dX2_read_11 rfl rfl ?_
  refine g_iconst (v := 0) dX2_read_12 (by decide) ?_
  refine s_putI (k := 1) (j := 6) (kk := fun z => some z) (r := w1) E.1 (by show xB (xPut _ 106 0) _ = _; rw [hw1]; rfl) rfl rfl (by decide) fw_X2_36 rfl (by decide) dX2_read_13 ?_
  intro z hz
  obtain rfl := Option.some.inj hz
  refine g_aload_n dX2_read_16 rfl rfl ?_
  refine g_iconst (v := 0) dX2_read_17 (by decide) ?_
  refine s_putI (k := 1) (j := 1) (kk := fun z => some z) (r := w2) E.1 (by show xB (xPut _ 101 0) _ = _; rw [hw2]; rfl) rfl rfl (by decide) fw_X2_18 rfl rfl dX2_read_18 ?_
  intro z hz
  obtain rfl := Option.some.inj hz
  refine g_aload_n dX2_read_21 rfl rfl ?_
  refine g_iconst (v := (-1)) dX2_read_22 (by decide) ?_
  refine s_putI (k := 1) (j := 2) (kk := fun z => some z) (r := w3) E.1 (by show xB (xPut _ 102 (-1)) _ = _; rw [hw3]; rfl) rfl rfl (by decide) fw_X2_22 rfl rfl dX2_read_23 ?_
  intro z hz
  obtain rfl := Option.some.inj hz
  refine g_aload_n dX2_read_26 rfl rfl ?_
  refine s_getR (k := 1) (j := 0) E.1 rfl rfl f_X2_12 dX2_read_27 ?_
  refine g_iload_n dX2_read_30 rfl rfl ?_
  refine g_none 1 ?_
  refine g_callV (M' := M_X7_open) (as := [.int n]) (v := none) l_X2_46 kV_X7_open (by decide) (C_X7_open hG hX E hw4) rfl (by have := E.1.1; omega) (E.1.2.1 _ 2 _ rfl) ⟨_, _, rfl⟩ (Nat.le_of_ble_eq_true rfl) dX2_read_31 ?_
  refine g_iconst (v := 0) dX2_read_34 (by decide) ?_
  refine g_istore_n (i := 2) dX2_read_35 rfl (by decide) rfl ?_
  exact h1
end
