section
/-! ===== the texts: String.length and String.charAt of a constant ===== -/
abbrev nStr : String := "java/lang/String"
abbrev nPre : String := "jdk/internal/util/Preconditions"
abbrev dBi : String := "Ljava/util/function/BiFunction;"
def aTx (A : Nat → Prop) (aK aV : Nat) (fm : Value) (l : List Int32) (U : State) (H : Heap) : Prop := va_O nStr aK A U H ∧ va_OF nStr "coder" "B" (.int 0) aK A U H ∧ va_OF nStr "value" "[B" (.ref aV) aK A U H ∧ va_T .byte aV l.length (fun j => .int (l.getD j 0)) A U H ∧ va_Z nStr "COMPACT_STRINGS" "Z" (.int 1) A U H ∧ va_Z nPre "SIOOBE_FORMATTER" dBi fm A U H
theorem aTx.moved {A : Nat → Prop} {aK aV : Nat} {fm : Value} {l : List Int32} {U U' : State} {H : Heap} (hvm : U.vm.Alike U'.vm) (h : aTx A aK aV fm l U H) : aTx A aK aV fm l U' H := ⟨va_O.moved hvm h.1, va_OF.moved hvm h.2.1, va_OF.moved hvm h.2.2.1, va_T.moved hvm h.2.2.2.1, va_Z.moved hvm h.2.2.2.2.1, va_Z.moved hvm h.2.2.2.2.2⟩
theorem aTx.kept {A : Nat → Prop} {aK aV : Nat} {fm : Value} {l : List Int32} {U : State} {H H1 : Heap} (h : aTx A aK aV fm l U H) (hq : ∀ a : Nat, a < H.size → ¬ A a → H1[a]? = H[a]?) : aTx A aK aV fm l U H1 := ⟨h.1.kept hq, h.2.1.kept hq, h.2.2.1.kept hq, h.2.2.2.1.kept hq, h.2.2.2.2.1.kept hq, h.2.2.2.2.2.kept hq⟩
theorem aTx.narrow {A B : Nat → Prop} {aK aV : Nat} {fm : Value} {l : List Int32} {U : State} {H : Heap} (h : aTx A aK aV fm l U H) (hAB : ∀ q, B q → A q) : aTx B aK aV fm l U H := ⟨h.1.narrow hAB, h.2.1.narrow hAB, h.2.2.1.narrow hAB, h.2.2.2.1.narrow hAB, h.2.2.2.2.1.narrow hAB, h.2.2.2.2.2.narrow hAB⟩
def aS1 (G : aG) (l : List Int32) (fv : Value) : Prop := (∀ (U : State) (H : Heap), gZ G U H → aTx (aA G) (gO G 1) (gO G 27) (sv G fv) l U H) ∧ (∀ i, 1 ≤ i → i ≤ 26 → gO G i = gO G 1) ∧ (fv = .null ∨ fv = .ref 28)
theorem aS1.st {G : aG} {l : List Int32} {fv : Value} (hX : aS1 G l fv) : ∀ (U : State) (H : Heap) (k : Nat), gZ G U H → k < 26 → ∃ cell : Cell, H[gO G (k + 1)]? = some cell ∧ cell.vm.isStatics = false ∧ U.vm.findClass nStr = some cell.cls ∧ gO G (k + 1) < gB G := fun U H k hz hk => by
  obtain ⟨cell, h1, h2, h3, h4⟩ := (hX.1 U H hz).1
  rw [hX.2.1 (k + 1) (by omega) (by omega)]
  exact ⟨cell, h1, h2, h3, Nat.not_le.mp h4⟩
theorem lkV : Cond.fieldLink nStr 9 nStr "value" "[B" ∈ aW := aIn1 2034 (by decide +kernel) rfl
theorem lkC : Cond.fieldLink nStr 15 nStr "coder" "B" ∈ aW := aIn1 2035 (by decide +kernel) rfl
theorem lkS : Cond.fieldLink nStr 38 nStr "COMPACT_STRINGS" "Z" ∈ aW := aIn1 754 (by decide +kernel) rfl
theorem lkF : Cond.fieldLink nStr 1053 nPre "SIOOBE_FORMATTER" dBi ∈ aW := aIn1 770 (by decide +kernel) rfl
section
variable {G : aG} {M : aM} {pc : Nat} {ls : List (Option Value)} {st : List Value} {h : aH} {R : aR} {l : List Int32} {fv : Value}
theorem g_sval (hX : aS1 G l fv) (hc : (mY M).cls = nStr) (hd : decode (mC M) pc = .ok (.getfield 9, 3)) (k : AG G M (pc + 3) ls (.ref 27 :: st) h R) : AG G M pc ls (.ref 1 :: st) h R := by
  refine ⟨k.1, fun p e RM s m args below meth c H locs lsA cells slots C hL hr hS h1 h2 => ?_⟩
  have q := hX.1 s s.heap C.2.2.2.2.2.2.2.2.2.2.2.1.2.2.2
  exact vk_getf (q := gO G 1) (v := .ref (gO G 27)) C.1 C.2.1 q.2.2.1 hS (hc ▸ C.2.2.2.2.1) (C.2.2.2.2.2.1 _ lkV) (fun x h => h) hd (k.2 p e RM s m args below meth c H locs lsA cells slots C hL hr hS h1 h2)
theorem g_scod (hX : aS1 G l fv) (hc : (mY M).cls = nStr) (hd : decode (mC M) pc = .ok (.getfield 15, 3)) (k : AG G M (pc + 3) ls (.int 0 :: st) h R) : AG G M pc ls (.ref 1 :: st) h R := by
  refine ⟨k.1, fun p e RM s m args below meth c H locs lsA cells slots C hL hr hS h1 h2 => ?_⟩
  have q := hX.1 s s.heap C.2.2.2.2.2.2.2.2.2.2.2.1.2.2.2
  exact vk_getf (q := gO G 1) (v := .int 0) C.1 C.2.1 q.2.1 hS (hc ▸ C.2.2.2.2.1) (C.2.2.2.2.2.1 _ lkC) (fun x h => h) hd (k.2 p e RM s m args below meth c H locs lsA cells slots C hL hr hS h1 h2)
theorem g_scmp (hX : aS1 G l fv) (hc : (mY M).cls = nStr) (hd : decode (mC M) pc = .ok (.getstatic 38, 3)) (k : AG G M (pc + 3) ls (.int 1 :: st) h R) : AG G M pc ls st h R := by
  refine ⟨k.1, fun p e RM s m args below meth c H locs lsA cells slots C hL hr hS h1 h2 => ?_⟩
  have q := hX.1 s s.heap C.2.2.2.2.2.2.2.2.2.2.2.1.2.2.2
  exact va_gets (v := .int 1) C.1 C.2.1 q.2.2.2.2.1 hS (hc ▸ C.2.2.2.2.1) (C.2.2.2.2.2.1 _ lkS) (fun x h => h) hd (k.2 p e RM s m args below meth c H locs lsA cells slots C hL hr hS h1 h2)
theorem g_sfmt (hX : aS1 G l fv) (hc : (mY M).cls = nStr) (hd : decode (mC M) pc = .ok (.getstatic 1053, 3)) (k : AG G M (pc + 3) ls (fv :: st) h R) : AG G M pc ls st h R := by
  refine ⟨k.1, fun p e RM s m args below meth c H locs lsA cells slots C hL hr hS h1 h2 => ?_⟩
  have q := hX.1 s s.heap C.2.2.2.2.2.2.2.2.2.2.2.1.2.2.2
  exact va_gets (v := sv G fv) C.1 C.2.1 q.2.2.2.2.2 hS (hc ▸ C.2.2.2.2.1) (C.2.2.2.2.2.1 _ lkF) (fun x h => h) hd (k.2 p e RM s m args below meth c H locs lsA cells slots C hL hr hS h1 h2)
theorem g_slen (hX : aS1 G l fv) (hd : decode (mC M) pc = .ok (.arraylength, 1)) (k : AG G M (pc + 1) ls (.int (Int32.ofNat l.length) :: st) h R) : AG G M pc ls (.ref 27 :: st) h R := by
  refine ⟨k.1, fun p e RM s m args below meth c H locs lsA cells slots C hL hr hS h1 h2 => ?_⟩
  have q := hX.1 s s.heap C.2.2.2.2.2.2.2.2.2.2.2.1.2.2.2
  exact va_tlen (t := gO G 27) C.1 C.2.1 q.2.2.2.1 hS rfl hd (k.2 p e RM s m args below meth c H locs lsA cells slots C hL hr hS h1 h2)
theorem g_sbyt {x : Int32} (hX : aS1 G l fv) (hd : decode (mC M) pc = .ok (.baload, 1)) (hx : vp_in x l.length) (k : AG G M (pc + 1) ls (.int (l.getD x.toNatClampNeg 0) :: st) h R) : AG G M pc ls (.int x :: .ref 27 :: st) h R := by
  refine ⟨k.1, fun p e RM s m args below meth c H locs lsA cells slots C hL hr hS h1 h2 => ?_⟩
  have q := hX.1 s s.heap C.2.2.2.2.2.2.2.2.2.2.2.1.2.2.2
  exact va_tb (t := gO G 27) C.1 C.2.1 q.2.2.2.1 hS hx rfl hd (k.2 p e RM s m args below meth c H locs lsA cells slots C hL hr hS h1 h2)
theorem g_i2c {x v : Int32} (hd : decode (mC M) pc = .ok (.i2c, 1)) (hv : (x.toUInt32 % 65536).toInt32 = v) (k : AG G M (pc + 1) ls (.int v :: st) h R) : AG G M pc ls (.int x :: st) h R :=
  ⟨k.1, fun p e RM s m args below meth c H locs lsA cells slots C hL hr hS h1 h2 => lv_i2c C.1 C.2.1 hd hv (k.2 p e RM s m args below meth c H locs lsA cells slots C hL hr hS h1 h2)⟩
end
section
variable {G : aG} {h : aH} {l : List Int32} {fv : Value}
theorem s_coder (hX : aS1 G l fv) : AC G M_J0_coder_7d493 [.ref 1] h (.inl (some (.int 0)), h) := by
  refine AC.of (by decide) rfl (Nat.le_of_ble_eq_true rfl) ?_
  show AG G M_J0_coder_7d493 0 [some (.ref 1)] [] _ _
  refine g_scmp hX rfl dJ0_coder_7d493_0 ?_
  refine g_if_eq (tgt := 13) dJ0_coder_7d493_3 (by decide) (fun q => absurd q (by decide)) (fun _ => ?_)
  refine g_aload_n dJ0_coder_7d493_6 rfl rfl ?_
  refine g_scod hX rfl dJ0_coder_7d493_7 ?_
  refine g_goto (tgt := 14) dJ0_coder_7d493_10 (by decide) ?_
  exact g_zret rfl rfl dJ0_coder_7d493_14
theorem s_latin (hX : aS1 G l fv) : AC G M_J0_isLatin1_aae02 [.ref 1] h (.inl (some (.int 1)), h) := by
  refine AC.of (by decide) rfl (Nat.le_of_ble_eq_true rfl) ?_
  show AG G M_J0_isLatin1_aae02 0 [some (.ref 1)] [] _ _
  refine g_scmp hX rfl dJ0_isLatin1_aae02_0 ?_
  refine g_if_eq (tgt := 17) dJ0_isLatin1_aae02_3 (by decide) (fun q => absurd q (by decide)) (fun _ => ?_)
  refine g_aload_n dJ0_isLatin1_aae02_6 rfl rfl ?_
  refine g_scod hX rfl dJ0_isLatin1_aae02_7 ?_
  refine g_if_ne (tgt := 17) dJ0_isLatin1_aae02_10 (by decide) (fun q => absurd rfl q) (fun _ => ?_)
  refine g_iconst (v := 1) dJ0_isLatin1_aae02_13 (by decide) ?_
  refine g_goto (tgt := 18) dJ0_isLatin1_aae02_14 (by decide) ?_
  exact g_zret rfl rfl dJ0_isLatin1_aae02_18
theorem s_length (hX : aS1 G l fv) : AC G M_J0_length_8abf5 [.ref 1] h (.inl (some (.int (Int32.ofNat l.length))), h) := by
  refine AC.of (by decide) rfl (Nat.le_of_ble_eq_true rfl) ?_
  show AG G M_J0_length_8abf5 0 [some (.ref 1)] [] _ _
  refine g_aload_n dJ0_length_8abf5_0 rfl rfl ?_
  refine g_sval hX rfl dJ0_length_8abf5_1 ?_
  refine g_slen hX dJ0_length_8abf5_4 ?_
  refine g_aload_n dJ0_length_8abf5_5 rfl rfl ?_
  refine g_callSt (M' := M_J0_coder_7d493) (as := []) (k := 0) (v := some (.int 0)) hX.st (by decide) l_J0_335 kV_J0_coder_7d493 (by decide) rfl (s_coder hX) rfl (Nat.le_of_ble_eq_true rfl) dJ0_length_8abf5_6 ?_
  refine g_ishr dJ0_length_8abf5_9 ?_
  rw [show ((0 : Int32) &&& 31) = 0 from rfl, Int32.shiftRight_zero]
  exact g_iret rfl dJ0_length_8abf5_10
theorem s_chk3 {i n : Int32} (hf : fv = .null ∨ fv = .ref 28) (h0 : ¬ i < 0) (hn : i < n) : AC G M_J3_checkIndex_8e157 [.int i, .int n, fv] h (.inl (some (.int i)), h) := by
  refine AC.of (by decide) rfl (by rcases hf with rfl | rfl <;> exact Nat.le_of_ble_eq_true rfl) ?_
  have go : ∀ x, AG G M_J3_checkIndex_8e157 0 [some (.int i), some (.int n), x] [] h (.inl (some (.int i)), h) := fun x => by
    refine g_iload_n dJ3_checkIndex_8e157_0 rfl rfl ?_
    refine g_if_lt (tgt := 9) dJ3_checkIndex_8e157_1 (by decide) (fun q => absurd q h0) (fun _ => ?_)
    refine g_iload_n dJ3_checkIndex_8e157_4 rfl rfl ?_
    refine g_iload_n dJ3_checkIndex_8e157_5 rfl rfl ?_
    refine g_icmp_lt (tgt := 16) dJ3_checkIndex_8e157_6 (by decide) (fun _ => ?_) (fun q => absurd hn q)
    refine g_iload_n dJ3_checkIndex_8e157_16 rfl rfl ?_
    exact g_iret rfl dJ3_checkIndex_8e157_17
  rcases hf with rfl | rfl <;> exact go _
theorem s_chk0 {i n : Int32} (hX : aS1 G l fv) (h0 : ¬ i < 0) (hn : i < n) : AC G M_J0_checkIndex_df160 [.int i, .int n] h (.inl none, h) := by
  refine AC.of (by decide) rfl (Nat.le_of_ble_eq_true rfl) ?_
  show AG G M_J0_checkIndex_df160 0 [some (.int i), some (.int n)] [] _ _
  refine g_iload_n dJ0_checkIndex_df160_0 rfl rfl ?_
  refine g_iload_n dJ0_checkIndex_df160_1 rfl rfl ?_
  refine g_sfmt hX rfl dJ0_checkIndex_df160_2 ?_
  refine g_callS (M' := M_J3_checkIndex_8e157) (as := [.int i, .int n, fv]) (v := some (.int i)) l_J0_1059 kS_J3_checkIndex_8e157 (by decide) (s_chk3 hX.2.2 h0 hn) rfl (Nat.le_of_ble_eq_true rfl) dJ0_checkIndex_df160_5 ?_
  refine g_pop dJ0_checkIndex_df160_8 rfl ?_
  exact g_vret rfl dJ0_checkIndex_df160_9
theorem s_char1 {i c : Int32} (hX : aS1 G l fv) (h0 : ¬ i < 0) (hn : i < Int32.ofNat l.length) (hi : vp_in i l.length) (hc : ((l.getD i.toNatClampNeg 0 &&& 255).toUInt32 % 65536).toInt32 = c) (hz : narrow .char (.int c) = .int c) : AC G M_J1_charAt_3b067 [.ref 27, .int i] h (.inl (some (.int c)), h) := by
  refine AC.of (by decide) rfl (Nat.le_of_ble_eq_true rfl) ?_
  show AG G M_J1_charAt_3b067 0 [some (.ref 27), some (.int i)] [] _ _
  refine g_iload_n dJ1_charAt_3b067_0 rfl rfl ?_
  refine g_aload_n dJ1_charAt_3b067_1 rfl rfl ?_
  refine g_slen hX dJ1_charAt_3b067_2 ?_
  refine g_callS (M' := M_J0_checkIndex_df160) (as := [.int i, .int (Int32.ofNat l.length)]) (v := none) l_J1_9 kS_J0_checkIndex_df160 (by decide) (s_chk0 hX h0 hn) rfl (Nat.le_of_ble_eq_true rfl) dJ1_charAt_3b067_3 ?_
  refine g_aload_n dJ1_charAt_3b067_6 rfl rfl ?_
  refine g_iload_n dJ1_charAt_3b067_7 rfl rfl ?_
  refine g_sbyt hX dJ1_charAt_3b067_8 hi ?_
  refine g_sipush (v := 255) dJ1_charAt_3b067_9 (by decide) ?_
  refine g_iand dJ1_charAt_3b067_12 ?_
  refine g_i2c dJ1_charAt_3b067_13 hc ?_
  exact g_zret rfl hz dJ1_charAt_3b067_14
theorem s_charAt {i c : Int32} (hX : aS1 G l fv) (h0 : ¬ i < 0) (hn : i < Int32.ofNat l.length) (hi : vp_in i l.length) (hc : ((l.getD i.toNatClampNeg 0 &&& 255).toUInt32 % 65536).toInt32 = c) (hz : narrow .char (.int c) = .int c) : AC G M_J0_charAt_5068e [.ref 1, .int i] h (.inl (some (.int c)), h) := by
  refine AC.of (by decide) rfl (Nat.le_of_ble_eq_true rfl) ?_
  show AG G M_J0_charAt_5068e 0 [some (.ref 1), some (.int i)] [] _ _
  refine g_aload_n dJ0_charAt_5068e_0 rfl rfl ?_
  refine g_callSt (M' := M_J0_isLatin1_aae02) (as := []) (k := 0) (v := some (.int 1)) hX.st (by decide) l_J0_492 kV_J0_isLatin1_aae02 (by decide) rfl (s_latin hX) rfl (Nat.le_of_ble_eq_true rfl) dJ0_charAt_5068e_1 ?_
  refine g_if_eq (tgt := 16) dJ0_charAt_5068e_4 (by decide) (fun q => absurd q (by decide)) (fun _ => ?_)
  refine g_aload_n dJ0_charAt_5068e_7 rfl rfl ?_
  refine g_sval hX rfl dJ0_charAt_5068e_8 ?_
  refine g_iload_n dJ0_charAt_5068e_11 rfl rfl ?_
  refine g_callS (M' := M_J1_charAt_3b067) (as := [.ref 27, .int i]) (v := some (.int c)) l_J0_495 kS_J1_charAt_3b067 (by decide) (s_char1 hX h0 hn hi hc hz) rfl (Nat.le_of_ble_eq_true rfl) dJ0_charAt_5068e_12 ?_
  exact g_zret rfl hz dJ0_charAt_5068e_15
end
end
