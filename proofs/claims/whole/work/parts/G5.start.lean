section
/-! ===== what the law's start knows ===== -/
abbrev aCnd : List Cond := flatC (Jvm.Cond.and given_1 narrow_1)
def tmS (k : Nat) : Term := Term.string (aStr.getD k ("", 0, "")).1 (aStr.getD k ("", 0, "")).2.1
def expS (k : Nat) : List Cond := [Cond.exactly (tmS k) nStr, Cond.eq (.field (tmS k) nStr "coder" "B") (.int 0), Cond.arrayOf (.field (tmS k) nStr "value" "[B") .byte, Cond.eq (.length (.field (tmS k) nStr "value" "[B")) (.int (Int32.ofNat (aChr.getD k []).length))] ++ (List.range (aChr.getD k []).length).map (fun j => Cond.eq (.elem (.field (tmS k) nStr "value" "[B") (.int (Int32.ofNat j))) (.int ((aChr.getD k []).getD j 0)))
theorem nr_all : aCnd.drop 35 = (List.range 26).flatMap expS := by decide +kernel
theorem nr_in {k : Nat} (hk : k < 26) {w : Cond} (h : w ∈ expS k) : w ∈ aCnd := by
  refine List.mem_of_mem_drop (i := 35) ?_
  rw [nr_all]
  exact List.mem_flatMap.mpr ⟨k, List.mem_range.mpr hk, h⟩
theorem nr_ex : ∀ k, k < 26 → Cond.exactly (tmS k) nStr ∈ aCnd := fun k hk => nr_in hk (List.mem_append_left _ List.mem_cons_self)
theorem nr_co : ∀ k, k < 26 → Cond.eq (.field (tmS k) nStr "coder" "B") (.int 0) ∈ aCnd := fun k hk => nr_in hk (List.mem_append_left _ (List.mem_cons_of_mem _ List.mem_cons_self))
theorem nr_ar : ∀ k, k < 26 → Cond.arrayOf (.field (tmS k) nStr "value" "[B") .byte ∈ aCnd := fun k hk => nr_in hk (List.mem_append_left _ (List.mem_cons_of_mem _ (List.mem_cons_of_mem _ List.mem_cons_self)))
theorem nr_le : ∀ k, k < 26 → Cond.eq (.length (.field (tmS k) nStr "value" "[B")) (.int (Int32.ofNat (aChr.getD k []).length)) ∈ aCnd := fun k hk => nr_in hk (List.mem_append_left _ (List.mem_cons_of_mem _ (List.mem_cons_of_mem _ (List.mem_cons_of_mem _ List.mem_cons_self))))
theorem nr_el : ∀ k, k < 26 → ∀ j, j < (aChr.getD k []).length → Cond.eq (.elem (.field (tmS k) nStr "value" "[B") (.int (Int32.ofNat j))) (.int ((aChr.getD k []).getD j 0)) ∈ aCnd := fun k hk j hj => nr_in hk (List.mem_append_right _ (List.mem_map.mpr ⟨j, List.mem_range.mpr hj, rfl⟩))
theorem nr_sm : ∀ k, k < 26 → (aChr.getD k []).length < 2 ^ 31 := by decide +kernel
theorem nr_sr : ∀ k, k < 26 → Cond.stringRef (aStr.getD k ("", 0, "")).1 (aStr.getD k ("", 0, "")).2.1 (aStr.getD k ("", 0, "")).2.2 ∈ lw_tbl := by decide +kernel
theorem nr_cp : Cond.eq (.static nStr "COMPACT_STRINGS" "Z") (.int 1) ∈ aCnd := by decide +kernel
theorem nr_fm : Cond.isRef (.static nPre "SIOOBE_FORMATTER" dBi) ∈ aCnd := by decide +kernel
theorem nr_us : Cond.isRef (.static Bundle.tN "UNASSIGNED_STACK" Bundle.steD) ∈ aCnd := by decide +kernel
theorem nr_ss : Cond.isRef (.static Bundle.tN "SUPPRESSED_SENTINEL" Bundle.listD) ∈ aCnd := by decide +kernel
theorem nr_nc : Cond.not (.castable cIl cNo) ∈ aCnd := by decide +kernel
theorem aFace_k : ∀ w ∈ aFace, (match w with
    | .castable _ _ => true
    | .fieldLinkNest .. => true
    | .methodLinkNest .. => true
    | .declares _ => true
    | _ => false) = true := by decide +kernel
theorem aFace_in : ∀ w ∈ aFace, w ∈ lw_tbl := by decide +kernel
theorem aStr_len : aStr.length = 26 := by decide +kernel
/-- all that the law's runs ask of what was there -/
def zAll (B : Nat) (gO' aV : Nat → Nat) (fm : Value) (b L : Nat) (xs : Nat → Int32) : State → Heap → Prop := fun U H => ((∀ w ∈ aFace, va_Nw w U) ∧ vx_Zq Bundle.tN "UNASSIGNED_STACK" Bundle.steD (fun q => B ≤ q) U H ∧ vx_Zq Bundle.tN "SUPPRESSED_SENTINEL" Bundle.listD (fun q => B ≤ q) U H ∧ ∀ (k : Nat) (q : String × Nat × String), aStr[k]? = some q → vk_R q.1 q.2.1 q.2.2 (gO' (k + 1)) U) ∧ (va_Nc cIl cNo U ∧ va_Nw (Cond.castable cNo cNo) U ∧ va_Nw (Cond.castable cIl cIl) U) ∧ (va_X b L xs U H ∧ b < B) ∧ ∀ (k : Nat) (l : List Int32), aChr[k]? = some l → aTx (fun q => B ≤ q) (gO' (k + 1)) (aV k) fm l U H
theorem zAll.cl {B : Nat} {gO' aV : Nat → Nat} {fm : Value} {b L : Nat} {xs : Nat → Int32} {U U' : State} {H H' : Heap} (hW : U.WarmedH U'.vm) (hq : ∀ a : Nat, a < H.size → ¬ B ≤ a → H'[a]? = H[a]?) (h : zAll B gO' aV fm b L xs U H) : zAll B gO' aV fm b L xs U' H' := by
  obtain ⟨⟨h1, h2, h3, h4⟩, ⟨h5, h6, h7⟩, ⟨h8, h9⟩, h10⟩ := h
  refine ⟨⟨fun w hw => ?_, (vx_Zq.moved hW.alike h2).kept hq, (vx_Zq.moved hW.alike h3).kept hq, fun k q hk => vk_R.warm hW (h4 k q hk)⟩, ⟨va_Nc.moved hW.alike h5, va_Nw.warmC hW h6, va_Nw.warmC hW h7⟩, ⟨(va_X.moved hW.alike h8).kept ?_, h9⟩, fun k l hk => (aTx.moved hW.alike (h10 k l hk)).kept hq⟩
  · have a1 := aFace_k w hw
    have a2 := h1 w hw
    cases w <;> first | exact va_Nw.warmC hW a2 | exact va_Nw.warmF hW a2 | exact va_Nw.warmM hW a2 | exact va_Nw.warmD hW a2 | (exact absurd a1 (by decide)) | (simp at a1)
  · obtain ⟨scr, q1, -⟩ := h8
    exact hq b (Array.getElem?_eq_some_iff.mp q1).1 (Nat.not_le.mpr h9)
theorem tx_of {args : Array Value} {s : State} {A : Nat → Prop} {t : Term} {l : List Int32} (hN : l.length < 2 ^ 31) (hex : (Cond.exactly t nStr).before args s = true) (hco : (Cond.eq (.field t nStr "coder" "B") (.int 0)).before args s = true) (har : (Cond.arrayOf (.field t nStr "value" "[B") .byte).before args s = true) (hle : (Cond.eq (.length (.field t nStr "value" "[B")) (.int (Int32.ofNat l.length))).before args s = true) (hel : ∀ j : Nat, j < l.length → (Cond.eq (.elem (.field t nStr "value" "[B") (.int (Int32.ofNat j))) (.int (l.getD j 0))).before args s = true) (hA : ∀ a : Nat, a < s.heap.size → ¬ A a) : ∃ q : Nat × Nat, t.eval args s none [] s = some (.ref q.1) ∧ va_O nStr q.1 A s s.heap ∧ va_OF nStr "coder" "B" (.int 0) q.1 A s s.heap ∧ va_OF nStr "value" "[B" (.ref q.2) q.1 A s s.heap ∧ va_T .byte q.2 l.length (fun j => .int (l.getD j 0)) A s s.heap := by
  obtain ⟨a, c, cA, kA, q1, q2, q3, q4, q5, q6, -⟩ := Cond.exactly_spec (args := args) (first := s) (o := none) (s := s) (idx := []) (t := t) (cls := nStr) hex
  obtain ⟨t', ht, hT⟩ := va_Tof (f := fun j => .int (l.getD j 0)) (A := A) hN har (va_eqt hle) (fun j hj => va_eqt (hel j hj)) hA
  exact ⟨(a, t'), q1, ⟨cA, q3, q5, by rw [q6]; exact q2, hA a (Array.getElem?_eq_some_iff.mp q3).1⟩, vk_OFof q1 (va_eqt hco) hA, vk_OFof q1 ht hA, hT⟩
theorem arr_of {args : Array Value} {s : State} {ty : FieldType} (h : (Cond.arrayClass ty).before args s = true) (hr : ∀ cA, s.vm.findClass ("[" ++ ty.toString) = some cA → va_RA s cA ty) : ∃ cA, ArrOfT s cA ty ∧ va_RA s cA ty := by
  obtain ⟨cA, kA, comp, h1, h2, h3⟩ := Cond.arrayClass_spec h
  exact ⟨cA, fun n z => ⟨fun k h => (by cases h), kA, h2, comp, h3⟩, hr cA h1⟩
/-- the run's words -/
theorem start_G {s : State} {b L : Nat} {xs : Nat → Int32} (l : Launch) (hl : l.stackTraces = false) (hts : ∀ w ∈ lw_tbl, w.before #[Value.ref b] s = true) (hX : va_X b L xs s s.heap) (hbl : b < s.heap.size) (hgv : (Jvm.Cond.and given_1 narrow_1).before #[Value.ref b] s = true) : ∃ G : aG, gL G = l ∧ gB G = s.heap.size ∧ gO G 0 = b ∧ aZ G s ∧ aGood G ∧ aTxt G ∧ aScr G L xs ∧ aNc G := by
  have hs := flat_of_before _ hgv
  have hA : ∀ a : Nat, a < s.heap.size → ¬ (fun q : Nat => s.heap.size ≤ q) a := fun a h => Nat.not_le.mpr h
  obtain ⟨c0, i0, k0⟩ := u_known (C := RX0) (T := TX0) (N := 3) (n := 3) hts (fun w hw => (List.mem_filter.mp (cl_0.2.1 w hw)).1) (hts (.instantiable RX0 3) (List.mem_of_getElem? (i := 275) (by decide +kernel)))
  obtain ⟨c1, i1, k1⟩ := u_known (C := RX1) (T := TX1) (N := 12) (n := 12) hts (fun w hw => (List.mem_filter.mp (cl_1.2.1 w hw)).1) (hts (.instantiable RX1 12) (List.mem_of_getElem? (i := 326) (by decide +kernel)))
  obtain ⟨c2, i2, k2⟩ := u_known (C := RX2) (T := TX2) (N := 8) (n := 8) hts (fun w hw => (List.mem_filter.mp (cl_2.2.1 w hw)).1) (hts (.instantiable RX2 8) (List.mem_of_getElem? (i := 129) (by decide +kernel)))
  obtain ⟨c3, i3, k3⟩ := u_known (C := RX3) (T := TX3) (N := 2) (n := 2) hts (fun w hw => (List.mem_filter.mp (cl_3.2.1 w hw)).1) (hts (.instantiable RX3 2) (List.mem_of_getElem? (i := 878) (by decide +kernel)))
  obtain ⟨c4, i4, k4⟩ := u_known (C := RX4) (T := TX4) (N := 4) (n := 4) hts (fun w hw => (List.mem_filter.mp (cl_4.2.1 w hw)).1) (hts (.instantiable RX4 4) (List.mem_of_getElem? (i := 292) (by decide +kernel)))
  obtain ⟨c5, i5, k5⟩ := u_known (C := RX5) (T := TX5) (N := 1) (n := 1) hts (fun w hw => (List.mem_filter.mp (cl_5.2.1 w hw)).1) (hts (.instantiable RX5 1) (List.mem_of_getElem? (i := 265) (by decide +kernel)))
  obtain ⟨c6, i6, k6⟩ := u_known (C := RX6) (T := TX6) (N := 3) (n := 3) hts (fun w hw => (List.mem_filter.mp (cl_6.2.1 w hw)).1) (hts (.instantiable RX6 3) (List.mem_of_getElem? (i := 259) (by decide +kernel)))
  obtain ⟨c7, i7, k7⟩ := u_known (C := RX7) (T := TX7) (N := 6) (n := 6) hts (fun w hw => (List.mem_filter.mp (cl_7.2.1 w hw)).1) (hts (.instantiable RX7 6) (List.mem_of_getElem? (i := 135) (by decide +kernel)))
  obtain ⟨c8, i8, k8⟩ := u_known (C := RX8) (T := TX8) (N := 11) (n := 11) hts (fun w hw => (List.mem_filter.mp (cl_8.2.1 w hw)).1) (hts (.instantiable RX8 11) (List.mem_of_getElem? (i := 164) (by decide +kernel)))
  obtain ⟨c9, i9, k9⟩ := u_known (C := RX9) (T := TX9) (N := 12) (n := 12) hts (fun w hw => (List.mem_filter.mp (cl_9.2.1 w hw)).1) (hts (.instantiable RX9 12) (List.mem_of_getElem? (i := 121) (by decide +kernel)))
  obtain ⟨c10, i10, k10⟩ := u_known (C := RX10) (T := TX10) (N := 70) (n := 70) hts (fun w hw => (List.mem_filter.mp (cl_10.2.1 w hw)).1) (hts (.instantiable RX10 70) (List.mem_of_getElem? (i := 1361) (by decide +kernel)))
  obtain ⟨a0, r0, r0'⟩ := arr_of (hts (.arrayClass .int) (List.mem_of_getElem? (i := 229) (by decide +kernel))) (fun _ h => h)
  obtain ⟨a1, r1, r1'⟩ := arr_of (hts (.arrayClass .long) (List.mem_of_getElem? (i := 421) (by decide +kernel))) (fun _ h => h)
  obtain ⟨a2, r2, r2'⟩ := arr_of (hts (.arrayClass .byte) (List.mem_of_getElem? (i := 162) (by decide +kernel))) (fun _ h => h)
  obtain ⟨a3, r3, r3'⟩ := arr_of (hts (.arrayClass .boolean) (List.mem_of_getElem? (i := 1577) (by decide +kernel))) (fun _ h => h)
  have hstr : ∀ k : Nat, ∃ q : Nat × Nat, k < 26 → (tmS k).eval #[Value.ref b] s none [] s = some (.ref q.1) ∧ va_O nStr q.1 (fun q => s.heap.size ≤ q) s s.heap ∧ va_OF nStr "coder" "B" (.int 0) q.1 (fun q => s.heap.size ≤ q) s s.heap ∧ va_OF nStr "value" "[B" (.ref q.2) q.1 (fun q => s.heap.size ≤ q) s s.heap ∧ va_T .byte q.2 (aChr.getD k []).length (fun j => .int ((aChr.getD k []).getD j 0)) (fun q => s.heap.size ≤ q) s s.heap := by
    intro k
    by_cases hk : k < 26
    · obtain ⟨q, hq⟩ := tx_of (A := fun q => s.heap.size ≤ q) (nr_sm k hk) (hs _ (nr_ex k hk)) (hs _ (nr_co k hk)) (hs _ (nr_ar k hk)) (hs _ (nr_le k hk)) (fun j hj => hs _ (nr_el k hk j hj)) hA
      exact ⟨q, fun _ => hq⟩
    · exact ⟨(0, 0), fun h => absurd h hk⟩
  obtain ⟨ad9, had⟩ := Classical.axiomOfChoice hstr
  have hcp := va_Zof (A := fun q => s.heap.size ≤ q) (hts (.laysStatic nStr "COMPACT_STRINGS" "Z") (List.mem_of_getElem? (i := 755) (by decide +kernel))) (hts (.initialized nStr) (List.mem_of_getElem? (i := 110) (by decide +kernel))) (va_eqi (hs _ nr_cp)) hA
  have hfm := va_Zqof (A := fun q => s.heap.size ≤ q) (hts (.laysStatic nPre "SIOOBE_FORMATTER" dBi) (List.mem_of_getElem? (i := 771) (by decide +kernel))) (hts (.initialized nPre) (List.mem_of_getElem? (i := 112) (by decide +kernel))) (hs _ nr_fm) hA
  have hus := vx_Zqof (A := fun q => s.heap.size ≤ q) (hts (.laysStatic Bundle.tN "UNASSIGNED_STACK" Bundle.steD) (List.mem_of_getElem? (i := 678) (by decide +kernel))) (hts (.initialized Bundle.tN) (List.mem_of_getElem? (i := 105) (by decide +kernel))) (hs _ nr_us) hA
  have hss := vx_Zqof (A := fun q => s.heap.size ≤ q) (hts (.laysStatic Bundle.tN "SUPPRESSED_SENTINEL" Bundle.listD) (List.mem_of_getElem? (i := 680) (by decide +kernel))) (hts (.initialized Bundle.tN) (List.mem_of_getElem? (i := 105) (by decide +kernel))) (hs _ nr_ss) hA
  obtain ⟨fm, hfv, hfz⟩ : ∃ fm : Value, (fm = .null ∨ ∃ a, fm = .ref a) ∧ va_Z nPre "SIOOBE_FORMATTER" dBi fm (fun q => s.heap.size ≤ q) s s.heap := by
    rcases hfm with q | ⟨t, q⟩
    · exact ⟨_, Or.inl rfl, q⟩
    · exact ⟨_, Or.inr ⟨t, rfl⟩, q⟩
  have hz : zAll s.heap.size (fun i => if i = 0 then b else (ad9 (i - 1)).1) (fun k => (ad9 k).2) fm b L xs s s.heap := by
    refine ⟨⟨fun w hw => va_Nw.of (aFace_tab w hw) (hts w (aFace_in w hw)), hus, hss, fun k q hk => ?_⟩, ⟨va_Nc.of (hs _ nr_nc), va_Nw.of rfl (hts (.castable cNo cNo) (List.mem_of_getElem? (i := 935) (by decide +kernel))), va_Nw.of rfl (hts (.castable cIl cIl) (List.mem_of_getElem? (i := 653) (by decide +kernel)))⟩, ⟨hX, hbl⟩, fun k l9 hk => ?_⟩
    · have hk26 : k < 26 := by
        have := (List.getElem?_eq_some_iff.mp hk).1
        rw [aStr_len] at this
        exact this
      have e1 : aStr.getD k ("", 0, "") = q := by rw [List.getD_eq_getElem?_getD, hk]; rfl
      have g1 := hts _ (nr_sr k hk26)
      have g2 := (had k hk26).1
      unfold tmS at g2
      rw [e1] at g1 g2
      show vk_R q.1 q.2.1 q.2.2 (if k + 1 = 0 then b else (ad9 (k + 1 - 1)).1) s
      rw [if_neg (by omega), Nat.add_sub_cancel]
      have e2 : (Term.string q.1 q.2.1).eval #[] s none [] s = some (.ref (ad9 k).1) := g2
      exact vk_R.of g1 e2
    · have hk26 : k < 26 := by
        have := (List.getElem?_eq_some_iff.mp hk).1
        rw [aChr_len] at this
        exact this
      have e1 : aChr.getD k [] = l9 := by rw [List.getD_eq_getElem?_getD, hk]; rfl
      have g := had k hk26
      rw [e1] at g
      show aTx _ (if k + 1 = 0 then b else (ad9 (k + 1 - 1)).1) _ fm l9 s s.heap
      rw [if_neg (by omega), Nat.add_sub_cancel]
      exact ⟨g.2.1, g.2.2.1, g.2.2.2.1, g.2.2.2.2, hcp, hfz⟩
  have hcl : ∀ (U U' : State) (H H' : Heap), U.WarmedH U'.vm → (∀ a : Nat, a < H.size → ¬ s.heap.size ≤ a → H'[a]? = H[a]?) → zAll s.heap.size (fun i => if i = 0 then b else (ad9 (i - 1)).1) (fun k => (ad9 k).2) fm b L xs U H → zAll s.heap.size (fun i => if i = 0 then b else (ad9 (i - 1)).1) (fun k => (ad9 k).2) fm b L xs U' H' := fun U U' H H' hW hq h => h.cl hW hq
  refine ⟨(l, (fun k => if k = 0 then c0 else if k = 1 then c1 else if k = 2 then c2 else if k = 3 then c3 else if k = 4 then c4 else if k = 5 then c5 else if k = 6 then c6 else if k = 7 then c7 else if k = 8 then c8 else if k = 9 then c9 else c10, fun k => if k = 0 then i0 else if k = 1 then i1 else if k = 2 then i2 else if k = 3 then i3 else if k = 4 then i4 else if k = 5 then i5 else if k = 6 then i6 else if k = 7 then i7 else if k = 8 then i8 else if k = 9 then i9 else i10), (fun k => if k = 0 then a0 else if k = 1 then a1 else if k = 2 then a2 else a3), s.heap.size, (fun i => if i = 0 then b else (ad9 (i - 1)).1), zAll s.heap.size (fun i => if i = 0 then b else (ad9 (i - 1)).1) (fun k => (ad9 k).2) fm b L xs), rfl, rfl, rfl, ⟨⟨?_, ?_⟩, fun w hw hn => ?_, hcl, hz⟩, ⟨hl, fun U H h => h.1⟩, aTxt_of (fun U H h k l9 hk => ⟨_, fm, hfv, h.2.2.2 k l9 hk⟩), fun U H h => ⟨h.2.2.1.1, h.2.2.1.2⟩, fun U H h => h.2.1⟩
  · intro k q hq
    match k, hq with
    | 0, hq => obtain rfl := Option.some.inj hq; exact k0
    | 1, hq => obtain rfl := Option.some.inj hq; exact k1
    | 2, hq => obtain rfl := Option.some.inj hq; exact k2
    | 3, hq => obtain rfl := Option.some.inj hq; exact k3
    | 4, hq => obtain rfl := Option.some.inj hq; exact k4
    | 5, hq => obtain rfl := Option.some.inj hq; exact k5
    | 6, hq => obtain rfl := Option.some.inj hq; exact k6
    | 7, hq => obtain rfl := Option.some.inj hq; exact k7
    | 8, hq => obtain rfl := Option.some.inj hq; exact k8
    | 9, hq => obtain rfl := Option.some.inj hq; exact k9
    | 10, hq => obtain rfl := Option.some.inj hq; exact k10
    | k + 11, hq => simp at hq
  · intro k q hq
    match k, hq with
    | 0, hq => obtain rfl := Option.some.inj hq; exact ⟨r0, r0'⟩
    | 1, hq => obtain rfl := Option.some.inj hq; exact ⟨r1, r1'⟩
    | 2, hq => obtain rfl := Option.some.inj hq; exact ⟨r2, r2'⟩
    | 3, hq => obtain rfl := Option.some.inj hq; exact ⟨r3, r3'⟩
    | k + 4, hq => simp at hq
  · have h9 := hts w hw
    cases w <;> first | exact va_Nw.of rfl h9 | (simp [aNest] at hn)
end
