section
/-! ===== methods with a table of handlers; calls of them; what is caught ===== -/
def aWsH (M : aM) : List Cond := .codeWith (mY M) (mC M) (mN M) (mR M) (mH M) :: aW
def ACH (G : aG) (M : aM) (as : List Value) (h : aH) (R : aR) : Prop := aLe h R.2 ∧ vx_Met (gL G) (mY M) (aWsH M) (aRm M h R) (aPc G as h) (aQr G R) (aQx G R) (aDc h R) (aDs h R) (aA G)
theorem ACH.of {G : aG} {M : aM} {as : List Value} {h : aH} {R : aR} (hp : plainName (mY M).cls = true) (hn : (aEntL as).length ≤ mN M) (k : AG G M 0 (aEnt as (mN M)) [] h R) : ACH G M as h R := by
  refine ⟨k.1, vx_ofWH (cc := mC M) (maxL := mN M) (ret := mR M) (hh := mH M) (ws' := aW) hp rfl ?_⟩
  intro p e s m args below meth c s₁ B hml hv
  obtain ⟨rfl, hZ, hr⟩ := hv
  have hts := atoms_spec (ws := aWsH M) B.pre
  rw [lg_entry_eq]
  have kk := k.2 p e (headSpec (aWsH M) (aRm M h R)).room s m (as.map (sv G)).toArray below meth c s.heap [] _ 0 0
    ⟨B.exec, B.bytes, B.returns, hml, findClass_of_methodNamed B.named, fun w hw => hts w (List.mem_cons_of_mem _ hw), B.notSynchronized, (name_of_methodNamed B.named B.method).1, vx_table (x := mY M) B (hts _ List.mem_cons_self), Nat.le_refl _, Nat.le_refl _, hZ, hr.base⟩ (aEnt_L G as hn) hr va_S.rf (by rw [Nat.zero_add]; exact Nat.le_refl _) (by rw [Nat.zero_add]; exact Nat.le_refl _)
  rw [Nat.zero_add, Nat.zero_add] at kk
  exact kk
theorem ACH.met {G : aG} {M : aM} {as : List Value} {h h' : aH} {v : Option Value} (hc : ACH G M as h (.inl v, h')) : Met (gL G) (mY M) (aWsH M) (aRm M h (.inl v, h')) (aPc G as h) (aQr G (.inl v, h')) (aDc h (.inl v, h')) (aDs h (.inl v, h')) (aA G) := by
  intro p e h1 h2 h3 s m args below h4 h5 h6 h7
  obtain ⟨n, o, a1, a2, a3, a4⟩ := hc.2 p e h1 h2 h3 s m args below h4 h5 h6 h7
  refine ⟨n, o, a1, a2, a3, ?_⟩
  rcases a4 with a4 | ⟨q, -, E, ce, L, hx, -⟩
  · exact a4
  · exact absurd hx (fun z => z)
/-- a static method with a table that can be called, with n arguments -/
def aCalH (M : aM) (n : Nat) : Prop := Cond.codeWith (mY M) (mC M) (mN M) (mR M) (mH M) ∈ aW ∧ Cond.initialized (mY M).cls ∈ aW ∧ ((mY M).cls ≠ "java/lang/invoke/MethodHandle" ∧ (mY M).cls ≠ "java/lang/invoke/VarHandle") ∧ (parseMethodDescriptor (mY M).desc).map (fun d => d.parameters.length) = some n ∧ mN M ≤ 45 ∧ Cond.static (mY M) ∈ aW
section
variable {G : aG} {M M' : aM} {pc : Nat} {ls : List (Option Value)} {st : List Value} {h h' : aH} {R : aR}
theorem aCallH {p : Program} {RM : Room} {s : State} {m : MethodId} {args : Array Value} {meth : Method} {c : Code} {R' : aR} {n index : Nat} (C : aCtx G M p RM s m args meth c) (hD : mD M' < mD M) (hc : aCalH M' n) (hl : Cond.methodLink (mY M).cls index (mY M') ∈ aW) :
    vx_CSW RM s args (mY M).cls index (mY M') (mC M') (mN M') (mR M') (mH M') (aWsH M') (aRm M' h R') (aDc h R') (aDs h R') n := by
  have hts := C.2.2.2.2.2.1
  have hfr := C.2.2.2.2.2.2.2.2.2.1
  have hlo := C.2.2.2.2.2.2.2.2.2.2.1
  have h45 := hc.2.2.2.2.1
  refine ⟨⟨rfl, rfl, ?_, ?_, fun w hw => ?_, List.mem_cons_self⟩, hts _ hc.1, hts _ hc.2.1, hc.2.2.1, fun sig hs => ?_, hts _ hl, hts _ hc.2.2.2.2.2⟩
  · show mD M' + 1 ≤ _
    omega
  · show 8 + (mN M' + 11) + 64 * mD M' ≤ _
    omega
  · rcases List.mem_cons.mp hw with rfl | hw
    · exact aW_pay hts _ hc.1
    · exact aW_pay hts _ hw
  · have h2 := hc.2.2.2.1
    rw [hs] at h2
    exact (Option.some.inj h2).symm
theorem g_callH {index n : Nat} {as : List Value} {v : Option Value} (hl : Cond.methodLink (mY M).cls index (mY M') ∈ aW) (hc : aCalH M' n) (hD : mD M' < mD M) (ha : ACH G M' as h (.inl v, h')) (hn : as.length = n) (hst : aWd st ≤ 8)
    (hd : decode (mC M) pc = .ok (.invokestatic index, 3)) (k : AG G M (pc + 3) ls (v.toList ++ st) h' R) : AG G M pc ls (as.reverse ++ st) h R := by
  refine ⟨ha.1.tr k.1, fun p e RM s m args below meth c H locs lsA cells slots C hL hr hS h1 h2 => ?_⟩
  have hK := C.2.2.2.2.2.2.2.2.2.2.2.1
  rw [aMap_revS]
  have hf : cells + aDc h (.inl v, h') ≤ RM.cells ∧ slots + aDs h (.inl v, h') ≤ RM.slots := ⟨aDc_fit ha.1 k.1 h1, aDs_fit ha.1 k.1 h2⟩
  have S : CallFix p m c (mC M) (mN M) s args aW (mY M).cls := ⟨C.1, C.2.1, C.2.2.2.1, C.2.2.2.2.1, C.2.2.2.2.2.1⟩
  have hp : PreS s H (aPc G as h) (as.map (sv G)) := ⟨aPc.blind, fun U hU hW => aPc.at hK hS hr U hU hW⟩
  exact aAfter C hL hS h1 h2 ha.1 k (vx_runSW (g := F0 m pc lsA _) S ha.met (aCallH C hD hc hl) hp rfl (by rw [List.length_map]; exact hn) hL.2.1 rfl (aWd_room hst) hd hf)
theorem aL.stN {nL i : Nat} {lsA ls' : Array Slot} {X : Value} (h : aL G nL ls lsA) (ho : aOk ls i = true) (hi : i < nL) (h' : lv_has ls' nL ((i, X) :: (aLl G ls).filter (fun q => !(q.1 == i) && !(q.1 + 1 == i && q.2.category == 2)))) : aL G nL (ls.set i none) ls' := by
  refine ⟨by rw [List.length_set]; exact h.1, h'.1, h'.2.1, fun j w hj => ?_⟩
  by_cases hij : i = j
  · subst hij
    rw [List.getElem?_set_self (by rw [h.1]; exact hi)] at hj
    cases hj
  · rw [List.getElem?_set_ne hij] at hj
    refine h'.2.2 (j, sv G w) (List.mem_cons_of_mem _ (List.mem_filter.mpr ⟨aLl_mem.mpr ⟨w, hj, rfl⟩, ?_⟩))
    have h1 : (j == i) = false := by simp; omega
    by_cases h2 : j + 1 = i
    · subst h2
      simp only [aOk, hj] at ho
      simp only [beq_iff_eq] at ho
      simp [sv_cat, ho] <;> omega
    · simp [h1, h2] <;> omega
/-- the start of a handler: what was thrown is stored away -/
def aHst (cc : ByteArray) (hpc npc i : Nat) : Prop := (∃ j : Fin 4, decode cc hpc = .ok (.astore_n j, 1) ∧ (j : Nat) = i ∧ npc = hpc + 1) ∨ (decode cc hpc = .ok (.astore i, 2) ∧ npc = hpc + 2)
theorem aCatch {p : Program} {e : Env} {RM : Room} {s : State} {m : MethodId} {args : Array Value} {below : List Frame} {meth : Method} {c : Code} {H : Heap} {locs : List Loc} {lsA : Array Slot} {cells slots : Nat} {E nm : String} {as : Array Value} {st0 : List Value} {pre suf : List ExceptionTableEntry} {x : ExceptionTableEntry} {npc i : Nat}
    (C : aCtx G M p RM s m args meth c) (hL : aL G (mN M) ls lsA) (hS : va_S (aA G) s.heap H locs) (h1 : cells + aDc h R ≤ RM.cells) (h2 : slots + aDs h R ≤ RM.slots) (hle : aLe h h')
    (hsplit : tableOf (mH M) = pre ++ x :: suf) (hpass : ∀ z ∈ pre, covers z pc = false ∨ (z.catchType ≠ 0 ∧ ∃ nm : String, Cond.classLink (mY M).cls z.catchType nm ∈ aW ∧ ∀ (U : State) (H : Heap), gZ G U H → va_Nc E nm U)) (hx : covers x pc = true) (h0 : x.catchType ≠ 0)
    (hlink : Cond.classLink (mY M).cls x.catchType nm ∈ aW) (hcast : ∀ (U : State) (H : Heap), gZ G U H → va_Nw (Cond.castable E nm) U) (hst : aHst (mC M) x.handlerPc npc i) (hi : i < mN M) (ho : aOk ls i = true) (k : AG G M npc (ls.set i none) [] h' R)
    (run : vx_Run p (gL G) e RM s m args below meth c H locs cells slots (aDc h (.inr E, h')) (aDs h (.inr E, h')) (F0 m pc lsA st0) (st.map (sv G)) (aQr G (.inr E, h') as) (aQx G (.inr E, h')) (aA G)) :
    W p (gL G) e RM s m args below meth c H locs cells slots (vx_MQ below (aQr G R) (aQx G R) args s (cells + aDc h R) (slots + aDs h R) (aA G)) (F0 m pc lsA st0) := by
  intro T hT X
  have hts := C.2.2.2.2.2.1
  have hZ := C.2.2.2.2.2.2.2.2.2.2.2.1
  rcases run T hT X with ⟨v, st₀, t, T', L, e0, X', hL', e1, e2, hq, stp⟩ | ⟨q, st₀, t, T', L, E', ce, e0, X', hL', e1, e2, ⟨rfl, hx2, hx3⟩, hce, hcv, hcl, stp⟩
  · exact absurd hq (fun z => z)
  · obtain ⟨hz, hk⟩ := hx3
    rw [e0] at hz hk
    have hS' : va_S (aA G) s.heap T'.heap (locs ++ L) := ⟨Nat.le_trans hS.1 (by rw [e1]; exact hz), fun q a1 a2 => by rw [e1, hk q (Nat.lt_of_lt_of_le a1 hS.1) a2]; exact hS.2.1 q a1 a2, fun q hq => by
      rcases List.mem_append.mp hq with a | a
      · exact hS.2.2 q a
      · exact hL' q a⟩
    rw [← aDc_call (v := .inr E') hle k.1, ← aDs_call (v := .inr E') hle k.1]
    rw [← aDc_call (v := .inr E') hle k.1] at h1
    rw [← aDs_call (v := .inr E') hle k.1] at h2
    have go : ∀ ls9, aL G (mN M) (ls.set i none) ls9 → W p (gL G) e RM s m args below meth c T'.heap (locs ++ L) (cells + aDc h (.inr E', h')) (slots + aDs h (.inr E', h')) (vx_MQ below (aQr G R) (aQx G R) args s (cells + aDc h (.inr E', h') + aDc h' R) (slots + aDs h (.inr E', h') + aDs h' R) (aA G)) (F0 m npc ls9 []) := fun ls9 h9 => k.2 p e RM s m args below meth c T'.heap (locs ++ L) ls9 _ _ C h9 (by rw [e1]; exact hx2) hS' h1 h2
    have kk : W p (gL G) e RM s m args below meth c T'.heap (locs ++ L) (cells + aDc h (.inr E', h')) (slots + aDs h (.inr E', h')) (vx_MQ below (aQr G R) (aQx G R) args s (cells + aDc h (.inr E', h') + aDc h' R) (slots + aDs h (.inr E', h') + aDs h' R) (aA G)) (F0 m x.handlerPc lsA [.ref q]) := by
      rcases hst with ⟨j, d1, d2, d3⟩ | ⟨d1, d3⟩
      · subst d3
        exact lv_astore_n C.1 C.2.1 d1 d2 hL.has hi rfl (fun ls9 h9 => go ls9 (hL.stN ho hi h9))
      · subst d3
        exact lv_astore C.1 C.2.1 d1 hL.has hi rfl (fun ls9 h9 => go ls9 (hL.stN ho hi h9))
    obtain ⟨t2, a1, b1⟩ := vx_catch (own := (mY M).cls) (name := nm) (E := E') (ce := ce) (q := q) (pc := pc) (ls := lsA) (rest := st.map (sv G)) C.2.2.2.2.1 pre x suf (by rw [C.2.2.2.2.2.2.2.2.1, hsplit])
      (fun z hz9 => by
        rcases hpass z hz9 with a | ⟨b0, nm9, b1, b2⟩
        · exact Or.inl a
        · exact Or.inr ⟨b0, nm9, hts _ b1, b2 _ _ hZ.2.2.2⟩) hx h0 (hts _ hlink) (va_Nw.use rfl (hcast _ _ hZ.2.2.2)) (by rw [e1]; exact hce) hcv hcl kk T' rfl X'
    exact ⟨t2, stp.trans a1, b1⟩
/-- a call that throws, caught in this method -/
theorem g_catchV {index n b ci : Nat} {as : List Value} {fs : List Value} {E nm : String} {pre suf : List ExceptionTableEntry} {x : ExceptionTableEntry} {npc i : Nat} (hl : Cond.methodLink (mY M).cls index (mY M') ∈ aW) (hc : aCalV M' n) (hD : mD M' < mD M) (ha : AC G M' (.ref b :: as) h (.inr E, h')) (hn : as.length = n) (hb : 40 ≤ b) (he : h[b]? = some (some (.inr (ci, fs)))) (hcl : ∃ T N, vwCl[ci]? = some ((mY M').cls, T, N)) (hst : aWd st ≤ 8)
    (hd : decode (mC M) pc = .ok (.invokevirtual index, 3))
    (hsplit : tableOf (mH M) = pre ++ x :: suf) (hpass : ∀ z ∈ pre, covers z pc = false ∨ (z.catchType ≠ 0 ∧ ∃ nm : String, Cond.classLink (mY M).cls z.catchType nm ∈ aW ∧ ∀ (U : State) (H : Heap), gZ G U H → va_Nc E nm U)) (hx : covers x pc = true) (h0 : x.catchType ≠ 0)
    (hlink : Cond.classLink (mY M).cls x.catchType nm ∈ aW) (hcast : ∀ (U : State) (H : Heap), gZ G U H → va_Nw (Cond.castable E nm) U) (hhs : aHst (mC M) x.handlerPc npc i) (hi : i < mN M) (ho : aOk ls i = true) (k : AG G M npc (ls.set i none) [] h' R) : AG G M pc ls (as.reverse ++ .ref b :: st) h R := by
  refine ⟨ha.1.tr k.1, fun p e RM s m args below meth c H locs lsA cells slots C hL hr hS h1 h2 => ?_⟩
  have hK := C.2.2.2.2.2.2.2.2.2.2.2.1
  obtain ⟨T9, N9, hcl⟩ := hcl
  rw [aMap_rev]
  have hP := hr.P1 hb he
  have hf : cells + aDc h (.inr E, h') ≤ RM.cells ∧ slots + aDs h (.inr E, h') ≤ RM.slots := ⟨aDc_fit ha.1 k.1 h1, aDs_fit ha.1 k.1 h2⟩
  have S : CallFix p m c (mC M) (mN M) s args aW (mY M).cls := ⟨C.1, C.2.1, C.2.2.2.1, C.2.2.2.2.1, C.2.2.2.2.2.1⟩
  have hp : PreV s H (mY M').cls (ad G b) (aPc G (.ref b :: as) h) (as.map (sv G)) := ⟨aPc.blind, va_recv hK.1 hP hcl (q0 := 0) rfl, fun U hU hW => aPc.at hK hS hr U hU hW⟩
  exact aCatch C hL hS h1 h2 ha.1 hsplit hpass hx h0 hlink hcast hhs hi ho k (vx_runV (g := F0 m pc lsA _) S ha.2 ⟨aCallB C hD hc.1 hl, C.2.2.2.2.2.1 _ hc.2.1, C.2.2.2.2.2.1 _ hc.2.2⟩ hp rfl (by rw [List.length_map]; exact hn) hL.2.1 rfl (aWd_room hst) hd hf)
/-- the script -/
def aScr (G : aG) (L : Nat) (xs : Nat → Int32) : Prop := ∀ (U : State) (H : Heap), gZ G U H → va_X (gO G 0) L xs U H ∧ gO G 0 < gB G
theorem g_scr {L : Nat} {xs : Nat → Int32} {x : Int32} (hX : aScr G L xs) (hd : decode (mC M) pc = .ok (.iaload, 1)) (hx : vp_in x L) (k : AG G M (pc + 1) ls (.int (xs x.toNatClampNeg) :: st) h R) : AG G M pc ls (.int x :: .ref 0 :: st) h R := by
  refine ⟨k.1, fun p e RM s m args below meth c H locs lsA cells slots C hL hr hS h1 h2 => ?_⟩
  have hZ := C.2.2.2.2.2.2.2.2.2.2.2.1
  obtain ⟨q1, q2⟩ := hX s s.heap hZ.2.2.2
  have hB : gB G ≤ s.heap.size := C.2.2.2.2.2.2.2.2.2.2.2.2
  exact va_sld (b := gO G 0) C.1 C.2.1 q1 (by omega) (fun q => Nat.not_le.mpr q2 q) hS hx hd (k.2 p e RM s m args below meth c H locs lsA cells slots C hL hr hS h1 h2)
theorem g_scrLen {L : Nat} {xs : Nat → Int32} (hX : aScr G L xs) (hd : decode (mC M) pc = .ok (.arraylength, 1)) (k : AG G M (pc + 1) ls (.int (Int32.ofNat L) :: st) h R) : AG G M pc ls (.ref 0 :: st) h R := by
  refine ⟨k.1, fun p e RM s m args below meth c H locs lsA cells slots C hL hr hS h1 h2 => ?_⟩
  have hZ := C.2.2.2.2.2.2.2.2.2.2.2.1
  obtain ⟨q1, q2⟩ := hX s s.heap hZ.2.2.2
  have hB : gB G ≤ s.heap.size := C.2.2.2.2.2.2.2.2.2.2.2.2
  exact va_slen (b := gO G 0) C.1 C.2.1 q1 (by omega) (fun q => Nat.not_le.mpr q2 q) hS hd (k.2 p e RM s m args below meth c H locs lsA cells slots C hL hr hS h1 h2)
end
end
