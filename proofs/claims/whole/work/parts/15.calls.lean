/-! ===== rules of AG: calls ===== -/
theorem AC.met {G : aG} {M : aM} {as : List Value} {h h' : aH} {v : Option Value} (hc : AC G M as h (.inl v, h')) : Met (gL G) (mY M) (aWs M) (aRm M h (.inl v, h')) (aPc G as h) (aQr G (.inl v, h')) (aDc h (.inl v, h')) (aDs h (.inl v, h')) (aA G) := by
  intro p e h1 h2 h3 s m args below h4 h5 h6 h7
  obtain ⟨n, o, a1, a2, a3, a4⟩ := hc.2 p e h1 h2 h3 s m args below h4 h5 h6 h7
  refine ⟨n, o, a1, a2, a3, ?_⟩
  rcases a4 with a4 | ⟨q, -, E, ce, L, hx, -⟩
  · exact a4
  · exact absurd hx (fun z => z)
/-- the entry 'index' of own's pool names the method y -/
def aLink (own : String) (index : Nat) (y : MethodName) : Prop := Cond.methodLink own index y ∈ aW ∨ ∃ host : String, Cond.methodLinkNest own index y host ∈ lw_tbl
/-- a method that can be called, with n arguments -/
def aCal (M : aM) (n : Nat) : Prop := Cond.code (mY M) (mC M) (mN M) (mR M) ∈ aW ∧ Cond.initialized (mY M).cls ∈ aW ∧ ((mY M).cls ≠ "java/lang/invoke/MethodHandle" ∧ (mY M).cls ≠ "java/lang/invoke/VarHandle") ∧ (parseMethodDescriptor (mY M).desc).map (fun d => d.parameters.length) = some n ∧ mN M ≤ 45
def aCalV (M : aM) (n : Nat) : Prop := aCal M n ∧ Cond.instanceMethod (mY M) ∈ aW ∧ Cond.selects (mY M).cls (mY M) (mY M) ∈ aW
def aCalI (M : aM) (n : Nat) : Prop := aCal M n ∧ (mY M).name = "<init>" ∧ Cond.instanceMethod (mY M) ∈ aW ∧ mR M = none
def aCalS (M : aM) (n : Nat) : Prop := aCal M n ∧ Cond.static (mY M) ∈ aW
theorem aCal.len {M : aM} {n : Nat} (h : aCal M n) : ∀ sig, parseMethodDescriptor (mY M).desc = some sig → n = sig.parameters.length := fun sig hs => by
  have h2 := h.2.2.2.1
  rw [hs] at h2
  exact (Option.some.inj h2).symm
section
variable {G : aG} {M M' : aM} {pc : Nat} {ls : List (Option Value)} {st : List Value} {h h' : aH} {R : aR}
theorem aDc_call {v : Option Value ⊕ String} (h1 : aLe h h') (h2 : aLe h' R.2) (n : Nat) : n + aDc h (v, h') + aDc h' R = n + aDc h R := by
  have := h1.1
  have := h2.1
  simp only [aDc]
  omega
theorem aDs_call {v : Option Value ⊕ String} (h1 : aLe h h') (h2 : aLe h' R.2) (n : Nat) : n + aDs h (v, h') + aDs h' R = n + aDs h R := by
  have := h1.2
  have := h2.2
  simp only [aDs]
  omega
theorem aDc_fit {v : Option Value ⊕ String} {n k : Nat} (h1 : aLe h h') (h2 : aLe h' R.2) (hn : n + aDc h R ≤ k) : n + aDc h (v, h') ≤ k := by
  have e : n + aDc h (v, h') + aDc h' R = n + aDc h R := aDc_call h1 h2 n
  omega
theorem aDs_fit {v : Option Value ⊕ String} {n k : Nat} (h1 : aLe h h') (h2 : aLe h' R.2) (hn : n + aDs h R ≤ k) : n + aDs h (v, h') ≤ k := by
  have e : n + aDs h (v, h') + aDs h' R = n + aDs h R := aDs_call h1 h2 n
  omega
/-- words and room of a call -/
theorem aCallB {p : Program} {RM : Room} {s : State} {m : MethodId} {args : Array Value} {meth : Method} {c : Code} {R' : aR} {n index : Nat} (C : aCtx G M p RM s m args meth c) (hD : mD M' < mD M) (hc : aCal M' n) (hl : Cond.methodLink (mY M).cls index (mY M') ∈ aW) :
    CallB RM s args (mY M).cls index (mY M') (mC M') (mN M') (mR M') (aWs M') (aRm M' h R') (aDc h R') (aDs h R') n := by
  have hts := C.2.2.2.2.2.1
  have hfr := C.2.2.2.2.2.2.2.2.2.1
  have hlo := C.2.2.2.2.2.2.2.2.2.2.1
  have h45 := hc.2.2.2.2
  refine ⟨rfl, rfl, ?_, ?_, fun w hw => ?_, List.mem_cons_self, hts _ hc.1, hts _ hc.2.1, hc.2.2.1, hc.len, hts _ hl⟩
  · show mD M' + 1 ≤ _
    omega
  · show 8 + (mN M' + 11) + 64 * mD M' ≤ _
    omega
  · rcases List.mem_cons.mp hw with rfl | hw
    · exact aW_pay hts _ hc.1
    · exact aW_pay hts _ hw
theorem aCallN {p : Program} {RM : Room} {s : State} {m : MethodId} {args : Array Value} {meth : Method} {c : Code} {R' : aR} {n index : Nat} {host : String} (C : aCtx G M p RM s m args meth c) (hD : mD M' < mD M) (hc : aCal M' n) (hl : Cond.methodLinkNest (mY M).cls index (mY M') host ∈ lw_tbl) :
    va_CN RM s args (mY M).cls index (mY M') host (mC M') (mN M') (mR M') (aWs M') (aRm M' h R') (aDc h R') (aDs h R') n := by
  have hts := C.2.2.2.2.2.1
  have hfr := C.2.2.2.2.2.2.2.2.2.1
  have hlo := C.2.2.2.2.2.2.2.2.2.2.1
  have h45 := hc.2.2.2.2
  refine ⟨⟨rfl, rfl, ?_, ?_, fun w hw => ?_, List.mem_cons_self⟩, hts _ hc.1, hts _ hc.2.1, hc.2.2.1, hc.len, va_Nw.use rfl (C.2.2.2.2.2.2.2.2.2.2.2.1.2.1 _ hl rfl)⟩
  · show mD M' + 1 ≤ _
    omega
  · show 8 + (mN M' + 11) + 64 * mD M' ≤ _
    omega
  · rcases List.mem_cons.mp hw with rfl | hw
    · exact aW_pay hts _ hc.1
    · exact aW_pay hts _ hw
theorem aWd_room {m : MethodId} {pc : Nat} {lsA : Array Slot} {st0 : List Value} (hst : aWd st ≤ 8) : 2 * (F0 m pc lsA st0).monitorRoom + ((st.map (sv G)).map fun v => v.category).sum ≤ 8 := by
  rw [aWd_sv]
  show 2 * 0 + _ ≤ _
  omega
theorem aMap_rev (G : aG) (as : List Value) (b : Nat) (st : List Value) : (as.reverse ++ .ref b :: st).map (sv G) = (as.map (sv G)).reverse ++ .ref (ad G b) :: st.map (sv G) := by
  rw [List.map_append, List.map_reverse]
  rfl
theorem aMap_revS (G : aG) (as : List Value) (st : List Value) : (as.reverse ++ st).map (sv G) = (as.map (sv G)).reverse ++ st.map (sv G) := by
  rw [List.map_append, List.map_reverse]
/-- behind a call that returns -/
theorem aAfter {p : Program} {e : Env} {RM : Room} {s : State} {m : MethodId} {args : Array Value} {below : List Frame} {meth : Method} {c : Code} {H : Heap} {locs : List Loc} {lsA : Array Slot} {cells slots : Nat} {v : Option Value} {as : Array Value} {st0 : List Value}
    (C : aCtx G M p RM s m args meth c) (hL : aL G (mN M) ls lsA) (hS : va_S (aA G) s.heap H locs) (h1 : cells + aDc h R ≤ RM.cells) (h2 : slots + aDs h R ≤ RM.slots) (hle : aLe h h') (k : AG G M (pc + 3) ls (v.toList ++ st) h' R)
    (run : va_Run p (gL G) e RM s m args below meth c H locs cells slots (aDc h (.inl v, h')) (aDs h (.inl v, h')) (F0 m pc lsA st0) (st.map (sv G)) (aQr G (.inl v, h') as) (aA G)) :
    W p (gL G) e RM s m args below meth c H locs cells slots (vx_MQ below (aQr G R) (aQx G R) args s (cells + aDc h R) (slots + aDs h R) (aA G)) (F0 m pc lsA st0) := by
  intro T hT X
  obtain ⟨v', st₀, t, T', L, h0, X', hL', e1, e2, ⟨q1, q2, q3⟩, stp⟩ := run T hT X
  have ev : v' = v.map (sv G) := Outcome.returned.inj q1
  subst ev
  obtain ⟨hz, hk⟩ := q3
  rw [h0] at hz hk
  have hS' : va_S (aA G) s.heap T'.heap (locs ++ L) := ⟨Nat.le_trans hS.1 (by rw [e1]; exact hz), fun q a1 a2 => by rw [e1, hk q (Nat.lt_of_lt_of_le a1 hS.1) a2]; exact hS.2.1 q a1 a2, fun q hq => by
    rcases List.mem_append.mp hq with a | a
    · exact hS.2.2 q a
    · exact hL' q a⟩
  rw [← aDc_call (v := .inl v) hle k.1, ← aDs_call (v := .inl v) hle k.1]
  rw [← aDc_call (v := .inl v) hle k.1] at h1
  rw [← aDs_call (v := .inl v) hle k.1] at h2
  obtain ⟨t2, a1, b1⟩ := k.2 p e RM s m args below meth c T'.heap (locs ++ L) lsA _ _ C hL (by rw [e1]; exact q2) hS' h1 h2 T' rfl X'
  refine ⟨t2, stp t2 ?_, b1⟩
  have ee : (v.toList ++ st).map (sv G) = (v.map (sv G)).toList ++ st.map (sv G) := by cases v <;> rfl
  rw [ee] at a1
  exact a1
theorem g_callV {index n b ci : Nat} {as : List Value} {v : Option Value} {fs : List Value} (hl : aLink (mY M).cls index (mY M')) (hc : aCalV M' n) (hD : mD M' < mD M) (ha : AC G M' (.ref b :: as) h (.inl v, h')) (hn : as.length = n) (hb : 40 ≤ b) (he : h[b]? = some (some (.inr (ci, fs)))) (hcl : ∃ T N, vwCl[ci]? = some ((mY M').cls, T, N)) (hst : aWd st ≤ 8)
    (hd : decode (mC M) pc = .ok (.invokevirtual index, 3)) (k : AG G M (pc + 3) ls (v.toList ++ st) h' R) : AG G M pc ls (as.reverse ++ .ref b :: st) h R := by
  refine ⟨ha.1.tr k.1, fun p e RM s m args below meth c H locs lsA cells slots C hL hr hS h1 h2 => ?_⟩
  have hK := C.2.2.2.2.2.2.2.2.2.2.2.1
  obtain ⟨T9, N9, hcl⟩ := hcl
  rw [aMap_rev]
  have hP := hr.P1 hb he
  have hf : cells + aDc h (.inl v, h') ≤ RM.cells ∧ slots + aDs h (.inl v, h') ≤ RM.slots := ⟨aDc_fit ha.1 k.1 h1, aDs_fit ha.1 k.1 h2⟩
  have S : CallFix p m c (mC M) (mN M) s args aW (mY M).cls := ⟨C.1, C.2.1, C.2.2.2.1, C.2.2.2.2.1, C.2.2.2.2.2.1⟩
  have hp : PreV s H (mY M').cls (ad G b) (aPc G (.ref b :: as) h) (as.map (sv G)) := ⟨aPc.blind, va_recv hK.1 hP hcl (q0 := 0) rfl, fun U hU hW => aPc.at hK hS hr U hU hW⟩
  rcases hl with hl | ⟨host, hl⟩
  · exact aAfter C hL hS h1 h2 ha.1 k (va_runV (g := F0 m pc lsA _) S ha.met ⟨aCallB C hD hc.1 hl, C.2.2.2.2.2.1 _ hc.2.1, C.2.2.2.2.2.1 _ hc.2.2⟩ hp rfl (by rw [List.length_map]; exact hn) hL.2.1 rfl (aWd_room hst) hd hf)
  · exact aAfter C hL hS h1 h2 ha.1 k (va_runVN (g := F0 m pc lsA _) S ha.met ⟨aCallN C hD hc.1 hl, C.2.2.2.2.2.1 _ hc.2.1, C.2.2.2.2.2.1 _ hc.2.2⟩ hp rfl (by rw [List.length_map]; exact hn) hL.2.1 rfl (aWd_room hst) hd hf)
theorem g_callS {index n : Nat} {as : List Value} {v : Option Value} (hl : aLink (mY M).cls index (mY M')) (hc : aCalS M' n) (hD : mD M' < mD M) (ha : AC G M' as h (.inl v, h')) (hn : as.length = n) (hst : aWd st ≤ 8)
    (hd : decode (mC M) pc = .ok (.invokestatic index, 3)) (k : AG G M (pc + 3) ls (v.toList ++ st) h' R) : AG G M pc ls (as.reverse ++ st) h R := by
  refine ⟨ha.1.tr k.1, fun p e RM s m args below meth c H locs lsA cells slots C hL hr hS h1 h2 => ?_⟩
  have hK := C.2.2.2.2.2.2.2.2.2.2.2.1
  rw [aMap_revS]
  have hf : cells + aDc h (.inl v, h') ≤ RM.cells ∧ slots + aDs h (.inl v, h') ≤ RM.slots := ⟨aDc_fit ha.1 k.1 h1, aDs_fit ha.1 k.1 h2⟩
  have S : CallFix p m c (mC M) (mN M) s args aW (mY M).cls := ⟨C.1, C.2.1, C.2.2.2.1, C.2.2.2.2.1, C.2.2.2.2.2.1⟩
  have hp : PreS s H (aPc G as h) (as.map (sv G)) := ⟨aPc.blind, fun U hU hW => aPc.at hK hS hr U hU hW⟩
  rcases hl with hl | ⟨host, hl⟩
  · exact aAfter C hL hS h1 h2 ha.1 k (va_runS (g := F0 m pc lsA _) S ha.met ⟨aCallB C hD hc.1 hl, C.2.2.2.2.2.1 _ hc.2⟩ hp rfl (by rw [List.length_map]; exact hn) hL.2.1 rfl (aWd_room hst) hd hf)
  · exact aAfter C hL hS h1 h2 ha.1 k (va_runSN (g := F0 m pc lsA _) S ha.met ⟨aCallN C hD hc.1 hl, C.2.2.2.2.2.1 _ hc.2, trivial⟩ hp rfl (by rw [List.length_map]; exact hn) hL.2.1 rfl (aWd_room hst) hd hf)
theorem g_callI {index n b : Nat} {as : List Value} (hl : aLink (mY M).cls index (mY M')) (hc : aCalI M' n) (hD : mD M' < mD M) (ha : AC G M' (.ref b :: as) h (.inl none, h')) (hn : as.length = n) (hst : aWd st ≤ 8)
    (hd : decode (mC M) pc = .ok (.invokespecial index, 3)) (k : AG G M (pc + 3) ls st h' R) : AG G M pc ls (as.reverse ++ .ref b :: st) h R := by
  refine ⟨ha.1.tr k.1, fun p e RM s m args below meth c H locs lsA cells slots C hL hr hS h1 h2 => ?_⟩
  have hK := C.2.2.2.2.2.2.2.2.2.2.2.1
  rw [aMap_rev]
  have hf : cells + aDc h (.inl none, h') ≤ RM.cells ∧ slots + aDs h (.inl none, h') ≤ RM.slots := ⟨aDc_fit ha.1 k.1 h1, aDs_fit ha.1 k.1 h2⟩
  have S : CallFix p m c (mC M) (mN M) s args aW (mY M).cls := ⟨C.1, C.2.1, C.2.2.2.1, C.2.2.2.2.1, C.2.2.2.2.2.1⟩
  have hp : PreS s H (aPc G (.ref b :: as) h) (.ref (ad G b) :: as.map (sv G)) := ⟨aPc.blind, fun U hU hW => aPc.at (as := .ref b :: as) hK hS hr U hU hW⟩
  have hR := hc.2.2.2
  rcases hl with hl | ⟨host, hl⟩
  · have cb := aCallB (R' := (.inl none, h')) (h := h) C hD hc.1 hl
    rw [hR] at cb
    exact aAfter (v := none) C hL hS h1 h2 ha.1 k (va_runI (g := F0 m pc lsA _) S ha.met ⟨cb, hc.2.1, C.2.2.2.2.2.1 _ hc.2.2.1⟩ hp rfl (by rw [List.length_map]; exact hn) hL.2.1 rfl (aWd_room hst) hd hf)
  · have cb := aCallN (R' := (.inl none, h')) (h := h) C hD hc.1 hl
    rw [hR] at cb
    exact aAfter (v := none) C hL hS h1 h2 ha.1 k (va_runIN (g := F0 m pc lsA _) S ha.met ⟨cb, hc.2.1, C.2.2.2.2.2.1 _ hc.2.2.1⟩ hp rfl (by rw [List.length_map]; exact hn) hL.2.1 rfl (aWd_room hst) hd hf)
end
