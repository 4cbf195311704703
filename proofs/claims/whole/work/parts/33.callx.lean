/-! ===== calls that throw, in methods without handlers ===== -/
section
variable {G : aG} {M M' : aM} {pc : Nat} {ls : List (Option Value)} {st : List Value} {h h' : aH}
theorem aOutX {p : Program} {e : Env} {RM : Room} {s : State} {m : MethodId} {args : Array Value} {below : List Frame} {meth : Method} {c : Code} {H : Heap} {locs : List Loc} {lsA : Array Slot} {cells slots : Nat} {E : String} {as : Array Value} {st0 : List Value}
    (C : aCtx G M p RM s m args meth c) (hH : mH M = []) (hS : va_S (aA G) s.heap H locs)
    (run : vx_Run p (gL G) e RM s m args below meth c H locs cells slots (aDc h (.inr E, h')) (aDs h (.inr E, h')) (F0 m pc lsA st0) (st.map (sv G)) (aQr G (.inr E, h') as) (aQx G (.inr E, h')) (aA G)) :
    W p (gL G) e RM s m args below meth c H locs cells slots (vx_MQ below (aQr G (.inr E, h')) (aQx G (.inr E, h')) args s (cells + aDc h (.inr E, h')) (slots + aDs h (.inr E, h')) (aA G)) (F0 m pc lsA st0) := by
  intro T hT X
  rcases run T hT X with ⟨v, st₀, t, T', L, h0, X', hL', e1, e2, hq, stp⟩ | ⟨q, st₀, t, T', L, E', ce, h0, X', hL', e1, e2, ⟨rfl, hx2, hx3⟩, hce, hcv, hcl, stp⟩
  · exact absurd hq (fun z => z)
  · obtain ⟨hz, hk⟩ := hx3
    rw [h0] at hz hk
    have hS' : va_S (aA G) s.heap T'.heap (locs ++ L) := ⟨Nat.le_trans hS.1 (by rw [e1]; exact hz), fun q a1 a2 => by rw [e1, hk q (Nat.lt_of_lt_of_le a1 hS.1) a2]; exact hS.2.1 q a1 a2, fun q hq => by
      rcases List.mem_append.mp hq with a | a
      · exact hS.2.2 q a
      · exact hL' q a⟩
    obtain ⟨t2, a1, b1⟩ := vx_out (H := T'.heap) (pc := pc) (ls := lsA) (rest := st.map (sv G)) (Qc := aQr G (.inr E', h')) (XC := aQx G (.inr E', h')) (E := E') (ce := ce) (q := q)
      (by rw [C.2.2.2.2.2.2.2.2.1, hH]; exact fun x hx => absurd hx List.not_mem_nil) C.2.2.2.2.2.2.1 (by rw [e1]; exact hce) hcv hcl (fun t9 ht9 _ => ⟨rfl, by rw [ht9, e1]; exact hx2, hS'.F ht9⟩) hS'.2.2 (Nat.le_refl _) (Nat.le_refl _) T' rfl X'
    exact ⟨t2, stp.trans a1, b1⟩
theorem g_callVX {index n b ci : Nat} {as : List Value} {fs : List Value} {E : String} (hl : Cond.methodLink (mY M).cls index (mY M') ∈ aW) (hc : aCalV M' n) (hD : mD M' < mD M) (hH : mH M = []) (ha : AC G M' (.ref b :: as) h (.inr E, h')) (hn : as.length = n) (hb : 40 ≤ b) (he : h[b]? = some (some (.inr (ci, fs)))) (hcl : ∃ T N, vwCl[ci]? = some ((mY M').cls, T, N)) (hst : aWd st ≤ 8)
    (hd : decode (mC M) pc = .ok (.invokevirtual index, 3)) : AG G M pc ls (as.reverse ++ .ref b :: st) h (.inr E, h') := by
  refine ⟨ha.1, fun p e RM s m args below meth c H locs lsA cells slots C hL hr hS h1 h2 => ?_⟩
  have hK := C.2.2.2.2.2.2.2.2.2.2.2.1
  obtain ⟨T9, N9, hcl⟩ := hcl
  rw [aMap_rev]
  have hP := hr.P1 hb he
  have S : CallFix p m c (mC M) (mN M) s args aW (mY M).cls := ⟨C.1, C.2.1, C.2.2.2.1, C.2.2.2.2.1, C.2.2.2.2.2.1⟩
  have hp : PreV s H (mY M').cls (ad G b) (aPc G (.ref b :: as) h) (as.map (sv G)) := ⟨aPc.blind, va_recv hK.1 hP hcl (q0 := 0) rfl, fun U hU hW => aPc.at hK hS hr U hU hW⟩
  exact aOutX C hH hS (vx_runV (g := F0 m pc lsA _) S ha.2 ⟨aCallB C hD hc.1 hl, C.2.2.2.2.2.1 _ hc.2.1, C.2.2.2.2.2.1 _ hc.2.2⟩ hp rfl (by rw [List.length_map]; exact hn) hL.2.1 rfl (aWd_room hst) hd ⟨h1, h2⟩)
theorem g_callSX {index n : Nat} {as : List Value} {E : String} (hl : Cond.methodLink (mY M).cls index (mY M') ∈ aW) (hc : aCalS M' n) (hD : mD M' < mD M) (hH : mH M = []) (ha : AC G M' as h (.inr E, h')) (hn : as.length = n) (hst : aWd st ≤ 8)
    (hd : decode (mC M) pc = .ok (.invokestatic index, 3)) : AG G M pc ls (as.reverse ++ st) h (.inr E, h') := by
  refine ⟨ha.1, fun p e RM s m args below meth c H locs lsA cells slots C hL hr hS h1 h2 => ?_⟩
  have hK := C.2.2.2.2.2.2.2.2.2.2.2.1
  rw [aMap_revS]
  have S : CallFix p m c (mC M) (mN M) s args aW (mY M).cls := ⟨C.1, C.2.1, C.2.2.2.1, C.2.2.2.2.1, C.2.2.2.2.2.1⟩
  have hp : PreS s H (aPc G as h) (as.map (sv G)) := ⟨aPc.blind, fun U hU hW => aPc.at hK hS hr U hU hW⟩
  exact aOutX C hH hS (vx_runS (g := F0 m pc lsA _) S ha.2 ⟨aCallB C hD hc.1 hl, C.2.2.2.2.2.1 _ hc.2⟩ hp rfl (by rw [List.length_map]; exact hn) hL.2.1 rfl (aWd_room hst) hd ⟨h1, h2⟩)
theorem aLink.plain {own : String} {index : Nat} {y : MethodName} (i : Nat) (hi : lw_tbl[i]? = some (Cond.methodLink own index y)) : Cond.methodLink own index y ∈ aW := aIn1 i hi rfl
end
