section
/-! ===== a wrapper's call, over the law's heap ===== -/
def WR (G : aG) (M : aM) (as : List Value) (F : aF) (o : wO) (n s : Nat) (wx wm : wS) (u : Nat → Int64) (om : Option (Int32 × wS)) (t : Tn) (val : Int32 → Int64) : Prop := ∃ (w' : wS) (rm : Int32 × wS) (F1 : aF) (n1 s1 : Nat) (u1 : Nat → Int64) (k : Int32), om = some rm ∧ LH F1 o n1 s1 ∧ (n1 ≤ n + 1 ∧ s1 ≤ s + 6) ∧ ACH G M as (F wx wm u) (.inl (some (.int k)), F1 w' wm u1) ∧ (∃ z', RR t z' o w' rm.2) ∧ rm.2.1 0 = k ∧ (k = 0 → u1 0 = val rm.1)
theorem WR.of {G : aG} {M : aM} {as : List Value} {F : aF} {o : wO} {n s : Nat} {wx wm : wS} {u : Nat → Int64} {om : Option (Int32 × wS)} {t : Tn} {val : Int32 → Int64} {cd : String → Nat} {rx : (Int32 ⊕ String) × wS} {rm : Int32 × wS} (h : LH F o n s) (hm : om = some rm) (hq : RA t o cd rx rm) (hcd : ∀ E, E = cNo ∨ E = cIl → cd E = 1 ∨ cd E = 2)
    (hv : ∀ v w', rx = (.inl v, w') → ACH G M as (F wx wm u) (.inl (some (.int 0)), (F w' wm u).set 132 (aU (vp_updL u (0 : Int32).toNatClampNeg (val v)))))
    (hE : ∀ E w', rx = (.inr E, w') → E = cNo ∨ E = cIl → ACH G M as (F wx wm u) (.inl (some (.int (nI (cd E)))), F w' wm u ++ [none])) : WR G M as F o n s wx wm u om t val := by
  obtain ⟨x, w'⟩ := rx
  cases x with
  | inl v =>
    obtain ⟨⟨z', hz⟩, q1, q2⟩ : (∃ z, RR t z o w' rm.2) ∧ rm.2.1 0 = nI 0 ∧ rm.1 = v := hq
    have ha := hv v w' rfl
    rw [h.2.2.2.1] at ha
    refine ⟨w', rm, F, n, s, _, 0, hm, h, ⟨by omega, by omega⟩, ha, ⟨z', hz⟩, q1, fun _ => ?_⟩
    rw [q2]
    rfl
  | inr E =>
    obtain ⟨⟨z', hz⟩, q1, q2⟩ : (∃ z, RR t z o w' rm.2) ∧ (E = cNo ∨ E = cIl) ∧ rm.2.1 0 = nI (cd E) := hq
    have ha := hE E w' rfl q1
    refine ⟨w', rm, _, _, _, u, nI (cd E), hm, h.app [none], ⟨?_, ?_⟩, ha, ⟨z', hz⟩, q2, fun q => ?_⟩
    · show n + 1 ≤ n + 1
      omega
    · show s + (6 + 0) ≤ s + 6
      omega
    · exfalso
      rcases hcd E q1 with e | e
      · rw [e] at q; exact absurd q (by decide)
      · rw [e] at q; exact absurd q (by decide)
theorem cdN_2 : ∀ E, E = cNo ∨ E = cIl → cdN E = 1 ∨ cdN E = 2 := fun E _ => by
  unfold cdN
  by_cases h : E = cNo
  · rw [if_pos h]; exact Or.inl rfl
  · rw [if_neg h]; exact Or.inr rfl
theorem cd1_2 : ∀ E, E = cNo ∨ E = cIl → cd1 E = 1 ∨ cd1 E = 2 := fun E _ => Or.inl rfl
theorem cdN_N : cdN cNo = 1 := if_pos rfl
theorem cdN_I : cdN cIl = 2 := if_neg (by decide)
theorem wr_count {G : aG} {F : aF} {o : wO} {n s : Nat} {wx wm : wS} {u : Nat → Int64} {t : Tn} {z : Sy} {a1 : Int32} (hG : aGood G) (hN : aNc G) (h : LH F o n s) (r : RR t z o wx wm) : WR G ML_count [.ref 40, .int a1, .ref 132] F o n s wx wm u (L_X10_count a1 wm) t Int32.toInt64 := by
  obtain ⟨rx, rm, e1, e2, hq⟩ := q_count (a1 := a1) r
  have ha := C_X9_count hG (h.1 wm u) e1
  have hx := (h.1 wm u).1.2.1 wx 0 _ rfl
  refine WR.of h e2 hq cd1_2 (fun v w' ev => ?_) (fun E w' ev hE => ?_)
  · subst ev
    exact w0_count ha hx (h.2.2.1 _ _ _)
  · have e9 : E = cNo := (eN_L_X9_count).1 _ e1 E (by rw [ev])
    subst ev
    subst e9
    exact wN_count hN ha hx
theorem wr_person {G : aG} {F : aF} {o : wO} {n s : Nat} {wx wm : wS} {u : Nat → Int64} {t : Tn} {z : Sy} {a1 a2 : Int32} (hG : aGood G) (hN : aNc G) (h : LH F o n s) (r : RR t z o wx wm) : WR G ML_person [.ref 40, .int a1, .int a2, .ref 132] F o n s wx wm u (L_X10_person a1 a2 wm) t Int32.toInt64 := by
  obtain ⟨rx, rm, e1, e2, hq⟩ := q_person (a1 := a1) (a2 := a2) r.1
  have hq := hq.RA r
  have ha := C_X9_person hG (h.1 wm u) e1
  have hx := (h.1 wm u).1.2.1 wx 0 _ rfl
  refine WR.of h e2 hq cdN_2 (fun v w' ev => ?_) (fun E w' ev hE => ?_)
  · subst ev
    exact w0_person ha hx (h.2.2.1 _ _ _)
  · have e9 : E = cNo := (eN_L_X9_person).1 _ e1 E (by rw [ev])
    subst ev
    subst e9
    rw [cdN_N]
    exact wN_person hN ha hx
theorem wr_duty {G : aG} {F : aF} {o : wO} {n s : Nat} {wx wm : wS} {u : Nat → Int64} {t : Tn} {z : Sy} {a1 a2 : Int32} (hG : aGood G) (hN : aNc G) (h : LH F o n s) (r : RR t z o wx wm) : WR G ML_duty [.ref 40, .int a1, .int a2, .ref 132] F o n s wx wm u (L_X10_duty a1 a2 wm) t Int32.toInt64 := by
  obtain ⟨rx, rm, e1, e2, hq⟩ := q_duty (a1 := a1) (a2 := a2) r.1
  have hq := hq.RA r
  have ha := C_X9_duty hG (h.1 wm u) e1
  have hx := (h.1 wm u).1.2.1 wx 0 _ rfl
  refine WR.of h e2 hq cdN_2 (fun v w' ev => ?_) (fun E w' ev hE => ?_)
  · subst ev
    exact w0_duty ha hx (h.2.2.1 _ _ _)
  · have e9 : E = cNo := (eN_L_X9_duty).1 _ e1 E (by rw [ev])
    subst ev
    subst e9
    rw [cdN_N]
    exact wN_duty hN ha hx
theorem wr_hurry {G : aG} {F : aF} {o : wO} {n s : Nat} {wx wm : wS} {u : Nat → Int64} {t : Tn} {z : Sy} {a1 a2 : Int32} (hG : aGood G) (hN : aNc G) (h : LH F o n s) (r : RR t z o wx wm) : WR G ML_hurry [.ref 40, .int a1, .int a2, .ref 132] F o n s wx wm u (L_X10_hurry a1 a2 wm) t Int32.toInt64 := by
  obtain ⟨rx, rm, e1, e2, hq⟩ := q_hurry (a1 := a1) (a2 := a2) r
  have ha := C_X9_hurry hG (h.1 wm u) e1
  have hx := (h.1 wm u).1.2.1 wx 0 _ rfl
  refine WR.of h e2 hq cdN_2 (fun v w' ev => ?_) (fun E w' ev hE => ?_)
  · subst ev
    exact w0_hurry ha hx (h.2.2.1 _ _ _)
  · have e9 : E = cNo := (eN_L_X9_hurry).1 _ e1 E (by rw [ev])
    subst ev
    subst e9
    rw [cdN_N]
    exact wN_hurry hN ha hx
theorem wr_ill {G : aG} {F : aF} {o : wO} {n s : Nat} {wx wm : wS} {u : Nat → Int64} {t : Tn} {z : Sy} {a1 : Int32} {a : Nat} (hA : a ≤ 1) (hG : aGood G) (hN : aNc G) (h : LH F o n s) (r : RR t z o wx wm) : WR G ML_ill [.ref 40, .int a1, .int (nI a), .ref 132] F o n s wx wm u (L_X10_ill a1 (nI a) wm) t (fun v => if v = 0 then 0 else 1) := by
  obtain ⟨rx, rm, e1, e2, hq⟩ := q_ill (a1 := a1) r hA
  have ha := C_X9_ill hG (h.1 wm u) e1
  have hx := (h.1 wm u).1.2.1 wx 0 _ rfl
  refine WR.of h e2 hq cdN_2 (fun v w' ev => ?_) (fun E w' ev hE => ?_)
  · subst ev
    exact w0_ill ha hx (h.2.2.1 _ _ _)
  · have e9 : E = cNo := (eN_L_X9_ill).1 _ e1 E (by rw [ev])
    subst ev
    subst e9
    rw [cdN_N]
    exact wN_ill hN ha hx
theorem wr_appoint {G : aG} {F : aF} {o : wO} {n s : Nat} {wx wm : wS} {u : Nat → Int64} {t : Tn} {z : Sy} {a1 : Int32} (hG : aGood G) (hN : aNc G) (h : LH F o n s) (r : RR t z o wx wm) : WR G ML_appoint [.ref 40, .int a1, .ref 132] F o n s wx wm u (L_X10_appoint a1 wm) t Int32.toInt64 := by
  obtain ⟨rx, rm, e1, e2, hq⟩ := q_appoint (a1 := a1) r
  have ha := C_X9_appoint hG (h.1 wm u) e1
  have hx := (h.1 wm u).1.2.1 wx 0 _ rfl
  refine WR.of h e2 hq cdN_2 (fun v w' ev => ?_) (fun E w' ev hE => ?_)
  · subst ev
    exact w0_appoint ha hx (h.2.2.1 _ _ _)
  · have e9 : E = cNo := (eN_L_X9_appoint).1 _ e1 E (by rw [ev])
    subst ev
    subst e9
    rw [cdN_N]
    exact wN_appoint hN ha hx
theorem wr_due {G : aG} {F : aF} {o : wO} {n s : Nat} {wx wm : wS} {u : Nat → Int64} {t : Tn} {z : Sy} {a1 a2 : Int32} (hG : aGood G) (hN : aNc G) (h : LH F o n s) (r : RR t z o wx wm) : WR G ML_due [.ref 40, .int a1, .int a2, .ref 132] F o n s wx wm u (L_X10_due a1 a2 wm) t Int32.toInt64 := by
  obtain ⟨rx, rm, e1, e2, hq⟩ := q_due (a1 := a1) (a2 := a2) r
  have ha := C_X9_due hG (h.1 wm u) e1
  have hx := (h.1 wm u).1.2.1 wx 0 _ rfl
  refine WR.of h e2 hq cdN_2 (fun v w' ev => ?_) (fun E w' ev hE => ?_)
  · subst ev
    exact w0_due ha hx (h.2.2.1 _ _ _)
  · have e9 : E = cNo := (eN_L_X9_due).1 _ e1 E (by rw [ev])
    subst ev
    subst e9
    rw [cdN_N]
    exact wN_due hN ha hx
theorem wr_then {G : aG} {F : aF} {o : wO} {n s : Nat} {wx wm : wS} {u : Nat → Int64} {t : Tn} {z : Sy} {a1 a2 a3 : Int32} (hG : aGood G) (hN : aNc G) (h : LH F o n s) (r : RR t z o wx wm) : WR G ML_then [.ref 40, .int a1, .int a2, .int a3, .ref 132] F o n s wx wm u (L_X10_then a1 a2 a3 wm) t Int32.toInt64 := by
  obtain ⟨rx, rm, e1, e2, hq⟩ := q_then (a1 := a1) (a2 := a2) (a3 := a3) r.1
  have hq := hq.RA r
  have ha := C_X9_then hG (h.1 wm u) e1
  have hx := (h.1 wm u).1.2.1 wx 0 _ rfl
  refine WR.of h e2 hq cdN_2 (fun v w' ev => ?_) (fun E w' ev hE => ?_)
  · subst ev
    exact w0_then ha hx (h.2.2.1 _ _ _)
  · subst ev
    rcases hE with rfl | rfl
    · rw [cdN_N]; exact wN_then hN ha hx
    · rw [cdN_I]; exact wI_then hN ha hx
theorem wr_later {G : aG} {F : aF} {o : wO} {n s : Nat} {wx wm : wS} {u : Nat → Int64} {t : Tn} {z : Sy} {a1 a2 a3 : Int32} (hG : aGood G) (hN : aNc G) (h : LH F o n s) (r : RR t z o wx wm) : WR G ML_later [.ref 40, .int a1, .int a2, .int a3, .ref 132] F o n s wx wm u (L_X10_later a1 a2 a3 wm) t Int32.toInt64 := by
  obtain ⟨rx, rm, e1, e2, hq⟩ := q_later (a1 := a1) (a2 := a2) (a3 := a3) r.1
  have hq := hq.RA r
  have ha := C_X9_later hG (h.1 wm u) e1
  have hx := (h.1 wm u).1.2.1 wx 0 _ rfl
  refine WR.of h e2 hq cdN_2 (fun v w' ev => ?_) (fun E w' ev hE => ?_)
  · subst ev
    exact w0_later ha hx (h.2.2.1 _ _ _)
  · subst ev
    rcases hE with rfl | rfl
    · rw [cdN_N]; exact wN_later hN ha hx
    · rw [cdN_I]; exact wI_later hN ha hx
theorem wr_first {G : aG} {F : aF} {o : wO} {n s : Nat} {wx wm : wS} {u : Nat → Int64} {t : Tn} {z : Sy} {a1 : Int32} (hG : aGood G) (hN : aNc G) (h : LH F o n s) (r : RR t z o wx wm) : WR G ML_first [.ref 40, .int a1, .ref 132] F o n s wx wm u (L_X10_first a1 wm) t Int32.toInt64 := by
  obtain ⟨rx, rm, e1, e2, hq⟩ := q_first (a1 := a1) r.1
  have hq := hq.RA r
  have ha := C_X9_first hG (h.1 wm u) e1
  have hx := (h.1 wm u).1.2.1 wx 0 _ rfl
  refine WR.of h e2 hq cdN_2 (fun v w' ev => ?_) (fun E w' ev hE => ?_)
  · subst ev
    exact w0_first ha hx (h.2.2.1 _ _ _)
  · have e9 : E = cNo := (eN_L_X9_first).1 _ e1 E (by rw [ev])
    subst ev
    subst e9
    rw [cdN_N]
    exact wN_first hN ha hx
theorem wr_worst {G : aG} {F : aF} {o : wO} {n s : Nat} {wx wm : wS} {u : Nat → Int64} {t : Tn} {z : Sy} {a1 : Int32} (hG : aGood G) (hN : aNc G) (h : LH F o n s) (r : RR t z o wx wm) : WR G ML_worst [.ref 40, .int a1, .ref 132] F o n s wx wm u (L_X10_worst a1 wm) t Int32.toInt64 := by
  obtain ⟨rx, rm, e1, e2, hq⟩ := q_worst (a1 := a1) r.1
  have hq := hq.RA r
  have ha := C_X9_worst hG (h.1 wm u) e1
  have hx := (h.1 wm u).1.2.1 wx 0 _ rfl
  refine WR.of h e2 hq cd1_2 (fun v w' ev => ?_) (fun E w' ev hE => ?_)
  · subst ev
    exact w0_worst ha hx (h.2.2.1 _ _ _)
  · have e9 : E = cIl := (eI_L_X9_worst).1 _ e1 E (by rw [ev])
    subst ev
    subst e9
    exact wI_worst hN ha hx
theorem wr_idle {G : aG} {F : aF} {o : wO} {n s : Nat} {wx wm : wS} {u : Nat → Int64} {t : Tn} {z : Sy} {a1 : Int32} (hG : aGood G) (hN : aNc G) (h : LH F o n s) (r : RR t z o wx wm) : WR G ML_idle [.ref 40, .int a1, .ref 132] F o n s wx wm u (L_X10_idle a1 wm) t Int32.toInt64 := by
  obtain ⟨rx, rm, e1, e2, hq⟩ := q_idle (a1 := a1) r.1
  have hq := hq.RA r
  have ha := C_X9_idle hG (h.1 wm u) e1
  have hx := (h.1 wm u).1.2.1 wx 0 _ rfl
  refine WR.of h e2 hq cd1_2 (fun v w' ev => ?_) (fun E w' ev hE => ?_)
  · subst ev
    exact w0_idle ha hx (h.2.2.1 _ _ _)
  · have e9 : E = cIl := (eI_L_X9_idle).1 _ e1 E (by rw [ev])
    subst ev
    subst e9
    exact wI_idle hN ha hx
theorem wr_round {G : aG} {F : aF} {o : wO} {n s : Nat} {wx wm : wS} {u : Nat → Int64} {t : Tn} {z : Sy} {a1 : Int32} (hG : aGood G) (hN : aNc G) (h : LH F o n s) (r : RR t z o wx wm) : WR G ML_round [.ref 40, .int a1, .ref 132] F o n s wx wm u (L_X10_round a1 wm) t Int32.toInt64 := by
  obtain ⟨rx, rm, e1, e2, hq⟩ := q_round (a1 := a1) r.1
  have hq := hq.RA r
  have ha := C_X9_round hG (h.1 wm u) e1
  have hx := (h.1 wm u).1.2.1 wx 0 _ rfl
  refine WR.of h e2 hq cdN_2 (fun v w' ev => ?_) (fun E w' ev hE => ?_)
  · subst ev
    exact w0_round ha hx (h.2.2.1 _ _ _)
  · have e9 : E = cNo := (eN_L_X9_round).1 _ e1 E (by rw [ev])
    subst ev
    subst e9
    rw [cdN_N]
    exact wN_round hN ha hx
theorem wr_delay {G : aG} {F : aF} {o : wO} {n s : Nat} {wx wm : wS} {u : Nat → Int64} {t : Tn} {z : Sy} {a1 a2 : Int32} (hG : aGood G) (hN : aNc G) (h : LH F o n s) (r : RR t z o wx wm) : WR G ML_delay [.ref 40, .int a1, .int a2, .ref 132] F o n s wx wm u (L_X10_delay a1 a2 wm) t Int32.toInt64 := by
  obtain ⟨rx, rm, e1, e2, hq⟩ := q_delay (a1 := a1) (a2 := a2) r.1
  have hq := hq.RA r
  have ha := C_X9_delay hG (h.1 wm u) e1
  have hx := (h.1 wm u).1.2.1 wx 0 _ rfl
  refine WR.of h e2 hq cdN_2 (fun v w' ev => ?_) (fun E w' ev hE => ?_)
  · subst ev
    exact w0_delay ha hx (h.2.2.1 _ _ _)
  · have e9 : E = cNo := (eN_L_X9_delay).1 _ e1 E (by rw [ev])
    subst ev
    subst e9
    rw [cdN_N]
    exact wN_delay hN ha hx
theorem wr_club {G : aG} {F : aF} {o : wO} {n s : Nat} {wx wm : wS} {u : Nat → Int64} {t : Tn} {z : Sy} {a1 a2 : Int32} (hG : aGood G) (hN : aNc G) (h : LH F o n s) (r : RR t z o wx wm) : WR G ML_club [.ref 40, .int a1, .int a2, .ref 132] F o n s wx wm u (L_X10_club a1 a2 wm) t Int32.toInt64 := by
  obtain ⟨rx, rm, e1, e2, hq⟩ := q_club (a1 := a1) (a2 := a2) r.1
  have hq := hq.RA r
  have ha := C_X9_club hG (h.1 wm u) e1
  have hx := (h.1 wm u).1.2.1 wx 0 _ rfl
  refine WR.of h e2 hq cdN_2 (fun v w' ev => ?_) (fun E w' ev hE => ?_)
  · subst ev
    exact w0_club ha hx (h.2.2.1 _ _ _)
  · subst ev
    rcases hE with rfl | rfl
    · rw [cdN_N]; exact wN_club hN ha hx
    · rw [cdN_I]; exact wI_club hN ha hx
theorem wr_rota {G : aG} {F : aF} {o : wO} {n s : Nat} {wx wm : wS} {u : Nat → Int64} {t : Tn} {z : Sy} {a1 : Int32} (hG : aGood G) (hN : aNc G) (h : LH F o n s) (r : RR t z o wx wm) : WR G ML_rota [.ref 40, .int a1, .ref 132] F o n s wx wm u (L_X10_rota a1 wm) t Int32.toInt64 := by
  obtain ⟨rx, rm, e1, e2, hq⟩ := q_rota (a1 := a1) r.1
  have hq := hq.RA r
  have ha := C_X9_rota hG (h.1 wm u) e1
  have hx := (h.1 wm u).1.2.1 wx 0 _ rfl
  refine WR.of h e2 hq cdN_2 (fun v w' ev => ?_) (fun E w' ev hE => ?_)
  · subst ev
    exact w0_rota ha hx (h.2.2.1 _ _ _)
  · have e9 : E = cNo := (eN_L_X9_rota).1 _ e1 E (by rw [ev])
    subst ev
    subst e9
    rw [cdN_N]
    exact wN_rota hN ha hx
theorem wr_towers {G : aG} {F : aF} {o : wO} {n s : Nat} {wx wm : wS} {u : Nat → Int64} {t : Tn} {z : Sy} {a1 a2 : Int32} (hG : aGood G) (hN : aNc G) (h : LH F o n s) (r : RR t z o wx wm) : WR G ML_towers [.ref 40, .int a1, .int a2, .ref 132] F o n s wx wm u (L_X10_towers a1 a2 wm) t Int32.toInt64 := by
  obtain ⟨rx, rm, e1, e2, hq⟩ := q_towers (a1 := a1) (a2 := a2) r.1
  have hq := hq.RA r
  have ha := C_X9_towers hG (h.1 wm u) e1
  have hx := (h.1 wm u).1.2.1 wx 0 _ rfl
  refine WR.of h e2 hq cdN_2 (fun v w' ev => ?_) (fun E w' ev hE => ?_)
  · subst ev
    exact w0_towers ha hx (h.2.2.1 _ _ _)
  · subst ev
    rcases hE with rfl | rfl
    · rw [cdN_N]; exact wN_towers hN ha hx
    · rw [cdN_I]; exact wI_towers hN ha hx
theorem wr_see {G : aG} {F : aF} {o : wO} {n s : Nat} {wx wm : wS} {u : Nat → Int64} {t : Tn} {z : Sy} {a1 a2 a3 : Int32} (hG : aGood G) (hN : aNc G) (h : LH F o n s) (r : RR t z o wx wm) : WR G ML_see [.ref 40, .int a1, .int a2, .int a3, .ref 132] F o n s wx wm u (L_X10_see a1 a2 a3 wm) t Int32.toInt64 := by
  obtain ⟨rx, rm, e1, e2, hq⟩ := q_see (a1 := a1) (a2 := a2) (a3 := a3) r
  have ha := C_X9_see hG (h.1 wm u) e1
  have hx := (h.1 wm u).1.2.1 wx 0 _ rfl
  refine WR.of h e2 hq cdN_2 (fun v w' ev => ?_) (fun E w' ev hE => ?_)
  · subst ev
    exact w0_see ha hx (h.2.2.1 _ _ _)
  · have e9 : E = cNo := (eN_L_X9_see).1 _ e1 E (by rw [ev])
    subst ev
    subst e9
    rw [cdN_N]
    exact wN_see hN ha hx
theorem wr_habits {G : aG} {F : aF} {o : wO} {n s : Nat} {wx wm : wS} {u : Nat → Int64} {t : Tn} {z : Sy} {a1 : Int32} (hG : aGood G) (hN : aNc G) (h : LH F o n s) (r : RR t z o wx wm) : WR G ML_habits [.ref 40, .int a1, .ref 132] F o n s wx wm u (L_X10_habits a1 wm) t Int32.toInt64 := by
  obtain ⟨rx, rm, e1, e2, hq⟩ := q_habits (a1 := a1) r.ps
  have hq := hq.RA r
  have ha := C_X9_habits hG (h.1 wm u) e1
  have hx := (h.1 wm u).1.2.1 wx 0 _ rfl
  refine WR.of h e2 hq cdN_2 (fun v w' ev => ?_) (fun E w' ev hE => ?_)
  · subst ev
    exact w0_habits ha hx (h.2.2.1 _ _ _)
  · have e9 : E = cNo := (eN_L_X9_habits).1 _ e1 E (by rw [ev])
    subst ev
    subst e9
    rw [cdN_N]
    exact wN_habits hN ha hx
theorem wr_next {G : aG} {F : aF} {o : wO} {n s : Nat} {wx wm : wS} {u : Nat → Int64} {t : Tn} {z : Sy} {a1 : Int32} (hG : aGood G) (hN : aNc G) (h : LH F o n s) (r : RR t z o wx wm) : WR G ML_next [.ref 40, .int a1, .ref 132] F o n s wx wm u (L_X10_next a1 wm) t Int32.toInt64 := by
  obtain ⟨rx, rm, e1, e2, hq⟩ := q_next (a1 := a1) r.ps
  have hq := hq.RA r
  have ha := C_X9_next hG (h.1 wm u) e1
  have hx := (h.1 wm u).1.2.1 wx 0 _ rfl
  refine WR.of h e2 hq cdN_2 (fun v w' ev => ?_) (fun E w' ev hE => ?_)
  · subst ev
    exact w0_next ha hx (h.2.2.1 _ _ _)
  · have e9 : E = cNo := (eN_L_X9_next).1 _ e1 E (by rw [ev])
    subst ev
    subst e9
    rw [cdN_N]
    exact wN_next hN ha hx
theorem wr_snow {G : aG} {F : aF} {o : wO} {n s : Nat} {wx wm : wS} {u : Nat → Int64} {t : Tn} {z : Sy} {a1 a2 a3 : Int32} (hG : aGood G) (hN : aNc G) (h : LH F o n s) (r : RR t z o wx wm) : WR G ML_snow [.ref 40, .int a1, .int a2, .int a3, .ref 132] F o n s wx wm u (L_X10_snow a1 a2 a3 wm) t Int32.toInt64 := by
  obtain ⟨rx, rm, e1, e2, hq⟩ := q_snow (a1 := a1) (a2 := a2) (a3 := a3) r.1
  have hq := hq.RA r
  have ha := C_X9_snow hG (h.1 wm u) e1
  have hx := (h.1 wm u).1.2.1 wx 0 _ rfl
  refine WR.of h e2 hq cdN_2 (fun v w' ev => ?_) (fun E w' ev hE => ?_)
  · subst ev
    exact w0_snow ha hx (h.2.2.1 _ _ _)
  · subst ev
    rcases hE with rfl | rfl
    · rw [cdN_N]; exact wN_snow hN ha hx
    · rw [cdN_I]; exact wI_snow hN ha hx
theorem wr_game {G : aG} {F : aF} {o : wO} {n s : Nat} {wx wm : wS} {u : Nat → Int64} {t : Tn} {z : Sy} {a1 a2 a3 : Int32} (hG : aGood G) (hN : aNc G) (h : LH F o n s) (r : RR t z o wx wm) : WR G ML_game [.ref 40, .int a1, .int a2, .int a3, .ref 132] F o n s wx wm u (L_X10_game a1 a2 a3 wm) t Int32.toInt64 := by
  obtain ⟨rx, rm, e1, e2, hq⟩ := q_game (a1 := a1) (a2 := a2) (a3 := a3) r.1
  have hq := hq.RA r
  have ha := C_X9_game hG (h.1 wm u) e1
  have hx := (h.1 wm u).1.2.1 wx 0 _ rfl
  refine WR.of h e2 hq cdN_2 (fun v w' ev => ?_) (fun E w' ev hE => ?_)
  · subst ev
    exact w0_game ha hx (h.2.2.1 _ _ _)
  · subst ev
    rcases hE with rfl | rfl
    · rw [cdN_N]; exact wN_game hN ha hx
    · rw [cdN_I]; exact wI_game hN ha hx
theorem wr_years {G : aG} {F : aF} {o : wO} {n s : Nat} {wx wm : wS} {u : Nat → Int64} {t : Tn} {z : Sy} {a1 a2 a3 : Int32} (hG : aGood G) (hN : aNc G) (h : LH F o n s) (r : RR t z o wx wm) : WR G ML_years [.ref 40, .int a1, .int a2, .int a3, .ref 132] F o n s wx wm u (L_X10_years a1 a2 a3 wm) t Int32.toInt64 := by
  obtain ⟨rx, rm, e1, e2, hq⟩ := q_years (a1 := a1) (a2 := a2) (a3 := a3) r.1
  have hq := hq.RA r
  have ha := C_X9_years hG (h.1 wm u) e1
  have hx := (h.1 wm u).1.2.1 wx 0 _ rfl
  refine WR.of h e2 hq cdN_2 (fun v w' ev => ?_) (fun E w' ev hE => ?_)
  · subst ev
    exact w0_years ha hx (h.2.2.1 _ _ _)
  · subst ev
    rcases hE with rfl | rfl
    · rw [cdN_N]; exact wN_years hN ha hx
    · rw [cdN_I]; exact wI_years hN ha hx
theorem wr_coming {G : aG} {F : aF} {o : wO} {n s : Nat} {wx wm : wS} {u : Nat → Int64} {t : Tn} {z : Sy} {a1 a2 a3 : Int32} (hG : aGood G) (hN : aNc G) (h : LH F o n s) (r : RR t z o wx wm) : WR G ML_coming [.ref 40, .int a1, .int a2, .int a3, .ref 132] F o n s wx wm u (L_X10_coming a1 a2 a3 wm) t Int32.toInt64 := by
  obtain ⟨rx, rm, e1, e2, hq⟩ := q_coming (a1 := a1) (a2 := a2) (a3 := a3) r.1
  have hq := hq.RA r
  have ha := C_X9_coming hG (h.1 wm u) e1
  have hx := (h.1 wm u).1.2.1 wx 0 _ rfl
  refine WR.of h e2 hq cdN_2 (fun v w' ev => ?_) (fun E w' ev hE => ?_)
  · subst ev
    exact w0_coming ha hx (h.2.2.1 _ _ _)
  · have e9 : E = cNo := (eN_L_X9_coming).1 _ e1 E (by rw [ev])
    subst ev
    subst e9
    rw [cdN_N]
    exact wN_coming hN ha hx
theorem wr_spread {G : aG} {F : aF} {o : wO} {n s : Nat} {wx wm : wS} {u : Nat → Int64} {t : Tn} {z : Sy} {a1 : Int32} (hG : aGood G) (hN : aNc G) (h : LH F o n s) (r : RR t z o wx wm) : WR G ML_spread [.ref 40, .int a1, .ref 132] F o n s wx wm u (L_X10_spread a1 wm) t Int32.toInt64 := by
  obtain ⟨rx, rm, e1, e2, hq⟩ := q_spread (a1 := a1) r.1
  have hq := hq.RA r
  have ha := C_X9_spread hG (h.1 wm u) e1
  have hx := (h.1 wm u).1.2.1 wx 0 _ rfl
  refine WR.of h e2 hq cdN_2 (fun v w' ev => ?_) (fun E w' ev hE => ?_)
  · subst ev
    exact w0_spread ha hx (h.2.2.1 _ _ _)
  · have e9 : E = cNo := (eN_L_X9_spread).1 _ e1 E (by rw [ev])
    subst ev
    subst e9
    rw [cdN_N]
    exact wN_spread hN ha hx
theorem wr_ahead {G : aG} {F : aF} {o : wO} {n s : Nat} {wx wm : wS} {u : Nat → Int64} {t : Tn} {z : Sy} {a1 a2 : Int32} (hG : aGood G) (hN : aNc G) (h : LH F o n s) (r : RR t z o wx wm) : WR G ML_ahead [.ref 40, .int a1, .int a2, .ref 132] F o n s wx wm u (L_X10_ahead a1 a2 wm) t Int32.toInt64 := by
  obtain ⟨rx, rm, e1, e2, hq⟩ := q_ahead (a1 := a1) (a2 := a2) r.1
  have hq := hq.RA r
  have ha := C_X9_ahead hG (h.1 wm u) e1
  have hx := (h.1 wm u).1.2.1 wx 0 _ rfl
  refine WR.of h e2 hq cdN_2 (fun v w' ev => ?_) (fun E w' ev hE => ?_)
  · subst ev
    exact w0_ahead ha hx (h.2.2.1 _ _ _)
  · have e9 : E = cNo := (eN_L_X9_ahead).1 _ e1 E (by rw [ev])
    subst ev
    subst e9
    rw [cdN_N]
    exact wN_ahead hN ha hx
theorem wr_nearest {G : aG} {F : aF} {o : wO} {n s : Nat} {wx wm : wS} {u : Nat → Int64} {t : Tn} {z : Sy} {a1 : Int32} (hG : aGood G) (hN : aNc G) (h : LH F o n s) (r : RR t z o wx wm) : WR G ML_nearest [.ref 40, .int a1, .ref 132] F o n s wx wm u (L_X10_nearest a1 wm) t Int32.toInt64 := by
  obtain ⟨rx, rm, e1, e2, hq⟩ := q_nearest (a1 := a1) r.1
  have hq := hq.RA r
  have ha := C_X9_nearest hG (h.1 wm u) e1
  have hx := (h.1 wm u).1.2.1 wx 0 _ rfl
  refine WR.of h e2 hq cdN_2 (fun v w' ev => ?_) (fun E w' ev hE => ?_)
  · subst ev
    exact w0_nearest ha hx (h.2.2.1 _ _ _)
  · have e9 : E = cNo := (eN_L_X9_nearest).1 _ e1 E (by rw [ev])
    subst ev
    subst e9
    rw [cdN_N]
    exact wN_nearest hN ha hx
theorem wr_neighbours {G : aG} {F : aF} {o : wO} {n s : Nat} {wx wm : wS} {u : Nat → Int64} {t : Tn} {z : Sy} {a1 a2 : Int32} (hG : aGood G) (hN : aNc G) (h : LH F o n s) (r : RR t z o wx wm) : WR G ML_neighbours [.ref 40, .int a1, .int a2, .ref 132] F o n s wx wm u (L_X10_neighbours a1 a2 wm) t Int32.toInt64 := by
  obtain ⟨rx, rm, e1, e2, hq⟩ := q_neighbours (a1 := a1) (a2 := a2) r.1
  have hq := hq.RA r
  have ha := C_X9_neighbours hG (h.1 wm u) e1
  have hx := (h.1 wm u).1.2.1 wx 0 _ rfl
  refine WR.of h e2 hq cdN_2 (fun v w' ev => ?_) (fun E w' ev hE => ?_)
  · subst ev
    exact w0_neighbours ha hx (h.2.2.1 _ _ _)
  · subst ev
    rcases hE with rfl | rfl
    · rw [cdN_N]; exact wN_neighbours hN ha hx
    · rw [cdN_I]; exact wI_neighbours hN ha hx
theorem wr_toMend {G : aG} {F : aF} {o : wO} {n s : Nat} {wx wm : wS} {u : Nat → Int64} {t : Tn} {z : Sy} {a1 a2 : Int32} (hG : aGood G) (hN : aNc G) (h : LH F o n s) (r : RR t z o wx wm) : WR G ML_toMend [.ref 40, .int a1, .int a2, .ref 132] F o n s wx wm u (L_X10_toMend a1 a2 wm) t Int32.toInt64 := by
  obtain ⟨rx, rm, e1, e2, hq⟩ := q_toMend (a1 := a1) (a2 := a2) r.1
  have hq := hq.RA r
  have ha := C_X9_toMend hG (h.1 wm u) e1
  have hx := (h.1 wm u).1.2.1 wx 0 _ rfl
  refine WR.of h e2 hq cdN_2 (fun v w' ev => ?_) (fun E w' ev hE => ?_)
  · subst ev
    exact w0_toMend ha hx (h.2.2.1 _ _ _)
  · subst ev
    rcases hE with rfl | rfl
    · rw [cdN_N]; exact wN_toMend hN ha hx
    · rw [cdN_I]; exact wI_toMend hN ha hx
theorem wr_silent {G : aG} {F : aF} {o : wO} {n s : Nat} {wx wm : wS} {u : Nat → Int64} {t : Tn} {z : Sy} {a1 : Int32} (hG : aGood G) (hN : aNc G) (h : LH F o n s) (r : RR t z o wx wm) : WR G ML_silent [.ref 40, .int a1, .ref 132] F o n s wx wm u (L_X10_silent a1 wm) t Int32.toInt64 := by
  obtain ⟨rx, rm, e1, e2, hq⟩ := q_silent (a1 := a1) r.1
  have hq := hq.RA r
  have ha := C_X9_silent hG (h.1 wm u) e1
  have hx := (h.1 wm u).1.2.1 wx 0 _ rfl
  refine WR.of h e2 hq cd1_2 (fun v w' ev => ?_) (fun E w' ev hE => ?_)
  · subst ev
    exact w0_silent ha hx (h.2.2.1 _ _ _)
  · have e9 : E = cIl := (eI_L_X9_silent).1 _ e1 E (by rw [ev])
    subst ev
    subst e9
    exact wI_silent hN ha hx
theorem wr_behind {G : aG} {F : aF} {o : wO} {n s : Nat} {wx wm : wS} {u : Nat → Int64} {t : Tn} {z : Sy} {a1 : Int32} (hG : aGood G) (hN : aNc G) (h : LH F o n s) (r : RR t z o wx wm) : WR G ML_behind [.ref 40, .int a1, .ref 132] F o n s wx wm u (L_X10_behind a1 wm) t Int32.toInt64 := by
  obtain ⟨rx, rm, e1, e2, hq⟩ := q_behind (a1 := a1) r.1
  have hq := hq.RA r
  have ha := C_X9_behind hG (h.1 wm u) e1
  have hx := (h.1 wm u).1.2.1 wx 0 _ rfl
  refine WR.of h e2 hq cd1_2 (fun v w' ev => ?_) (fun E w' ev hE => ?_)
  · subst ev
    exact w0_behind ha hx (h.2.2.1 _ _ _)
  · have e9 : E = cIl := (eI_L_X9_behind).1 _ e1 E (by rw [ev])
    subst ev
    subst e9
    exact wI_behind hN ha hx
theorem wr_most {G : aG} {F : aF} {o : wO} {n s : Nat} {wx wm : wS} {u : Nat → Int64} {t : Tn} {z : Sy} {a1 : Int32} (hG : aGood G) (hN : aNc G) (h : LH F o n s) (r : RR t z o wx wm) : WR G ML_most [.ref 40, .int a1, .ref 132] F o n s wx wm u (L_X10_most a1 wm) t Int32.toInt64 := by
  obtain ⟨rx, rm, e1, e2, hq⟩ := q_most (a1 := a1) r.1
  have hq := hq.RA r
  have ha := C_X9_most hG (h.1 wm u) e1
  have hx := (h.1 wm u).1.2.1 wx 0 _ rfl
  refine WR.of h e2 hq cd1_2 (fun v w' ev => ?_) (fun E w' ev hE => ?_)
  · subst ev
    exact w0_most ha hx (h.2.2.1 _ _ _)
  · have e9 : E = cIl := (eI_L_X9_most).1 _ e1 E (by rw [ev])
    subst ev
    subst e9
    exact wI_most hN ha hx
theorem wr_soonest {G : aG} {F : aF} {o : wO} {n s : Nat} {wx wm : wS} {u : Nat → Int64} {t : Tn} {z : Sy} {a1 a2 : Int32} (hG : aGood G) (hN : aNc G) (h : LH F o n s) (r : RR t z o wx wm) : WR G ML_soonest [.ref 40, .int a1, .int a2, .ref 132] F o n s wx wm u (L_X10_soonest a1 a2 wm) t Int32.toInt64 := by
  obtain ⟨rx, rm, e1, e2, hq⟩ := q_soonest (a1 := a1) (a2 := a2) r.1
  have hq := hq.RA r
  have ha := C_X9_soonest hG (h.1 wm u) e1
  have hx := (h.1 wm u).1.2.1 wx 0 _ rfl
  refine WR.of h e2 hq cdN_2 (fun v w' ev => ?_) (fun E w' ev hE => ?_)
  · subst ev
    exact w0_soonest ha hx (h.2.2.1 _ _ _)
  · subst ev
    rcases hE with rfl | rfl
    · rw [cdN_N]; exact wN_soonest hN ha hx
    · rw [cdN_I]; exact wI_soonest hN ha hx
theorem wr_handed {G : aG} {F : aF} {o : wO} {n s : Nat} {wx wm : wS} {u : Nat → Int64} {t : Tn} {z : Sy} {a1 : Int32} (hG : aGood G) (hN : aNc G) (h : LH F o n s) (r : RR t z o wx wm) : WR G ML_handed [.ref 40, .int a1, .ref 132] F o n s wx wm u (L_X10_handed a1 wm) t Int32.toInt64 := by
  obtain ⟨rx, rm, e1, e2, hq⟩ := q_handed (a1 := a1) r.1
  have hq := hq.RA r
  have ha := C_X9_handed hG (h.1 wm u) e1
  have hx := (h.1 wm u).1.2.1 wx 0 _ rfl
  refine WR.of h e2 hq cd1_2 (fun v w' ev => ?_) (fun E w' ev hE => ?_)
  · subst ev
    exact w0_handed ha hx (h.2.2.1 _ _ _)
  · have e9 : E = cIl := (eI_L_X9_handed).1 _ e1 E (by rw [ev])
    subst ev
    subst e9
    exact wI_handed hN ha hx
theorem wr_loses {G : aG} {F : aF} {o : wO} {n s : Nat} {wx wm : wS} {u : Nat → Int64} {t : Tn} {z : Sy} {a1 : Int32} (hG : aGood G) (hN : aNc G) (h : LH F o n s) (r : RR t z o wx wm) : WR G ML_loses [.ref 40, .int a1, .ref 132] F o n s wx wm u (L_X10_loses a1 wm) t Int32.toInt64 := by
  obtain ⟨rx, rm, e1, e2, hq⟩ := q_loses (a1 := a1) r.1
  have hq := hq.RA r
  have ha := C_X9_loses hG (h.1 wm u) e1
  have hx := (h.1 wm u).1.2.1 wx 0 _ rfl
  refine WR.of h e2 hq cdN_2 (fun v w' ev => ?_) (fun E w' ev hE => ?_)
  · subst ev
    exact w0_loses ha hx (h.2.2.1 _ _ _)
  · have e9 : E = cNo := (eN_L_X9_loses).1 _ e1 E (by rw [ev])
    subst ev
    subst e9
    rw [cdN_N]
    exact wN_loses hN ha hx
theorem wr_late {G : aG} {F : aF} {o : wO} {n s : Nat} {wx wm : wS} {u : Nat → Int64} {t : Tn} {z : Sy} {a1 a2 : Int32} (hG : aGood G) (hN : aNc G) (h : LH F o n s) (r : RR t z o wx wm) : WR G ML_late [.ref 40, .int a1, .int a2, .ref 132] F o n s wx wm u (L_X10_late a1 a2 wm) t Int32.toInt64 := by
  obtain ⟨rx, rm, e1, e2, hq⟩ := q_late (a1 := a1) (a2 := a2) r.1
  have hq := hq.RA r
  have ha := C_X9_late hG (h.1 wm u) e1
  have hx := (h.1 wm u).1.2.1 wx 0 _ rfl
  refine WR.of h e2 hq cdN_2 (fun v w' ev => ?_) (fun E w' ev hE => ?_)
  · subst ev
    exact w0_late ha hx (h.2.2.1 _ _ _)
  · have e9 : E = cNo := (eN_L_X9_late).1 _ e1 E (by rw [ev])
    subst ev
    subst e9
    rw [cdN_N]
    exact wN_late hN ha hx
theorem wr_prompt {G : aG} {F : aF} {o : wO} {n s : Nat} {wx wm : wS} {u : Nat → Int64} {t : Tn} {z : Sy} {a1 : Int32} (hG : aGood G) (hN : aNc G) (h : LH F o n s) (r : RR t z o wx wm) : WR G ML_prompt [.ref 40, .int a1, .ref 132] F o n s wx wm u (L_X10_prompt a1 wm) t Int32.toInt64 := by
  obtain ⟨rx, rm, e1, e2, hq⟩ := q_prompt (a1 := a1) r.1
  have hq := hq.RA r
  have ha := C_X9_prompt hG (h.1 wm u) e1
  have hx := (h.1 wm u).1.2.1 wx 0 _ rfl
  refine WR.of h e2 hq cdN_2 (fun v w' ev => ?_) (fun E w' ev hE => ?_)
  · subst ev
    exact w0_prompt ha hx (h.2.2.1 _ _ _)
  · have e9 : E = cNo := (eN_L_X9_prompt).1 _ e1 E (by rw [ev])
    subst ev
    subst e9
    rw [cdN_N]
    exact wN_prompt hN ha hx
theorem wr_walk {G : aG} {F : aF} {o : wO} {n s : Nat} {wx wm : wS} {u : Nat → Int64} {t : Tn} {z : Sy} {a1 : Int32} (hG : aGood G) (hN : aNc G) (h : LH F o n s) (r : RR t z o wx wm) : WR G ML_walk [.ref 40, .int a1, .ref 132] F o n s wx wm u (L_X10_walk a1 wm) t Int32.toInt64 := by
  obtain ⟨rx, rm, e1, e2, hq⟩ := q_walk (a1 := a1) r.1
  have hq := hq.RA r
  have ha := C_X9_walk hG (h.1 wm u) e1
  have hx := (h.1 wm u).1.2.1 wx 0 _ rfl
  refine WR.of h e2 hq cdN_2 (fun v w' ev => ?_) (fun E w' ev hE => ?_)
  · subst ev
    exact w0_walk ha hx (h.2.2.1 _ _ _)
  · have e9 : E = cNo := (eN_L_X9_walk).1 _ e1 E (by rw [ev])
    subst ev
    subst e9
    rw [cdN_N]
    exact wN_walk hN ha hx
end
