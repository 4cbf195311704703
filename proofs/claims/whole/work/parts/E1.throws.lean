section
/-! ===== what a method of the class throws ===== -/
def eO (E0 : String) (x : Int32 ⊕ String) : Prop := ∀ E, x = .inr E → E = E0
def eP (E0 : String) (x : Option String) : Prop := ∀ E, x = some E → E = E0
theorem eO_l {E0 : String} {v : Int32} : eO E0 (.inl v) := fun _ h => by cases h
theorem eO_r {E0 : String} : eO E0 (.inr E0) := fun _ h => (Sum.inr.inj h).symm
theorem eP_n {E0 : String} : eP E0 none := fun _ h => by cases h
theorem eP_s {E0 : String} : eP E0 (some E0) := fun _ h => (Option.some.inj h).symm
theorem pp_BT {γ : Type} {E0 : String} {o : Option (Option String)} {kx : String → Option γ} {k : Option γ} {Q : γ → Prop} (h : pp o (fun r => eP E0 r)) (hx : ∀ E, E = E0 → pp (kx E) Q) (hk : pp k Q) : pp (xBT o kx k) Q := by
  cases o with
  | none => exact ⟨fun r e => (by cases e), trivial⟩
  | some x =>
    cases x with
    | none => exact hk
    | some E => exact hx E (h.1 _ rfl E rfl)
theorem eN_L_X9_count {o : wO} {a1 : Int32} {w : wS} : pp (L_X9_count o a1 w) (fun r : (Int32 ⊕ String) × wS => eO cNo r.1) := by
  unfold L_X9_count
  repeat' (first
    | with_reducible exact pp_some eO_l
    | with_reducible exact pp_some eO_r
    | with_reducible (subst_vars; exact pp_some eO_r)
    | with_reducible refine pp_if ?_ ?_
    | with_reducible refine pp_xIf ?_
    | with_reducible (refine pp_B pp_any ?_; intro _ _)
    | with_reducible (refine pp_B2 pp_any ?_; intro _ _ _)
    | with_reducible assumption
    | with_reducible (intro _))
theorem eN_J_X9_needPerson_15 {o : wO} {w : wS} : pp (J_X9_needPerson_15 o w) (fun r : Option String => eP cNo r) := by
  unfold J_X9_needPerson_15
  repeat' (first
    | with_reducible exact pp_some eP_n
    | with_reducible exact pp_some eP_s
    | with_reducible refine pp_if ?_ ?_
    | with_reducible refine pp_xIf ?_
    | with_reducible (refine pp_B pp_any ?_; intro _ _)
    | with_reducible (refine pp_B2 pp_any ?_; intro _ _ _)
    | with_reducible assumption
    | with_reducible (intro _))
theorem eN_L_X9_needPerson {o : wO} {a1 : Int32} {w : wS} : pp (L_X9_needPerson o a1 w) (fun r : Option String => eP cNo r) := by
  unfold L_X9_needPerson
  repeat' (first
    | with_reducible exact pp_some eP_n
    | with_reducible exact pp_some eP_s
    | with_reducible refine pp_BT eN_J_X9_needPerson_15 ?_ ?_
    | with_reducible exact eN_J_X9_needPerson_15
    | with_reducible refine pp_if ?_ ?_
    | with_reducible refine pp_xIf ?_
    | with_reducible (refine pp_B pp_any ?_; intro _ _)
    | with_reducible (refine pp_B2 pp_any ?_; intro _ _ _)
    | with_reducible assumption
    | with_reducible (intro _))
theorem eN_J_X9_person_133 {o : wO} {y0 : Int32} {w : wS} : pp (J_X9_person_133 o y0 w) (fun r : (Int32 ⊕ String) × wS => eO cNo r.1) := by
  unfold J_X9_person_133
  repeat' (first
    | with_reducible exact pp_some eO_l
    | with_reducible exact pp_some eO_r
    | with_reducible (subst_vars; exact pp_some eO_r)
    | with_reducible refine pp_if ?_ ?_
    | with_reducible refine pp_xIf ?_
    | with_reducible (refine pp_B pp_any ?_; intro _ _)
    | with_reducible (refine pp_B2 pp_any ?_; intro _ _ _)
    | with_reducible assumption
    | with_reducible (intro _))
theorem eN_L_X9_person {o : wO} {a1 : Int32} {a2 : Int32} {w : wS} : pp (L_X9_person o a1 a2 w) (fun r : (Int32 ⊕ String) × wS => eO cNo r.1) := by
  unfold L_X9_person
  repeat' (first
    | with_reducible exact pp_some eO_l
    | with_reducible exact pp_some eO_r
    | with_reducible (subst_vars; exact pp_some eO_r)
    | with_reducible refine pp_BT eN_L_X9_needPerson ?_ ?_
    | with_reducible exact eN_J_X9_person_133
    | with_reducible refine pp_if ?_ ?_
    | with_reducible refine pp_xIf ?_
    | with_reducible (refine pp_B pp_any ?_; intro _ _)
    | with_reducible (refine pp_B2 pp_any ?_; intro _ _ _)
    | with_reducible assumption
    | with_reducible (intro _))
theorem eN_J_X9_needDuty_15 {o : wO} {w : wS} : pp (J_X9_needDuty_15 o w) (fun r : Option String => eP cNo r) := by
  unfold J_X9_needDuty_15
  repeat' (first
    | with_reducible exact pp_some eP_n
    | with_reducible exact pp_some eP_s
    | with_reducible refine pp_if ?_ ?_
    | with_reducible refine pp_xIf ?_
    | with_reducible (refine pp_B pp_any ?_; intro _ _)
    | with_reducible (refine pp_B2 pp_any ?_; intro _ _ _)
    | with_reducible assumption
    | with_reducible (intro _))
theorem eN_L_X9_needDuty {o : wO} {a1 : Int32} {w : wS} : pp (L_X9_needDuty o a1 w) (fun r : Option String => eP cNo r) := by
  unfold L_X9_needDuty
  repeat' (first
    | with_reducible exact pp_some eP_n
    | with_reducible exact pp_some eP_s
    | with_reducible refine pp_BT eN_J_X9_needDuty_15 ?_ ?_
    | with_reducible exact eN_J_X9_needDuty_15
    | with_reducible refine pp_if ?_ ?_
    | with_reducible refine pp_xIf ?_
    | with_reducible (refine pp_B pp_any ?_; intro _ _)
    | with_reducible (refine pp_B2 pp_any ?_; intro _ _ _)
    | with_reducible assumption
    | with_reducible (intro _))
theorem eN_L_X9_duty {o : wO} {a1 : Int32} {a2 : Int32} {w : wS} : pp (L_X9_duty o a1 a2 w) (fun r : (Int32 ⊕ String) × wS => eO cNo r.1) := by
  unfold L_X9_duty
  repeat' (first
    | with_reducible exact pp_some eO_l
    | with_reducible exact pp_some eO_r
    | with_reducible (subst_vars; exact pp_some eO_r)
    | with_reducible refine pp_BT eN_L_X9_needDuty ?_ ?_
    | with_reducible refine pp_if ?_ ?_
    | with_reducible refine pp_xIf ?_
    | with_reducible (refine pp_B pp_any ?_; intro _ _)
    | with_reducible (refine pp_B2 pp_any ?_; intro _ _ _)
    | with_reducible assumption
    | with_reducible (intro _))
theorem eN_J_X9_hurry_15 {o : wO} {w : wS} : pp (J_X9_hurry_15 o w) (fun r : (Int32 ⊕ String) × wS => eO cNo r.1) := by
  unfold J_X9_hurry_15
  repeat' (first
    | with_reducible exact pp_some eO_l
    | with_reducible exact pp_some eO_r
    | with_reducible (subst_vars; exact pp_some eO_r)
    | with_reducible refine pp_if ?_ ?_
    | with_reducible refine pp_xIf ?_
    | with_reducible (refine pp_B pp_any ?_; intro _ _)
    | with_reducible (refine pp_B2 pp_any ?_; intro _ _ _)
    | with_reducible assumption
    | with_reducible (intro _))
theorem eN_L_X9_hurry {o : wO} {a1 : Int32} {a2 : Int32} {w : wS} : pp (L_X9_hurry o a1 a2 w) (fun r : (Int32 ⊕ String) × wS => eO cNo r.1) := by
  unfold L_X9_hurry
  repeat' (first
    | with_reducible exact pp_some eO_l
    | with_reducible exact pp_some eO_r
    | with_reducible (subst_vars; exact pp_some eO_r)
    | with_reducible refine pp_BT eN_L_X9_needPerson ?_ ?_
    | with_reducible exact eN_J_X9_hurry_15
    | with_reducible refine pp_if ?_ ?_
    | with_reducible refine pp_xIf ?_
    | with_reducible (refine pp_B pp_any ?_; intro _ _)
    | with_reducible (refine pp_B2 pp_any ?_; intro _ _ _)
    | with_reducible assumption
    | with_reducible (intro _))
theorem eN_L_X9_ill {o : wO} {a1 : Int32} {a2 : Int32} {w : wS} : pp (L_X9_ill o a1 a2 w) (fun r : (Int32 ⊕ String) × wS => eO cNo r.1) := by
  unfold L_X9_ill
  repeat' (first
    | with_reducible exact pp_some eO_l
    | with_reducible exact pp_some eO_r
    | with_reducible (subst_vars; exact pp_some eO_r)
    | with_reducible refine pp_BT eN_L_X9_needPerson ?_ ?_
    | with_reducible refine pp_if ?_ ?_
    | with_reducible refine pp_xIf ?_
    | with_reducible (refine pp_B pp_any ?_; intro _ _)
    | with_reducible (refine pp_B2 pp_any ?_; intro _ _ _)
    | with_reducible assumption
    | with_reducible (intro _))
theorem eN_J_X9_appoint_48 {o : wO} {w : wS} : pp (J_X9_appoint_48 o w) (fun r : (Int32 ⊕ String) × wS => eO cNo r.1) := by
  unfold J_X9_appoint_48
  repeat' (first
    | with_reducible exact pp_some eO_l
    | with_reducible exact pp_some eO_r
    | with_reducible (subst_vars; exact pp_some eO_r)
    | with_reducible refine pp_if ?_ ?_
    | with_reducible refine pp_xIf ?_
    | with_reducible (refine pp_B pp_any ?_; intro _ _)
    | with_reducible (refine pp_B2 pp_any ?_; intro _ _ _)
    | with_reducible assumption
    | with_reducible (intro _))
theorem eN_L_X9_appoint {o : wO} {a1 : Int32} {w : wS} : pp (L_X9_appoint o a1 w) (fun r : (Int32 ⊕ String) × wS => eO cNo r.1) := by
  unfold L_X9_appoint
  repeat' (first
    | with_reducible exact pp_some eO_l
    | with_reducible exact pp_some eO_r
    | with_reducible (subst_vars; exact pp_some eO_r)
    | with_reducible refine pp_BT eN_L_X9_needPerson ?_ ?_
    | with_reducible exact eN_J_X9_appoint_48
    | with_reducible refine pp_if ?_ ?_
    | with_reducible refine pp_xIf ?_
    | with_reducible (refine pp_B pp_any ?_; intro _ _)
    | with_reducible (refine pp_B2 pp_any ?_; intro _ _ _)
    | with_reducible assumption
    | with_reducible (intro _))
theorem eN_J_X9_due_16 {o : wO} {w : wS} : pp (J_X9_due_16 o w) (fun r : (Int32 ⊕ String) × wS => eO cNo r.1) := by
  unfold J_X9_due_16
  repeat' (first
    | with_reducible exact pp_some eO_l
    | with_reducible exact pp_some eO_r
    | with_reducible (subst_vars; exact pp_some eO_r)
    | with_reducible refine pp_if ?_ ?_
    | with_reducible refine pp_xIf ?_
    | with_reducible (refine pp_B pp_any ?_; intro _ _)
    | with_reducible (refine pp_B2 pp_any ?_; intro _ _ _)
    | with_reducible assumption
    | with_reducible (intro _))
theorem eN_L_X9_due {o : wO} {a1 : Int32} {a2 : Int32} {w : wS} : pp (L_X9_due o a1 a2 w) (fun r : (Int32 ⊕ String) × wS => eO cNo r.1) := by
  unfold L_X9_due
  repeat' (first
    | with_reducible exact pp_some eO_l
    | with_reducible exact pp_some eO_r
    | with_reducible (subst_vars; exact pp_some eO_r)
    | with_reducible refine pp_BT eN_L_X9_needDuty ?_ ?_
    | with_reducible exact eN_J_X9_due_16
    | with_reducible refine pp_if ?_ ?_
    | with_reducible refine pp_xIf ?_
    | with_reducible (refine pp_B pp_any ?_; intro _ _)
    | with_reducible (refine pp_B2 pp_any ?_; intro _ _ _)
    | with_reducible assumption
    | with_reducible (intro _))
theorem eN_B_X9_first_12 {o : wO} {kh12 : Int32 → Int32 → wS → Option ((Int32 ⊕ String) × wS)} {ke30 : Int32 → wS → Option ((Int32 ⊕ String) × wS)} {ke38 : wS → Option ((Int32 ⊕ String) × wS)} {x1 : Int32} {x3 : Int32} {w : wS} (h_kh12 : ∀ (c0 : Int32) (c1 : Int32) (c2 : wS), pp (kh12 c0 c1 c2) (fun r : (Int32 ⊕ String) × wS => eO cNo r.1)) (h_ke30 : ∀ (c0 : Int32) (c1 : wS), pp (ke30 c0 c1) (fun r : (Int32 ⊕ String) × wS => eO cNo r.1)) (h_ke38 : ∀ (c0 : wS), pp (ke38 c0) (fun r : (Int32 ⊕ String) × wS => eO cNo r.1)) : pp (B_X9_first_12 o kh12 ke30 ke38 x1 x3 w) (fun r : (Int32 ⊕ String) × wS => eO cNo r.1) := by
  unfold B_X9_first_12
  repeat' (first
    | with_reducible exact pp_some eO_l
    | with_reducible exact pp_some eO_r
    | with_reducible (subst_vars; exact pp_some eO_r)
    | with_reducible exact h_kh12 _ _ _ 
    | with_reducible exact h_ke30 _ _ 
    | with_reducible exact h_ke38 _ 
    | with_reducible refine pp_if ?_ ?_
    | with_reducible refine pp_xIf ?_
    | with_reducible (refine pp_B pp_any ?_; intro _ _)
    | with_reducible (refine pp_B2 pp_any ?_; intro _ _ _)
    | with_reducible assumption
    | with_reducible (intro _))
theorem eN_P_X9_first_12 {o : wO} {ke30 : Int32 → wS → Option ((Int32 ⊕ String) × wS)} {ke38 : wS → Option ((Int32 ⊕ String) × wS)} {n : Nat} {x1 : Int32} {x3 : Int32} {w : wS} (h_ke30 : ∀ (c0 : Int32) (c1 : wS), pp (ke30 c0 c1) (fun r : (Int32 ⊕ String) × wS => eO cNo r.1)) (h_ke38 : ∀ (c0 : wS), pp (ke38 c0) (fun r : (Int32 ⊕ String) × wS => eO cNo r.1)) : pp (P_X9_first_12 o ke30 ke38 n x1 x3 w) (fun r : (Int32 ⊕ String) × wS => eO cNo r.1) := by
  unfold P_X9_first_12
  refine pp_loop (I := fun _ => True) (fun kk hkk σ _ => ?_) _ _ trivial
  refine eN_B_X9_first_12 ?_ ?_ ?_ 
  · exact fun c0 c1 c2 => hkk (c0, c1, c2) trivial
  · exact h_ke30
  · exact h_ke38
theorem eN_L_X9_first {o : wO} {a1 : Int32} {w : wS} : pp (L_X9_first o a1 w) (fun r : (Int32 ⊕ String) × wS => eO cNo r.1) := by
  unfold L_X9_first
  repeat' (first
    | with_reducible exact pp_some eO_l
    | with_reducible exact pp_some eO_r
    | with_reducible (subst_vars; exact pp_some eO_r)
    | with_reducible refine pp_BT eN_L_X9_needPerson ?_ ?_
    | with_reducible refine eN_P_X9_first_12 ?_ ?_ 
    | with_reducible refine pp_if ?_ ?_
    | with_reducible refine pp_xIf ?_
    | with_reducible (refine pp_B pp_any ?_; intro _ _)
    | with_reducible (refine pp_B2 pp_any ?_; intro _ _ _)
    | with_reducible assumption
    | with_reducible (intro _))
theorem eI_J_X9_needRange_10  : pp (J_X9_needRange_10 ) (fun r : Option String => eP cIl r) := by
  unfold J_X9_needRange_10
  repeat' (first
    | with_reducible exact pp_some eP_n
    | with_reducible exact pp_some eP_s
    | with_reducible refine pp_if ?_ ?_
    | with_reducible refine pp_xIf ?_
    | with_reducible (refine pp_B pp_any ?_; intro _ _)
    | with_reducible (refine pp_B2 pp_any ?_; intro _ _ _)
    | with_reducible assumption
    | with_reducible (intro _))
theorem eI_L_X9_needRange {a1 : Int32} {a2 : Int32} {a3 : Int32} : pp (L_X9_needRange a1 a2 a3) (fun r : Option String => eP cIl r) := by
  unfold L_X9_needRange
  repeat' (first
    | with_reducible exact pp_some eP_n
    | with_reducible exact pp_some eP_s
    | with_reducible refine pp_BT eI_J_X9_needRange_10 ?_ ?_
    | with_reducible exact eI_J_X9_needRange_10
    | with_reducible refine pp_if ?_ ?_
    | with_reducible refine pp_xIf ?_
    | with_reducible (refine pp_B pp_any ?_; intro _ _)
    | with_reducible (refine pp_B2 pp_any ?_; intro _ _ _)
    | with_reducible assumption
    | with_reducible (intro _))
theorem eI_J_X9_worst_58 {o : wO} {kh22 : Int32 → Int32 → wS → Option ((Int32 ⊕ String) × wS)} {ke64 : Int32 → wS → Option ((Int32 ⊕ String) × wS)} {x3 : Int32} {x4 : Int32} {w : wS} (h_kh22 : ∀ (c0 : Int32) (c1 : Int32) (c2 : wS), pp (kh22 c0 c1 c2) (fun r : (Int32 ⊕ String) × wS => eO cIl r.1)) (h_ke64 : ∀ (c0 : Int32) (c1 : wS), pp (ke64 c0 c1) (fun r : (Int32 ⊕ String) × wS => eO cIl r.1)) : pp (J_X9_worst_58 o kh22 ke64 x3 x4 w) (fun r : (Int32 ⊕ String) × wS => eO cIl r.1) := by
  unfold J_X9_worst_58
  repeat' (first
    | with_reducible exact pp_some eO_l
    | with_reducible exact pp_some eO_r
    | with_reducible (subst_vars; exact pp_some eO_r)
    | with_reducible exact h_kh22 _ _ _ 
    | with_reducible exact h_ke64 _ _ 
    | with_reducible refine pp_if ?_ ?_
    | with_reducible refine pp_xIf ?_
    | with_reducible (refine pp_B pp_any ?_; intro _ _)
    | with_reducible (refine pp_B2 pp_any ?_; intro _ _ _)
    | with_reducible assumption
    | with_reducible (intro _))
theorem eI_J_X9_worst_55 {o : wO} {kh22 : Int32 → Int32 → wS → Option ((Int32 ⊕ String) × wS)} {ke64 : Int32 → wS → Option ((Int32 ⊕ String) × wS)} {x4 : Int32} {w : wS} (h_kh22 : ∀ (c0 : Int32) (c1 : Int32) (c2 : wS), pp (kh22 c0 c1 c2) (fun r : (Int32 ⊕ String) × wS => eO cIl r.1)) (h_ke64 : ∀ (c0 : Int32) (c1 : wS), pp (ke64 c0 c1) (fun r : (Int32 ⊕ String) × wS => eO cIl r.1)) : pp (J_X9_worst_55 o kh22 ke64 x4 w) (fun r : (Int32 ⊕ String) × wS => eO cIl r.1) := by
  unfold J_X9_worst_55
  repeat' (first
    | with_reducible exact pp_some eO_l
    | with_reducible exact pp_some eO_r
    | with_reducible (subst_vars; exact pp_some eO_r)
    | with_reducible exact h_kh22 _ _ _ 
    | with_reducible exact h_ke64 _ _ 
    | with_reducible refine eI_J_X9_worst_58 ?_ ?_ 
    | with_reducible refine pp_if ?_ ?_
    | with_reducible refine pp_xIf ?_
    | with_reducible (refine pp_B pp_any ?_; intro _ _)
    | with_reducible (refine pp_B2 pp_any ?_; intro _ _ _)
    | with_reducible assumption
    | with_reducible (intro _))
theorem eI_B_X9_worst_22 {o : wO} {kh22 : Int32 → Int32 → wS → Option ((Int32 ⊕ String) × wS)} {ke64 : Int32 → wS → Option ((Int32 ⊕ String) × wS)} {x3 : Int32} {x4 : Int32} {w : wS} (h_kh22 : ∀ (c0 : Int32) (c1 : Int32) (c2 : wS), pp (kh22 c0 c1 c2) (fun r : (Int32 ⊕ String) × wS => eO cIl r.1)) (h_ke64 : ∀ (c0 : Int32) (c1 : wS), pp (ke64 c0 c1) (fun r : (Int32 ⊕ String) × wS => eO cIl r.1)) : pp (B_X9_worst_22 o kh22 ke64 x3 x4 w) (fun r : (Int32 ⊕ String) × wS => eO cIl r.1) := by
  unfold B_X9_worst_22
  repeat' (first
    | with_reducible exact pp_some eO_l
    | with_reducible exact pp_some eO_r
    | with_reducible (subst_vars; exact pp_some eO_r)
    | with_reducible exact h_kh22 _ _ _ 
    | with_reducible exact h_ke64 _ _ 
    | with_reducible refine eI_J_X9_worst_55 ?_ ?_ 
    | with_reducible refine eI_J_X9_worst_58 ?_ ?_ 
    | with_reducible refine pp_if ?_ ?_
    | with_reducible refine pp_xIf ?_
    | with_reducible (refine pp_B pp_any ?_; intro _ _)
    | with_reducible (refine pp_B2 pp_any ?_; intro _ _ _)
    | with_reducible assumption
    | with_reducible (intro _))
theorem eI_P_X9_worst_22 {o : wO} {ke64 : Int32 → wS → Option ((Int32 ⊕ String) × wS)} {n : Nat} {x3 : Int32} {x4 : Int32} {w : wS} (h_ke64 : ∀ (c0 : Int32) (c1 : wS), pp (ke64 c0 c1) (fun r : (Int32 ⊕ String) × wS => eO cIl r.1)) : pp (P_X9_worst_22 o ke64 n x3 x4 w) (fun r : (Int32 ⊕ String) × wS => eO cIl r.1) := by
  unfold P_X9_worst_22
  refine pp_loop (I := fun _ => True) (fun kk hkk σ _ => ?_) _ _ trivial
  refine eI_B_X9_worst_22 ?_ ?_ 
  · exact fun c0 c1 c2 => hkk (c0, c1, c2) trivial
  · exact h_ke64
theorem eI_L_X9_worst {o : wO} {a1 : Int32} {w : wS} : pp (L_X9_worst o a1 w) (fun r : (Int32 ⊕ String) × wS => eO cIl r.1) := by
  unfold L_X9_worst
  repeat' (first
    | with_reducible exact pp_some eO_l
    | with_reducible exact pp_some eO_r
    | with_reducible (subst_vars; exact pp_some eO_r)
    | with_reducible refine pp_BT eI_L_X9_needRange ?_ ?_
    | with_reducible refine eI_P_X9_worst_22 ?_ 
    | with_reducible refine pp_if ?_ ?_
    | with_reducible refine pp_xIf ?_
    | with_reducible (refine pp_B pp_any ?_; intro _ _)
    | with_reducible (refine pp_B2 pp_any ?_; intro _ _ _)
    | with_reducible assumption
    | with_reducible (intro _))
theorem eI_J_X9_idle_51 {o : wO} {kh22 : Int32 → Int32 → wS → Option ((Int32 ⊕ String) × wS)} {ke57 : Int32 → wS → Option ((Int32 ⊕ String) × wS)} {x3 : Int32} {x4 : Int32} {w : wS} (h_kh22 : ∀ (c0 : Int32) (c1 : Int32) (c2 : wS), pp (kh22 c0 c1 c2) (fun r : (Int32 ⊕ String) × wS => eO cIl r.1)) (h_ke57 : ∀ (c0 : Int32) (c1 : wS), pp (ke57 c0 c1) (fun r : (Int32 ⊕ String) × wS => eO cIl r.1)) : pp (J_X9_idle_51 o kh22 ke57 x3 x4 w) (fun r : (Int32 ⊕ String) × wS => eO cIl r.1) := by
  unfold J_X9_idle_51
  repeat' (first
    | with_reducible exact pp_some eO_l
    | with_reducible exact pp_some eO_r
    | with_reducible (subst_vars; exact pp_some eO_r)
    | with_reducible exact h_kh22 _ _ _ 
    | with_reducible exact h_ke57 _ _ 
    | with_reducible refine pp_if ?_ ?_
    | with_reducible refine pp_xIf ?_
    | with_reducible (refine pp_B pp_any ?_; intro _ _)
    | with_reducible (refine pp_B2 pp_any ?_; intro _ _ _)
    | with_reducible assumption
    | with_reducible (intro _))
theorem eI_B_X9_idle_22 {o : wO} {kh22 : Int32 → Int32 → wS → Option ((Int32 ⊕ String) × wS)} {ke57 : Int32 → wS → Option ((Int32 ⊕ String) × wS)} {x3 : Int32} {x4 : Int32} {w : wS} (h_kh22 : ∀ (c0 : Int32) (c1 : Int32) (c2 : wS), pp (kh22 c0 c1 c2) (fun r : (Int32 ⊕ String) × wS => eO cIl r.1)) (h_ke57 : ∀ (c0 : Int32) (c1 : wS), pp (ke57 c0 c1) (fun r : (Int32 ⊕ String) × wS => eO cIl r.1)) : pp (B_X9_idle_22 o kh22 ke57 x3 x4 w) (fun r : (Int32 ⊕ String) × wS => eO cIl r.1) := by
  unfold B_X9_idle_22
  repeat' (first
    | with_reducible exact pp_some eO_l
    | with_reducible exact pp_some eO_r
    | with_reducible (subst_vars; exact pp_some eO_r)
    | with_reducible exact h_kh22 _ _ _ 
    | with_reducible exact h_ke57 _ _ 
    | with_reducible refine eI_J_X9_idle_51 ?_ ?_ 
    | with_reducible refine pp_if ?_ ?_
    | with_reducible refine pp_xIf ?_
    | with_reducible (refine pp_B pp_any ?_; intro _ _)
    | with_reducible (refine pp_B2 pp_any ?_; intro _ _ _)
    | with_reducible assumption
    | with_reducible (intro _))
theorem eI_P_X9_idle_22 {o : wO} {ke57 : Int32 → wS → Option ((Int32 ⊕ String) × wS)} {n : Nat} {x3 : Int32} {x4 : Int32} {w : wS} (h_ke57 : ∀ (c0 : Int32) (c1 : wS), pp (ke57 c0 c1) (fun r : (Int32 ⊕ String) × wS => eO cIl r.1)) : pp (P_X9_idle_22 o ke57 n x3 x4 w) (fun r : (Int32 ⊕ String) × wS => eO cIl r.1) := by
  unfold P_X9_idle_22
  refine pp_loop (I := fun _ => True) (fun kk hkk σ _ => ?_) _ _ trivial
  refine eI_B_X9_idle_22 ?_ ?_ 
  · exact fun c0 c1 c2 => hkk (c0, c1, c2) trivial
  · exact h_ke57
theorem eI_L_X9_idle {o : wO} {a1 : Int32} {w : wS} : pp (L_X9_idle o a1 w) (fun r : (Int32 ⊕ String) × wS => eO cIl r.1) := by
  unfold L_X9_idle
  repeat' (first
    | with_reducible exact pp_some eO_l
    | with_reducible exact pp_some eO_r
    | with_reducible (subst_vars; exact pp_some eO_r)
    | with_reducible refine pp_BT eI_L_X9_needRange ?_ ?_
    | with_reducible refine eI_P_X9_idle_22 ?_ 
    | with_reducible refine pp_if ?_ ?_
    | with_reducible refine pp_xIf ?_
    | with_reducible (refine pp_B pp_any ?_; intro _ _)
    | with_reducible (refine pp_B2 pp_any ?_; intro _ _ _)
    | with_reducible assumption
    | with_reducible (intro _))
theorem eN_J_X9_needWhat_9  : pp (J_X9_needWhat_9 ) (fun r : Option String => eP cNo r) := by
  unfold J_X9_needWhat_9
  repeat' (first
    | with_reducible exact pp_some eP_n
    | with_reducible exact pp_some eP_s
    | with_reducible refine pp_if ?_ ?_
    | with_reducible refine pp_xIf ?_
    | with_reducible (refine pp_B pp_any ?_; intro _ _)
    | with_reducible (refine pp_B2 pp_any ?_; intro _ _ _)
    | with_reducible assumption
    | with_reducible (intro _))
theorem eN_L_X9_needWhat {a1 : Int32} {a2 : Int32} : pp (L_X9_needWhat a1 a2) (fun r : Option String => eP cNo r) := by
  unfold L_X9_needWhat
  repeat' (first
    | with_reducible exact pp_some eP_n
    | with_reducible exact pp_some eP_s
    | with_reducible refine pp_BT eN_J_X9_needWhat_9 ?_ ?_
    | with_reducible exact eN_J_X9_needWhat_9
    | with_reducible refine pp_if ?_ ?_
    | with_reducible refine pp_xIf ?_
    | with_reducible (refine pp_B pp_any ?_; intro _ _)
    | with_reducible (refine pp_B2 pp_any ?_; intro _ _ _)
    | with_reducible assumption
    | with_reducible (intro _))
theorem eN_B_X9_round_41 {o : wO} {kh41 : Int32 → Int32 → Int32 → wS → Option ((Int32 ⊕ String) × wS)} {ke57 : Int32 → Int32 → Int32 → wS → Option ((Int32 ⊕ String) × wS)} {ke74 : Int32 → Int32 → wS → Option ((Int32 ⊕ String) × wS)} {x1 : Int32} {x3 : Int32} {x4 : Int32} {w : wS} (h_kh41 : ∀ (c0 : Int32) (c1 : Int32) (c2 : Int32) (c3 : wS), pp (kh41 c0 c1 c2 c3) (fun r : (Int32 ⊕ String) × wS => eO cNo r.1)) (h_ke57 : ∀ (c0 : Int32) (c1 : Int32) (c2 : Int32) (c3 : wS), pp (ke57 c0 c1 c2 c3) (fun r : (Int32 ⊕ String) × wS => eO cNo r.1)) (h_ke74 : ∀ (c0 : Int32) (c1 : Int32) (c2 : wS), pp (ke74 c0 c1 c2) (fun r : (Int32 ⊕ String) × wS => eO cNo r.1)) : pp (B_X9_round_41 o kh41 ke57 ke74 x1 x3 x4 w) (fun r : (Int32 ⊕ String) × wS => eO cNo r.1) := by
  unfold B_X9_round_41
  repeat' (first
    | with_reducible exact pp_some eO_l
    | with_reducible exact pp_some eO_r
    | with_reducible (subst_vars; exact pp_some eO_r)
    | with_reducible exact h_kh41 _ _ _ _ 
    | with_reducible exact h_ke57 _ _ _ _ 
    | with_reducible exact h_ke74 _ _ _ 
    | with_reducible refine pp_if ?_ ?_
    | with_reducible refine pp_xIf ?_
    | with_reducible (refine pp_B pp_any ?_; intro _ _)
    | with_reducible (refine pp_B2 pp_any ?_; intro _ _ _)
    | with_reducible assumption
    | with_reducible (intro _))
theorem eN_P_X9_round_41 {o : wO} {ke57 : Int32 → Int32 → Int32 → wS → Option ((Int32 ⊕ String) × wS)} {ke74 : Int32 → Int32 → wS → Option ((Int32 ⊕ String) × wS)} {n : Nat} {x1 : Int32} {x3 : Int32} {x4 : Int32} {w : wS} (h_ke57 : ∀ (c0 : Int32) (c1 : Int32) (c2 : Int32) (c3 : wS), pp (ke57 c0 c1 c2 c3) (fun r : (Int32 ⊕ String) × wS => eO cNo r.1)) (h_ke74 : ∀ (c0 : Int32) (c1 : Int32) (c2 : wS), pp (ke74 c0 c1 c2) (fun r : (Int32 ⊕ String) × wS => eO cNo r.1)) : pp (P_X9_round_41 o ke57 ke74 n x1 x3 x4 w) (fun r : (Int32 ⊕ String) × wS => eO cNo r.1) := by
  unfold P_X9_round_41
  refine pp_loop (I := fun _ => True) (fun kk hkk σ _ => ?_) _ _ trivial
  refine eN_B_X9_round_41 ?_ ?_ ?_ 
  · exact fun c0 c1 c2 c3 => hkk (c0, c1, c2, c3) trivial
  · exact h_ke57
  · exact h_ke74
theorem eN_J_X9_round_26 {o : wO} {kh12 : Int32 → Int32 → wS → Option ((Int32 ⊕ String) × wS)} {ke57 : Int32 → Int32 → Int32 → wS → Option ((Int32 ⊕ String) × wS)} {ke80 : wS → Option ((Int32 ⊕ String) × wS)} {x1 : Int32} {x3 : Int32} {w : wS} (h_kh12 : ∀ (c0 : Int32) (c1 : Int32) (c2 : wS), pp (kh12 c0 c1 c2) (fun r : (Int32 ⊕ String) × wS => eO cNo r.1)) (h_ke57 : ∀ (c0 : Int32) (c1 : Int32) (c2 : Int32) (c3 : wS), pp (ke57 c0 c1 c2 c3) (fun r : (Int32 ⊕ String) × wS => eO cNo r.1)) (h_ke80 : ∀ (c0 : wS), pp (ke80 c0) (fun r : (Int32 ⊕ String) × wS => eO cNo r.1)) : pp (J_X9_round_26 o kh12 ke57 ke80 x1 x3 w) (fun r : (Int32 ⊕ String) × wS => eO cNo r.1) := by
  unfold J_X9_round_26
  repeat' (first
    | with_reducible exact pp_some eO_l
    | with_reducible exact pp_some eO_r
    | with_reducible (subst_vars; exact pp_some eO_r)
    | with_reducible exact h_kh12 _ _ _ 
    | with_reducible exact h_ke57 _ _ _ _ 
    | with_reducible exact h_ke80 _ 
    | with_reducible refine eN_P_X9_round_41 ?_ ?_ 
    | with_reducible refine pp_if ?_ ?_
    | with_reducible refine pp_xIf ?_
    | with_reducible (refine pp_B pp_any ?_; intro _ _)
    | with_reducible (refine pp_B2 pp_any ?_; intro _ _ _)
    | with_reducible assumption
    | with_reducible (intro _))
theorem eN_B_X9_round_12 {o : wO} {kh12 : Int32 → Int32 → wS → Option ((Int32 ⊕ String) × wS)} {ke57 : Int32 → Int32 → Int32 → wS → Option ((Int32 ⊕ String) × wS)} {ke80 : wS → Option ((Int32 ⊕ String) × wS)} {x1 : Int32} {x3 : Int32} {w : wS} (h_kh12 : ∀ (c0 : Int32) (c1 : Int32) (c2 : wS), pp (kh12 c0 c1 c2) (fun r : (Int32 ⊕ String) × wS => eO cNo r.1)) (h_ke57 : ∀ (c0 : Int32) (c1 : Int32) (c2 : Int32) (c3 : wS), pp (ke57 c0 c1 c2 c3) (fun r : (Int32 ⊕ String) × wS => eO cNo r.1)) (h_ke80 : ∀ (c0 : wS), pp (ke80 c0) (fun r : (Int32 ⊕ String) × wS => eO cNo r.1)) : pp (B_X9_round_12 o kh12 ke57 ke80 x1 x3 w) (fun r : (Int32 ⊕ String) × wS => eO cNo r.1) := by
  unfold B_X9_round_12
  repeat' (first
    | with_reducible exact pp_some eO_l
    | with_reducible exact pp_some eO_r
    | with_reducible (subst_vars; exact pp_some eO_r)
    | with_reducible exact h_kh12 _ _ _ 
    | with_reducible exact h_ke57 _ _ _ _ 
    | with_reducible exact h_ke80 _ 
    | with_reducible refine eN_J_X9_round_26 ?_ ?_ ?_ 
    | with_reducible refine pp_if ?_ ?_
    | with_reducible refine pp_xIf ?_
    | with_reducible (refine pp_B pp_any ?_; intro _ _)
    | with_reducible (refine pp_B2 pp_any ?_; intro _ _ _)
    | with_reducible assumption
    | with_reducible (intro _))
theorem eN_P_X9_round_12 {o : wO} {ke57 : Int32 → Int32 → Int32 → wS → Option ((Int32 ⊕ String) × wS)} {ke80 : wS → Option ((Int32 ⊕ String) × wS)} {n : Nat} {x1 : Int32} {x3 : Int32} {w : wS} (h_ke57 : ∀ (c0 : Int32) (c1 : Int32) (c2 : Int32) (c3 : wS), pp (ke57 c0 c1 c2 c3) (fun r : (Int32 ⊕ String) × wS => eO cNo r.1)) (h_ke80 : ∀ (c0 : wS), pp (ke80 c0) (fun r : (Int32 ⊕ String) × wS => eO cNo r.1)) : pp (P_X9_round_12 o ke57 ke80 n x1 x3 w) (fun r : (Int32 ⊕ String) × wS => eO cNo r.1) := by
  unfold P_X9_round_12
  refine pp_loop (I := fun _ => True) (fun kk hkk σ _ => ?_) _ _ trivial
  refine eN_B_X9_round_12 ?_ ?_ ?_ 
  · exact fun c0 c1 c2 => hkk (c0, c1, c2) trivial
  · exact h_ke57
  · exact h_ke80
theorem eN_J_X9_round_67 {o : wO} {y0 : Int32} {w : wS} : pp (J_X9_round_67 o y0 w) (fun r : (Int32 ⊕ String) × wS => eO cNo r.1) := by
  unfold J_X9_round_67
  repeat' (first
    | with_reducible exact pp_some eO_l
    | with_reducible exact pp_some eO_r
    | with_reducible (subst_vars; exact pp_some eO_r)
    | with_reducible refine pp_if ?_ ?_
    | with_reducible refine pp_xIf ?_
    | with_reducible (refine pp_B pp_any ?_; intro _ _)
    | with_reducible (refine pp_B2 pp_any ?_; intro _ _ _)
    | with_reducible assumption
    | with_reducible (intro _))
theorem eN_L_X9_round {o : wO} {a1 : Int32} {w : wS} : pp (L_X9_round o a1 w) (fun r : (Int32 ⊕ String) × wS => eO cNo r.1) := by
  unfold L_X9_round
  repeat' (first
    | with_reducible exact pp_some eO_l
    | with_reducible exact pp_some eO_r
    | with_reducible (subst_vars; exact pp_some eO_r)
    | with_reducible refine pp_BT eN_L_X9_needWhat ?_ ?_
    | with_reducible refine eN_P_X9_round_12 ?_ ?_ 
    | with_reducible exact eN_J_X9_round_67
    | with_reducible refine pp_if ?_ ?_
    | with_reducible refine pp_xIf ?_
    | with_reducible (refine pp_B pp_any ?_; intro _ _)
    | with_reducible (refine pp_B2 pp_any ?_; intro _ _ _)
    | with_reducible assumption
    | with_reducible (intro _))
theorem eN_J_X9_delay_100 {o : wO} {kh32 : Int32 → Int32 → Int32 → wS → Option ((Int32 ⊕ String) × wS)} {ke106 : Int32 → wS → Option ((Int32 ⊕ String) × wS)} {x1 : Int32} {x4 : Int32} {x5 : Int32} {w : wS} (h_kh32 : ∀ (c0 : Int32) (c1 : Int32) (c2 : Int32) (c3 : wS), pp (kh32 c0 c1 c2 c3) (fun r : (Int32 ⊕ String) × wS => eO cNo r.1)) (h_ke106 : ∀ (c0 : Int32) (c1 : wS), pp (ke106 c0 c1) (fun r : (Int32 ⊕ String) × wS => eO cNo r.1)) : pp (J_X9_delay_100 o kh32 ke106 x1 x4 x5 w) (fun r : (Int32 ⊕ String) × wS => eO cNo r.1) := by
  unfold J_X9_delay_100
  repeat' (first
    | with_reducible exact pp_some eO_l
    | with_reducible exact pp_some eO_r
    | with_reducible (subst_vars; exact pp_some eO_r)
    | with_reducible exact h_kh32 _ _ _ _ 
    | with_reducible exact h_ke106 _ _ 
    | with_reducible refine pp_if ?_ ?_
    | with_reducible refine pp_xIf ?_
    | with_reducible (refine pp_B pp_any ?_; intro _ _)
    | with_reducible (refine pp_B2 pp_any ?_; intro _ _ _)
    | with_reducible assumption
    | with_reducible (intro _))
theorem eN_J_X9_delay_74 {o : wO} {kh32 : Int32 → Int32 → Int32 → wS → Option ((Int32 ⊕ String) × wS)} {ke106 : Int32 → wS → Option ((Int32 ⊕ String) × wS)} {x1 : Int32} {x4 : Int32} {x5 : Int32} {y0 : Int32} {w : wS} (h_kh32 : ∀ (c0 : Int32) (c1 : Int32) (c2 : Int32) (c3 : wS), pp (kh32 c0 c1 c2 c3) (fun r : (Int32 ⊕ String) × wS => eO cNo r.1)) (h_ke106 : ∀ (c0 : Int32) (c1 : wS), pp (ke106 c0 c1) (fun r : (Int32 ⊕ String) × wS => eO cNo r.1)) : pp (J_X9_delay_74 o kh32 ke106 x1 x4 x5 y0 w) (fun r : (Int32 ⊕ String) × wS => eO cNo r.1) := by
  unfold J_X9_delay_74
  repeat' (first
    | with_reducible exact pp_some eO_l
    | with_reducible exact pp_some eO_r
    | with_reducible (subst_vars; exact pp_some eO_r)
    | with_reducible exact h_kh32 _ _ _ _ 
    | with_reducible exact h_ke106 _ _ 
    | with_reducible refine eN_J_X9_delay_100 ?_ ?_ 
    | with_reducible refine pp_if ?_ ?_
    | with_reducible refine pp_xIf ?_
    | with_reducible (refine pp_B pp_any ?_; intro _ _)
    | with_reducible (refine pp_B2 pp_any ?_; intro _ _ _)
    | with_reducible assumption
    | with_reducible (intro _))
theorem eN_B_X9_delay_32 {o : wO} {kh32 : Int32 → Int32 → Int32 → wS → Option ((Int32 ⊕ String) × wS)} {ke106 : Int32 → wS → Option ((Int32 ⊕ String) × wS)} {x1 : Int32} {x4 : Int32} {x5 : Int32} {w : wS} (h_kh32 : ∀ (c0 : Int32) (c1 : Int32) (c2 : Int32) (c3 : wS), pp (kh32 c0 c1 c2 c3) (fun r : (Int32 ⊕ String) × wS => eO cNo r.1)) (h_ke106 : ∀ (c0 : Int32) (c1 : wS), pp (ke106 c0 c1) (fun r : (Int32 ⊕ String) × wS => eO cNo r.1)) : pp (B_X9_delay_32 o kh32 ke106 x1 x4 x5 w) (fun r : (Int32 ⊕ String) × wS => eO cNo r.1) := by
  unfold B_X9_delay_32
  repeat' (first
    | with_reducible exact pp_some eO_l
    | with_reducible exact pp_some eO_r
    | with_reducible (subst_vars; exact pp_some eO_r)
    | with_reducible exact h_kh32 _ _ _ _ 
    | with_reducible exact h_ke106 _ _ 
    | with_reducible refine eN_J_X9_delay_100 ?_ ?_ 
    | with_reducible refine eN_J_X9_delay_74 ?_ ?_ 
    | with_reducible refine pp_if ?_ ?_
    | with_reducible refine pp_xIf ?_
    | with_reducible (refine pp_B pp_any ?_; intro _ _)
    | with_reducible (refine pp_B2 pp_any ?_; intro _ _ _)
    | with_reducible assumption
    | with_reducible (intro _))
theorem eN_P_X9_delay_32 {o : wO} {ke106 : Int32 → wS → Option ((Int32 ⊕ String) × wS)} {n : Nat} {x1 : Int32} {x4 : Int32} {x5 : Int32} {w : wS} (h_ke106 : ∀ (c0 : Int32) (c1 : wS), pp (ke106 c0 c1) (fun r : (Int32 ⊕ String) × wS => eO cNo r.1)) : pp (P_X9_delay_32 o ke106 n x1 x4 x5 w) (fun r : (Int32 ⊕ String) × wS => eO cNo r.1) := by
  unfold P_X9_delay_32
  refine pp_loop (I := fun _ => True) (fun kk hkk σ _ => ?_) _ _ trivial
  refine eN_B_X9_delay_32 ?_ ?_ 
  · exact fun c0 c1 c2 c3 => hkk (c0, c1, c2, c3) trivial
  · exact h_ke106
theorem eN_J_X9_delay_119 {o : wO} {y0 : Int32} {w : wS} : pp (J_X9_delay_119 o y0 w) (fun r : (Int32 ⊕ String) × wS => eO cNo r.1) := by
  unfold J_X9_delay_119
  repeat' (first
    | with_reducible exact pp_some eO_l
    | with_reducible exact pp_some eO_r
    | with_reducible (subst_vars; exact pp_some eO_r)
    | with_reducible refine pp_if ?_ ?_
    | with_reducible refine pp_xIf ?_
    | with_reducible (refine pp_B pp_any ?_; intro _ _)
    | with_reducible (refine pp_B2 pp_any ?_; intro _ _ _)
    | with_reducible assumption
    | with_reducible (intro _))
theorem eN_L_X9_delay {o : wO} {a1 : Int32} {a2 : Int32} {w : wS} : pp (L_X9_delay o a1 a2 w) (fun r : (Int32 ⊕ String) × wS => eO cNo r.1) := by
  unfold L_X9_delay
  repeat' (first
    | with_reducible exact pp_some eO_l
    | with_reducible exact pp_some eO_r
    | with_reducible (subst_vars; exact pp_some eO_r)
    | with_reducible refine pp_BT eN_L_X9_needPerson ?_ ?_
    | with_reducible refine pp_BT eN_L_X9_needDuty ?_ ?_
    | with_reducible refine eN_P_X9_delay_32 ?_ 
    | with_reducible exact eN_J_X9_delay_119
    | with_reducible refine pp_if ?_ ?_
    | with_reducible refine pp_xIf ?_
    | with_reducible (refine pp_B pp_any ?_; intro _ _)
    | with_reducible (refine pp_B2 pp_any ?_; intro _ _ _)
    | with_reducible assumption
    | with_reducible (intro _))
theorem eN_B_X9_rota_48 {o : wO} {kh48 : Int32 → Int32 → Int32 → Int32 → wS → Option ((Int32 ⊕ String) × wS)} {ke67 : wS → Option ((Int32 ⊕ String) × wS)} {ke82 : Int32 → wS → Option ((Int32 ⊕ String) × wS)} {x1 : Int32} {x2 : Int32} {x3 : Int32} {x4 : Int32} {w : wS} (h_kh48 : ∀ (c0 : Int32) (c1 : Int32) (c2 : Int32) (c3 : Int32) (c4 : wS), pp (kh48 c0 c1 c2 c3 c4) (fun r : (Int32 ⊕ String) × wS => eO cNo r.1)) (h_ke67 : ∀ (c0 : wS), pp (ke67 c0) (fun r : (Int32 ⊕ String) × wS => eO cNo r.1)) (h_ke82 : ∀ (c0 : Int32) (c1 : wS), pp (ke82 c0 c1) (fun r : (Int32 ⊕ String) × wS => eO cNo r.1)) : pp (B_X9_rota_48 o kh48 ke67 ke82 x1 x2 x3 x4 w) (fun r : (Int32 ⊕ String) × wS => eO cNo r.1) := by
  unfold B_X9_rota_48
  repeat' (first
    | with_reducible exact pp_some eO_l
    | with_reducible exact pp_some eO_r
    | with_reducible (subst_vars; exact pp_some eO_r)
    | with_reducible exact h_kh48 _ _ _ _ _ 
    | with_reducible exact h_ke67 _ 
    | with_reducible exact h_ke82 _ _ 
    | with_reducible refine pp_if ?_ ?_
    | with_reducible refine pp_xIf ?_
    | with_reducible (refine pp_B pp_any ?_; intro _ _)
    | with_reducible (refine pp_B2 pp_any ?_; intro _ _ _)
    | with_reducible assumption
    | with_reducible (intro _))
theorem eN_P_X9_rota_48 {o : wO} {ke67 : wS → Option ((Int32 ⊕ String) × wS)} {ke82 : Int32 → wS → Option ((Int32 ⊕ String) × wS)} {n : Nat} {x1 : Int32} {x2 : Int32} {x3 : Int32} {x4 : Int32} {w : wS} (h_ke67 : ∀ (c0 : wS), pp (ke67 c0) (fun r : (Int32 ⊕ String) × wS => eO cNo r.1)) (h_ke82 : ∀ (c0 : Int32) (c1 : wS), pp (ke82 c0 c1) (fun r : (Int32 ⊕ String) × wS => eO cNo r.1)) : pp (P_X9_rota_48 o ke67 ke82 n x1 x2 x3 x4 w) (fun r : (Int32 ⊕ String) × wS => eO cNo r.1) := by
  unfold P_X9_rota_48
  refine pp_loop (I := fun _ => True) (fun kk hkk σ _ => ?_) _ _ trivial
  refine eN_B_X9_rota_48 ?_ ?_ ?_ 
  · exact fun c0 c1 c2 c3 c4 => hkk (c0, c1, c2, c3, c4) trivial
  · exact h_ke67
  · exact h_ke82
theorem eN_J_X9_rota_10 {o : wO} {x1 : Int32} {w : wS} : pp (J_X9_rota_10 o x1 w) (fun r : (Int32 ⊕ String) × wS => eO cNo r.1) := by
  unfold J_X9_rota_10
  repeat' (first
    | with_reducible exact pp_some eO_l
    | with_reducible exact pp_some eO_r
    | with_reducible (subst_vars; exact pp_some eO_r)
    | with_reducible refine eN_P_X9_rota_48 ?_ ?_ 
    | with_reducible refine pp_if ?_ ?_
    | with_reducible refine pp_xIf ?_
    | with_reducible (refine pp_B pp_any ?_; intro _ _)
    | with_reducible (refine pp_B2 pp_any ?_; intro _ _ _)
    | with_reducible assumption
    | with_reducible (intro _))
theorem eN_L_X9_rota {o : wO} {a1 : Int32} {w : wS} : pp (L_X9_rota o a1 w) (fun r : (Int32 ⊕ String) × wS => eO cNo r.1) := by
  unfold L_X9_rota
  repeat' (first
    | with_reducible exact pp_some eO_l
    | with_reducible exact pp_some eO_r
    | with_reducible (subst_vars; exact pp_some eO_r)
    | with_reducible exact eN_J_X9_rota_10
    | with_reducible refine pp_BT eN_L_X9_needDuty ?_ ?_
    | with_reducible refine pp_if ?_ ?_
    | with_reducible refine pp_xIf ?_
    | with_reducible (refine pp_B pp_any ?_; intro _ _)
    | with_reducible (refine pp_B2 pp_any ?_; intro _ _ _)
    | with_reducible assumption
    | with_reducible (intro _))
theorem eN_J_X9_see_55 {o : wO} {w : wS} : pp (J_X9_see_55 o w) (fun r : (Int32 ⊕ String) × wS => eO cNo r.1) := by
  unfold J_X9_see_55
  repeat' (first
    | with_reducible exact pp_some eO_l
    | with_reducible exact pp_some eO_r
    | with_reducible (subst_vars; exact pp_some eO_r)
    | with_reducible refine pp_if ?_ ?_
    | with_reducible refine pp_xIf ?_
    | with_reducible (refine pp_B pp_any ?_; intro _ _)
    | with_reducible (refine pp_B2 pp_any ?_; intro _ _ _)
    | with_reducible assumption
    | with_reducible (intro _))
theorem eN_J_X9_see_32 {o : wO} {x1 : Int32} {x2 : Int32} {x3 : Int32} {y0 : Int32} {w : wS} : pp (J_X9_see_32 o x1 x2 x3 y0 w) (fun r : (Int32 ⊕ String) × wS => eO cNo r.1) := by
  unfold J_X9_see_32
  repeat' (first
    | with_reducible exact pp_some eO_l
    | with_reducible exact pp_some eO_r
    | with_reducible (subst_vars; exact pp_some eO_r)
    | with_reducible exact eN_J_X9_see_55
    | with_reducible refine pp_if ?_ ?_
    | with_reducible refine pp_xIf ?_
    | with_reducible (refine pp_B pp_any ?_; intro _ _)
    | with_reducible (refine pp_B2 pp_any ?_; intro _ _ _)
    | with_reducible assumption
    | with_reducible (intro _))
theorem eN_J_X9_see_31 {o : wO} {x1 : Int32} {x2 : Int32} {x3 : Int32} {w : wS} : pp (J_X9_see_31 o x1 x2 x3 w) (fun r : (Int32 ⊕ String) × wS => eO cNo r.1) := by
  unfold J_X9_see_31
  repeat' (first
    | with_reducible exact pp_some eO_l
    | with_reducible exact pp_some eO_r
    | with_reducible (subst_vars; exact pp_some eO_r)
    | with_reducible exact eN_J_X9_see_32
    | with_reducible refine pp_if ?_ ?_
    | with_reducible refine pp_xIf ?_
    | with_reducible (refine pp_B pp_any ?_; intro _ _)
    | with_reducible (refine pp_B2 pp_any ?_; intro _ _ _)
    | with_reducible assumption
    | with_reducible (intro _))
theorem eN_L_X9_see {o : wO} {a1 : Int32} {a2 : Int32} {a3 : Int32} {w : wS} : pp (L_X9_see o a1 a2 a3 w) (fun r : (Int32 ⊕ String) × wS => eO cNo r.1) := by
  unfold L_X9_see
  repeat' (first
    | with_reducible exact pp_some eO_l
    | with_reducible exact pp_some eO_r
    | with_reducible (subst_vars; exact pp_some eO_r)
    | with_reducible refine pp_BT eN_L_X9_needDuty ?_ ?_
    | with_reducible exact eN_J_X9_see_31
    | with_reducible exact eN_J_X9_see_32
    | with_reducible refine pp_if ?_ ?_
    | with_reducible refine pp_xIf ?_
    | with_reducible (refine pp_B pp_any ?_; intro _ _)
    | with_reducible (refine pp_B2 pp_any ?_; intro _ _ _)
    | with_reducible assumption
    | with_reducible (intro _))
theorem eN_J_X9_habits_24 {o : wO} {y0 : Int32} {w : wS} : pp (J_X9_habits_24 o y0 w) (fun r : (Int32 ⊕ String) × wS => eO cNo r.1) := by
  unfold J_X9_habits_24
  repeat' (first
    | with_reducible exact pp_some eO_l
    | with_reducible exact pp_some eO_r
    | with_reducible (subst_vars; exact pp_some eO_r)
    | with_reducible refine pp_if ?_ ?_
    | with_reducible refine pp_xIf ?_
    | with_reducible (refine pp_B pp_any ?_; intro _ _)
    | with_reducible (refine pp_B2 pp_any ?_; intro _ _ _)
    | with_reducible assumption
    | with_reducible (intro _))
theorem eN_J_X9_habits_90 {o : wO} {kh43 : Int32 → Int32 → Int32 → Int32 → wS → Option ((Int32 ⊕ String) × wS)} {ke79 : Int32 → Int32 → wS → Option ((Int32 ⊕ String) × wS)} {ke96 : Int32 → Int32 → Int32 → wS → Option ((Int32 ⊕ String) × wS)} {x1 : Int32} {x2 : Int32} {x3 : Int32} {x4 : Int32} {w : wS} (h_kh43 : ∀ (c0 : Int32) (c1 : Int32) (c2 : Int32) (c3 : Int32) (c4 : wS), pp (kh43 c0 c1 c2 c3 c4) (fun r : (Int32 ⊕ String) × wS => eO cNo r.1)) (h_ke79 : ∀ (c0 : Int32) (c1 : Int32) (c2 : wS), pp (ke79 c0 c1 c2) (fun r : (Int32 ⊕ String) × wS => eO cNo r.1)) (h_ke96 : ∀ (c0 : Int32) (c1 : Int32) (c2 : Int32) (c3 : wS), pp (ke96 c0 c1 c2 c3) (fun r : (Int32 ⊕ String) × wS => eO cNo r.1)) : pp (J_X9_habits_90 o kh43 ke79 ke96 x1 x2 x3 x4 w) (fun r : (Int32 ⊕ String) × wS => eO cNo r.1) := by
  unfold J_X9_habits_90
  repeat' (first
    | with_reducible exact pp_some eO_l
    | with_reducible exact pp_some eO_r
    | with_reducible (subst_vars; exact pp_some eO_r)
    | with_reducible exact h_kh43 _ _ _ _ _ 
    | with_reducible exact h_ke79 _ _ _ 
    | with_reducible exact h_ke96 _ _ _ _ 
    | with_reducible refine pp_if ?_ ?_
    | with_reducible refine pp_xIf ?_
    | with_reducible (refine pp_B pp_any ?_; intro _ _)
    | with_reducible (refine pp_B2 pp_any ?_; intro _ _ _)
    | with_reducible assumption
    | with_reducible (intro _))
theorem eN_B_X9_habits_43 {o : wO} {kh43 : Int32 → Int32 → Int32 → Int32 → wS → Option ((Int32 ⊕ String) × wS)} {ke79 : Int32 → Int32 → wS → Option ((Int32 ⊕ String) × wS)} {ke96 : Int32 → Int32 → Int32 → wS → Option ((Int32 ⊕ String) × wS)} {x1 : Int32} {x2 : Int32} {x3 : Int32} {x4 : Int32} {w : wS} (h_kh43 : ∀ (c0 : Int32) (c1 : Int32) (c2 : Int32) (c3 : Int32) (c4 : wS), pp (kh43 c0 c1 c2 c3 c4) (fun r : (Int32 ⊕ String) × wS => eO cNo r.1)) (h_ke79 : ∀ (c0 : Int32) (c1 : Int32) (c2 : wS), pp (ke79 c0 c1 c2) (fun r : (Int32 ⊕ String) × wS => eO cNo r.1)) (h_ke96 : ∀ (c0 : Int32) (c1 : Int32) (c2 : Int32) (c3 : wS), pp (ke96 c0 c1 c2 c3) (fun r : (Int32 ⊕ String) × wS => eO cNo r.1)) : pp (B_X9_habits_43 o kh43 ke79 ke96 x1 x2 x3 x4 w) (fun r : (Int32 ⊕ String) × wS => eO cNo r.1) := by
  unfold B_X9_habits_43
  repeat' (first
    | with_reducible exact pp_some eO_l
    | with_reducible exact pp_some eO_r
    | with_reducible (subst_vars; exact pp_some eO_r)
    | with_reducible exact h_kh43 _ _ _ _ _ 
    | with_reducible exact h_ke79 _ _ _ 
    | with_reducible exact h_ke96 _ _ _ _ 
    | with_reducible refine eN_J_X9_habits_90 ?_ ?_ ?_ 
    | with_reducible refine pp_if ?_ ?_
    | with_reducible refine pp_xIf ?_
    | with_reducible (refine pp_B pp_any ?_; intro _ _)
    | with_reducible (refine pp_B2 pp_any ?_; intro _ _ _)
    | with_reducible assumption
    | with_reducible (intro _))
theorem eN_P_X9_habits_43 {o : wO} {ke79 : Int32 → Int32 → wS → Option ((Int32 ⊕ String) × wS)} {ke96 : Int32 → Int32 → Int32 → wS → Option ((Int32 ⊕ String) × wS)} {n : Nat} {x1 : Int32} {x2 : Int32} {x3 : Int32} {x4 : Int32} {w : wS} (h_ke79 : ∀ (c0 : Int32) (c1 : Int32) (c2 : wS), pp (ke79 c0 c1 c2) (fun r : (Int32 ⊕ String) × wS => eO cNo r.1)) (h_ke96 : ∀ (c0 : Int32) (c1 : Int32) (c2 : Int32) (c3 : wS), pp (ke96 c0 c1 c2 c3) (fun r : (Int32 ⊕ String) × wS => eO cNo r.1)) : pp (P_X9_habits_43 o ke79 ke96 n x1 x2 x3 x4 w) (fun r : (Int32 ⊕ String) × wS => eO cNo r.1) := by
  unfold P_X9_habits_43
  refine pp_loop (I := fun _ => True) (fun kk hkk σ _ => ?_) _ _ trivial
  refine eN_B_X9_habits_43 ?_ ?_ ?_ 
  · exact fun c0 c1 c2 c3 c4 => hkk (c0, c1, c2, c3, c4) trivial
  · exact h_ke79
  · exact h_ke96
theorem eN_B_X9_habits_29 {o : wO} {kh29 : Int32 → Int32 → Int32 → wS → Option ((Int32 ⊕ String) × wS)} {ke79 : Int32 → Int32 → wS → Option ((Int32 ⊕ String) × wS)} {ke102 : Int32 → Int32 → wS → Option ((Int32 ⊕ String) × wS)} {x1 : Int32} {x2 : Int32} {x3 : Int32} {w : wS} (h_kh29 : ∀ (c0 : Int32) (c1 : Int32) (c2 : Int32) (c3 : wS), pp (kh29 c0 c1 c2 c3) (fun r : (Int32 ⊕ String) × wS => eO cNo r.1)) (h_ke79 : ∀ (c0 : Int32) (c1 : Int32) (c2 : wS), pp (ke79 c0 c1 c2) (fun r : (Int32 ⊕ String) × wS => eO cNo r.1)) (h_ke102 : ∀ (c0 : Int32) (c1 : Int32) (c2 : wS), pp (ke102 c0 c1 c2) (fun r : (Int32 ⊕ String) × wS => eO cNo r.1)) : pp (B_X9_habits_29 o kh29 ke79 ke102 x1 x2 x3 w) (fun r : (Int32 ⊕ String) × wS => eO cNo r.1) := by
  unfold B_X9_habits_29
  repeat' (first
    | with_reducible exact pp_some eO_l
    | with_reducible exact pp_some eO_r
    | with_reducible (subst_vars; exact pp_some eO_r)
    | with_reducible exact h_kh29 _ _ _ _ 
    | with_reducible exact h_ke79 _ _ _ 
    | with_reducible exact h_ke102 _ _ _ 
    | with_reducible refine eN_P_X9_habits_43 ?_ ?_ 
    | with_reducible refine pp_if ?_ ?_
    | with_reducible refine pp_xIf ?_
    | with_reducible (refine pp_B pp_any ?_; intro _ _)
    | with_reducible (refine pp_B2 pp_any ?_; intro _ _ _)
    | with_reducible assumption
    | with_reducible (intro _))
theorem eN_P_X9_habits_29 {o : wO} {ke79 : Int32 → Int32 → wS → Option ((Int32 ⊕ String) × wS)} {ke102 : Int32 → Int32 → wS → Option ((Int32 ⊕ String) × wS)} {n : Nat} {x1 : Int32} {x2 : Int32} {x3 : Int32} {w : wS} (h_ke79 : ∀ (c0 : Int32) (c1 : Int32) (c2 : wS), pp (ke79 c0 c1 c2) (fun r : (Int32 ⊕ String) × wS => eO cNo r.1)) (h_ke102 : ∀ (c0 : Int32) (c1 : Int32) (c2 : wS), pp (ke102 c0 c1 c2) (fun r : (Int32 ⊕ String) × wS => eO cNo r.1)) : pp (P_X9_habits_29 o ke79 ke102 n x1 x2 x3 w) (fun r : (Int32 ⊕ String) × wS => eO cNo r.1) := by
  unfold P_X9_habits_29
  refine pp_loop (I := fun _ => True) (fun kk hkk σ _ => ?_) _ _ trivial
  refine eN_B_X9_habits_29 ?_ ?_ ?_ 
  · exact fun c0 c1 c2 c3 => hkk (c0, c1, c2, c3) trivial
  · exact h_ke79
  · exact h_ke102
theorem eN_J_X9_habits_111 {o : wO} {y0 : Int32} {w : wS} : pp (J_X9_habits_111 o y0 w) (fun r : (Int32 ⊕ String) × wS => eO cNo r.1) := by
  unfold J_X9_habits_111
  repeat' (first
    | with_reducible exact pp_some eO_l
    | with_reducible exact pp_some eO_r
    | with_reducible (subst_vars; exact pp_some eO_r)
    | with_reducible refine pp_if ?_ ?_
    | with_reducible refine pp_xIf ?_
    | with_reducible (refine pp_B pp_any ?_; intro _ _)
    | with_reducible (refine pp_B2 pp_any ?_; intro _ _ _)
    | with_reducible assumption
    | with_reducible (intro _))
theorem eN_L_X9_habits {o : wO} {a1 : Int32} {w : wS} : pp (L_X9_habits o a1 w) (fun r : (Int32 ⊕ String) × wS => eO cNo r.1) := by
  unfold L_X9_habits
  repeat' (first
    | with_reducible exact pp_some eO_l
    | with_reducible exact pp_some eO_r
    | with_reducible (subst_vars; exact pp_some eO_r)
    | with_reducible refine pp_BT eN_L_X9_needWhat ?_ ?_
    | with_reducible exact eN_J_X9_habits_24
    | with_reducible refine eN_P_X9_habits_29 ?_ ?_ 
    | with_reducible exact eN_J_X9_habits_111
    | with_reducible refine pp_if ?_ ?_
    | with_reducible refine pp_xIf ?_
    | with_reducible (refine pp_B pp_any ?_; intro _ _)
    | with_reducible (refine pp_B2 pp_any ?_; intro _ _ _)
    | with_reducible assumption
    | with_reducible (intro _))
theorem eN_J_X9_next_62 {o : wO} {kh28 : Int32 → Int32 → Int32 → wS → Option ((Int32 ⊕ String) × wS)} {ke68 : Int32 → Int32 → wS → Option ((Int32 ⊕ String) × wS)} {x1 : Int32} {x2 : Int32} {x3 : Int32} {w : wS} (h_kh28 : ∀ (c0 : Int32) (c1 : Int32) (c2 : Int32) (c3 : wS), pp (kh28 c0 c1 c2 c3) (fun r : (Int32 ⊕ String) × wS => eO cNo r.1)) (h_ke68 : ∀ (c0 : Int32) (c1 : Int32) (c2 : wS), pp (ke68 c0 c1 c2) (fun r : (Int32 ⊕ String) × wS => eO cNo r.1)) : pp (J_X9_next_62 o kh28 ke68 x1 x2 x3 w) (fun r : (Int32 ⊕ String) × wS => eO cNo r.1) := by
  unfold J_X9_next_62
  repeat' (first
    | with_reducible exact pp_some eO_l
    | with_reducible exact pp_some eO_r
    | with_reducible (subst_vars; exact pp_some eO_r)
    | with_reducible exact h_kh28 _ _ _ _ 
    | with_reducible exact h_ke68 _ _ _ 
    | with_reducible refine pp_if ?_ ?_
    | with_reducible refine pp_xIf ?_
    | with_reducible (refine pp_B pp_any ?_; intro _ _)
    | with_reducible (refine pp_B2 pp_any ?_; intro _ _ _)
    | with_reducible assumption
    | with_reducible (intro _))
theorem eN_B_X9_next_28 {o : wO} {kh28 : Int32 → Int32 → Int32 → wS → Option ((Int32 ⊕ String) × wS)} {ke68 : Int32 → Int32 → wS → Option ((Int32 ⊕ String) × wS)} {x1 : Int32} {x2 : Int32} {x3 : Int32} {w : wS} (h_kh28 : ∀ (c0 : Int32) (c1 : Int32) (c2 : Int32) (c3 : wS), pp (kh28 c0 c1 c2 c3) (fun r : (Int32 ⊕ String) × wS => eO cNo r.1)) (h_ke68 : ∀ (c0 : Int32) (c1 : Int32) (c2 : wS), pp (ke68 c0 c1 c2) (fun r : (Int32 ⊕ String) × wS => eO cNo r.1)) : pp (B_X9_next_28 o kh28 ke68 x1 x2 x3 w) (fun r : (Int32 ⊕ String) × wS => eO cNo r.1) := by
  unfold B_X9_next_28
  repeat' (first
    | with_reducible exact pp_some eO_l
    | with_reducible exact pp_some eO_r
    | with_reducible (subst_vars; exact pp_some eO_r)
    | with_reducible exact h_kh28 _ _ _ _ 
    | with_reducible exact h_ke68 _ _ _ 
    | with_reducible refine eN_J_X9_next_62 ?_ ?_ 
    | with_reducible refine pp_if ?_ ?_
    | with_reducible refine pp_xIf ?_
    | with_reducible (refine pp_B pp_any ?_; intro _ _)
    | with_reducible (refine pp_B2 pp_any ?_; intro _ _ _)
    | with_reducible assumption
    | with_reducible (intro _))
theorem eN_P_X9_next_28 {o : wO} {ke68 : Int32 → Int32 → wS → Option ((Int32 ⊕ String) × wS)} {n : Nat} {x1 : Int32} {x2 : Int32} {x3 : Int32} {w : wS} (h_ke68 : ∀ (c0 : Int32) (c1 : Int32) (c2 : wS), pp (ke68 c0 c1 c2) (fun r : (Int32 ⊕ String) × wS => eO cNo r.1)) : pp (P_X9_next_28 o ke68 n x1 x2 x3 w) (fun r : (Int32 ⊕ String) × wS => eO cNo r.1) := by
  unfold P_X9_next_28
  refine pp_loop (I := fun _ => True) (fun kk hkk σ _ => ?_) _ _ trivial
  refine eN_B_X9_next_28 ?_ ?_ 
  · exact fun c0 c1 c2 c3 => hkk (c0, c1, c2, c3) trivial
  · exact h_ke68
theorem eN_B_X9_next_15 {o : wO} {kh15 : Int32 → Int32 → wS → Option ((Int32 ⊕ String) × wS)} {ke74 : Int32 → wS → Option ((Int32 ⊕ String) × wS)} {x1 : Int32} {x2 : Int32} {w : wS} (h_kh15 : ∀ (c0 : Int32) (c1 : Int32) (c2 : wS), pp (kh15 c0 c1 c2) (fun r : (Int32 ⊕ String) × wS => eO cNo r.1)) (h_ke74 : ∀ (c0 : Int32) (c1 : wS), pp (ke74 c0 c1) (fun r : (Int32 ⊕ String) × wS => eO cNo r.1)) : pp (B_X9_next_15 o kh15 ke74 x1 x2 w) (fun r : (Int32 ⊕ String) × wS => eO cNo r.1) := by
  unfold B_X9_next_15
  repeat' (first
    | with_reducible exact pp_some eO_l
    | with_reducible exact pp_some eO_r
    | with_reducible (subst_vars; exact pp_some eO_r)
    | with_reducible exact h_kh15 _ _ _ 
    | with_reducible exact h_ke74 _ _ 
    | with_reducible refine eN_P_X9_next_28 ?_ 
    | with_reducible refine pp_if ?_ ?_
    | with_reducible refine pp_xIf ?_
    | with_reducible (refine pp_B pp_any ?_; intro _ _)
    | with_reducible (refine pp_B2 pp_any ?_; intro _ _ _)
    | with_reducible assumption
    | with_reducible (intro _))
theorem eN_P_X9_next_15 {o : wO} {ke74 : Int32 → wS → Option ((Int32 ⊕ String) × wS)} {n : Nat} {x1 : Int32} {x2 : Int32} {w : wS} (h_ke74 : ∀ (c0 : Int32) (c1 : wS), pp (ke74 c0 c1) (fun r : (Int32 ⊕ String) × wS => eO cNo r.1)) : pp (P_X9_next_15 o ke74 n x1 x2 w) (fun r : (Int32 ⊕ String) × wS => eO cNo r.1) := by
  unfold P_X9_next_15
  refine pp_loop (I := fun _ => True) (fun kk hkk σ _ => ?_) _ _ trivial
  refine eN_B_X9_next_15 ?_ ?_ 
  · exact fun c0 c1 c2 => hkk (c0, c1, c2) trivial
  · exact h_ke74
theorem eN_J_X9_next_134 {o : wO} {kh81 : Int32 → Int32 → Int32 → Int32 → wS → Option ((Int32 ⊕ String) × wS)} {ke140 : Int32 → Int32 → Int32 → wS → Option ((Int32 ⊕ String) × wS)} {x1 : Int32} {x2 : Int32} {x3 : Int32} {x4 : Int32} {w : wS} (h_kh81 : ∀ (c0 : Int32) (c1 : Int32) (c2 : Int32) (c3 : Int32) (c4 : wS), pp (kh81 c0 c1 c2 c3 c4) (fun r : (Int32 ⊕ String) × wS => eO cNo r.1)) (h_ke140 : ∀ (c0 : Int32) (c1 : Int32) (c2 : Int32) (c3 : wS), pp (ke140 c0 c1 c2 c3) (fun r : (Int32 ⊕ String) × wS => eO cNo r.1)) : pp (J_X9_next_134 o kh81 ke140 x1 x2 x3 x4 w) (fun r : (Int32 ⊕ String) × wS => eO cNo r.1) := by
  unfold J_X9_next_134
  repeat' (first
    | with_reducible exact pp_some eO_l
    | with_reducible exact pp_some eO_r
    | with_reducible (subst_vars; exact pp_some eO_r)
    | with_reducible exact h_kh81 _ _ _ _ _ 
    | with_reducible exact h_ke140 _ _ _ _ 
    | with_reducible refine pp_if ?_ ?_
    | with_reducible refine pp_xIf ?_
    | with_reducible (refine pp_B pp_any ?_; intro _ _)
    | with_reducible (refine pp_B2 pp_any ?_; intro _ _ _)
    | with_reducible assumption
    | with_reducible (intro _))
theorem eN_B_X9_next_81 {o : wO} {kh81 : Int32 → Int32 → Int32 → Int32 → wS → Option ((Int32 ⊕ String) × wS)} {ke140 : Int32 → Int32 → Int32 → wS → Option ((Int32 ⊕ String) × wS)} {x1 : Int32} {x2 : Int32} {x3 : Int32} {x4 : Int32} {w : wS} (h_kh81 : ∀ (c0 : Int32) (c1 : Int32) (c2 : Int32) (c3 : Int32) (c4 : wS), pp (kh81 c0 c1 c2 c3 c4) (fun r : (Int32 ⊕ String) × wS => eO cNo r.1)) (h_ke140 : ∀ (c0 : Int32) (c1 : Int32) (c2 : Int32) (c3 : wS), pp (ke140 c0 c1 c2 c3) (fun r : (Int32 ⊕ String) × wS => eO cNo r.1)) : pp (B_X9_next_81 o kh81 ke140 x1 x2 x3 x4 w) (fun r : (Int32 ⊕ String) × wS => eO cNo r.1) := by
  unfold B_X9_next_81
  repeat' (first
    | with_reducible exact pp_some eO_l
    | with_reducible exact pp_some eO_r
    | with_reducible (subst_vars; exact pp_some eO_r)
    | with_reducible exact h_kh81 _ _ _ _ _ 
    | with_reducible exact h_ke140 _ _ _ _ 
    | with_reducible refine eN_J_X9_next_134 ?_ ?_ 
    | with_reducible refine pp_if ?_ ?_
    | with_reducible refine pp_xIf ?_
    | with_reducible (refine pp_B pp_any ?_; intro _ _)
    | with_reducible (refine pp_B2 pp_any ?_; intro _ _ _)
    | with_reducible assumption
    | with_reducible (intro _))
theorem eN_P_X9_next_81 {o : wO} {ke140 : Int32 → Int32 → Int32 → wS → Option ((Int32 ⊕ String) × wS)} {n : Nat} {x1 : Int32} {x2 : Int32} {x3 : Int32} {x4 : Int32} {w : wS} (h_ke140 : ∀ (c0 : Int32) (c1 : Int32) (c2 : Int32) (c3 : wS), pp (ke140 c0 c1 c2 c3) (fun r : (Int32 ⊕ String) × wS => eO cNo r.1)) : pp (P_X9_next_81 o ke140 n x1 x2 x3 x4 w) (fun r : (Int32 ⊕ String) × wS => eO cNo r.1) := by
  unfold P_X9_next_81
  refine pp_loop (I := fun _ => True) (fun kk hkk σ _ => ?_) _ _ trivial
  refine eN_B_X9_next_81 ?_ ?_ 
  · exact fun c0 c1 c2 c3 c4 => hkk (c0, c1, c2, c3, c4) trivial
  · exact h_ke140
theorem eN_J_X9_next_149 {o : wO} {y0 : Int32} {w : wS} : pp (J_X9_next_149 o y0 w) (fun r : (Int32 ⊕ String) × wS => eO cNo r.1) := by
  unfold J_X9_next_149
  repeat' (first
    | with_reducible exact pp_some eO_l
    | with_reducible exact pp_some eO_r
    | with_reducible (subst_vars; exact pp_some eO_r)
    | with_reducible refine pp_if ?_ ?_
    | with_reducible refine pp_xIf ?_
    | with_reducible (refine pp_B pp_any ?_; intro _ _)
    | with_reducible (refine pp_B2 pp_any ?_; intro _ _ _)
    | with_reducible assumption
    | with_reducible (intro _))
theorem eN_L_X9_next {o : wO} {a1 : Int32} {w : wS} : pp (L_X9_next o a1 w) (fun r : (Int32 ⊕ String) × wS => eO cNo r.1) := by
  unfold L_X9_next
  repeat' (first
    | with_reducible exact pp_some eO_l
    | with_reducible exact pp_some eO_r
    | with_reducible (subst_vars; exact pp_some eO_r)
    | with_reducible refine pp_BT eN_L_X9_needWhat ?_ ?_
    | with_reducible refine eN_P_X9_next_15 ?_ 
    | with_reducible refine eN_P_X9_next_81 ?_ 
    | with_reducible exact eN_J_X9_next_149
    | with_reducible refine pp_if ?_ ?_
    | with_reducible refine pp_xIf ?_
    | with_reducible (refine pp_B pp_any ?_; intro _ _)
    | with_reducible (refine pp_B2 pp_any ?_; intro _ _ _)
    | with_reducible assumption
    | with_reducible (intro _))
theorem eN_J_X9_coming_88 {o : wO} {kh35 : Int32 → Int32 → Int32 → wS → Option ((Int32 ⊕ String) × wS)} {ke70 : Int32 → Int32 → wS → Option ((Int32 ⊕ String) × wS)} {ke94 : wS → Option ((Int32 ⊕ String) × wS)} {x2 : Int32} {x3 : Int32} {x5 : Int32} {w : wS} (h_kh35 : ∀ (c0 : Int32) (c1 : Int32) (c2 : Int32) (c3 : wS), pp (kh35 c0 c1 c2 c3) (fun r : (Int32 ⊕ String) × wS => eO cNo r.1)) (h_ke70 : ∀ (c0 : Int32) (c1 : Int32) (c2 : wS), pp (ke70 c0 c1 c2) (fun r : (Int32 ⊕ String) × wS => eO cNo r.1)) (h_ke94 : ∀ (c0 : wS), pp (ke94 c0) (fun r : (Int32 ⊕ String) × wS => eO cNo r.1)) : pp (J_X9_coming_88 o kh35 ke70 ke94 x2 x3 x5 w) (fun r : (Int32 ⊕ String) × wS => eO cNo r.1) := by
  unfold J_X9_coming_88
  repeat' (first
    | with_reducible exact pp_some eO_l
    | with_reducible exact pp_some eO_r
    | with_reducible (subst_vars; exact pp_some eO_r)
    | with_reducible exact h_kh35 _ _ _ _ 
    | with_reducible exact h_ke70 _ _ _ 
    | with_reducible exact h_ke94 _ 
    | with_reducible refine pp_if ?_ ?_
    | with_reducible refine pp_xIf ?_
    | with_reducible (refine pp_B pp_any ?_; intro _ _)
    | with_reducible (refine pp_B2 pp_any ?_; intro _ _ _)
    | with_reducible assumption
    | with_reducible (intro _))
theorem eN_B_X9_coming_35 {o : wO} {kh35 : Int32 → Int32 → Int32 → wS → Option ((Int32 ⊕ String) × wS)} {ke70 : Int32 → Int32 → wS → Option ((Int32 ⊕ String) × wS)} {ke94 : wS → Option ((Int32 ⊕ String) × wS)} {x2 : Int32} {x3 : Int32} {x5 : Int32} {w : wS} (h_kh35 : ∀ (c0 : Int32) (c1 : Int32) (c2 : Int32) (c3 : wS), pp (kh35 c0 c1 c2 c3) (fun r : (Int32 ⊕ String) × wS => eO cNo r.1)) (h_ke70 : ∀ (c0 : Int32) (c1 : Int32) (c2 : wS), pp (ke70 c0 c1 c2) (fun r : (Int32 ⊕ String) × wS => eO cNo r.1)) (h_ke94 : ∀ (c0 : wS), pp (ke94 c0) (fun r : (Int32 ⊕ String) × wS => eO cNo r.1)) : pp (B_X9_coming_35 o kh35 ke70 ke94 x2 x3 x5 w) (fun r : (Int32 ⊕ String) × wS => eO cNo r.1) := by
  unfold B_X9_coming_35
  repeat' (first
    | with_reducible exact pp_some eO_l
    | with_reducible exact pp_some eO_r
    | with_reducible (subst_vars; exact pp_some eO_r)
    | with_reducible exact h_kh35 _ _ _ _ 
    | with_reducible exact h_ke70 _ _ _ 
    | with_reducible exact h_ke94 _ 
    | with_reducible refine eN_J_X9_coming_88 ?_ ?_ ?_ 
    | with_reducible refine pp_if ?_ ?_
    | with_reducible refine pp_xIf ?_
    | with_reducible (refine pp_B pp_any ?_; intro _ _)
    | with_reducible (refine pp_B2 pp_any ?_; intro _ _ _)
    | with_reducible assumption
    | with_reducible (intro _))
theorem eN_P_X9_coming_35 {o : wO} {ke70 : Int32 → Int32 → wS → Option ((Int32 ⊕ String) × wS)} {ke94 : wS → Option ((Int32 ⊕ String) × wS)} {n : Nat} {x2 : Int32} {x3 : Int32} {x5 : Int32} {w : wS} (h_ke70 : ∀ (c0 : Int32) (c1 : Int32) (c2 : wS), pp (ke70 c0 c1 c2) (fun r : (Int32 ⊕ String) × wS => eO cNo r.1)) (h_ke94 : ∀ (c0 : wS), pp (ke94 c0) (fun r : (Int32 ⊕ String) × wS => eO cNo r.1)) : pp (P_X9_coming_35 o ke70 ke94 n x2 x3 x5 w) (fun r : (Int32 ⊕ String) × wS => eO cNo r.1) := by
  unfold P_X9_coming_35
  refine pp_loop (I := fun _ => True) (fun kk hkk σ _ => ?_) _ _ trivial
  refine eN_B_X9_coming_35 ?_ ?_ ?_ 
  · exact fun c0 c1 c2 c3 => hkk (c0, c1, c2, c3) trivial
  · exact h_ke70
  · exact h_ke94
theorem eN_J_X9_coming_87 {o : wO} {y0 : Int32} {w : wS} : pp (J_X9_coming_87 o y0 w) (fun r : (Int32 ⊕ String) × wS => eO cNo r.1) := by
  unfold J_X9_coming_87
  repeat' (first
    | with_reducible exact pp_some eO_l
    | with_reducible exact pp_some eO_r
    | with_reducible (subst_vars; exact pp_some eO_r)
    | with_reducible refine pp_if ?_ ?_
    | with_reducible refine pp_xIf ?_
    | with_reducible (refine pp_B pp_any ?_; intro _ _)
    | with_reducible (refine pp_B2 pp_any ?_; intro _ _ _)
    | with_reducible assumption
    | with_reducible (intro _))
theorem eN_L_X9_coming {o : wO} {a1 : Int32} {a2 : Int32} {a3 : Int32} {w : wS} : pp (L_X9_coming o a1 a2 a3 w) (fun r : (Int32 ⊕ String) × wS => eO cNo r.1) := by
  unfold L_X9_coming
  repeat' (first
    | with_reducible exact pp_some eO_l
    | with_reducible exact pp_some eO_r
    | with_reducible (subst_vars; exact pp_some eO_r)
    | with_reducible refine pp_BT eN_L_X9_needDuty ?_ ?_
    | with_reducible refine pp_BT eN_L_X9_needWhat ?_ ?_
    | with_reducible refine eN_P_X9_coming_35 ?_ ?_ 
    | with_reducible exact eN_J_X9_coming_87
    | with_reducible refine pp_if ?_ ?_
    | with_reducible refine pp_xIf ?_
    | with_reducible (refine pp_B pp_any ?_; intro _ _)
    | with_reducible (refine pp_B2 pp_any ?_; intro _ _ _)
    | with_reducible assumption
    | with_reducible (intro _))
theorem eN_J_X9_spread_72 {o : wO} {kh19 : Int32 → Int32 → Int32 → wS → Option ((Int32 ⊕ String) × wS)} {ke78 : Int32 → Int32 → wS → Option ((Int32 ⊕ String) × wS)} {x3 : Int32} {x4 : Int32} {x5 : Int32} {w : wS} (h_kh19 : ∀ (c0 : Int32) (c1 : Int32) (c2 : Int32) (c3 : wS), pp (kh19 c0 c1 c2 c3) (fun r : (Int32 ⊕ String) × wS => eO cNo r.1)) (h_ke78 : ∀ (c0 : Int32) (c1 : Int32) (c2 : wS), pp (ke78 c0 c1 c2) (fun r : (Int32 ⊕ String) × wS => eO cNo r.1)) : pp (J_X9_spread_72 o kh19 ke78 x3 x4 x5 w) (fun r : (Int32 ⊕ String) × wS => eO cNo r.1) := by
  unfold J_X9_spread_72
  repeat' (first
    | with_reducible exact pp_some eO_l
    | with_reducible exact pp_some eO_r
    | with_reducible (subst_vars; exact pp_some eO_r)
    | with_reducible exact h_kh19 _ _ _ _ 
    | with_reducible exact h_ke78 _ _ _ 
    | with_reducible refine pp_if ?_ ?_
    | with_reducible refine pp_xIf ?_
    | with_reducible (refine pp_B pp_any ?_; intro _ _)
    | with_reducible (refine pp_B2 pp_any ?_; intro _ _ _)
    | with_reducible assumption
    | with_reducible (intro _))
theorem eN_J_X9_spread_62 {o : wO} {kh19 : Int32 → Int32 → Int32 → wS → Option ((Int32 ⊕ String) × wS)} {ke78 : Int32 → Int32 → wS → Option ((Int32 ⊕ String) × wS)} {x4 : Int32} {x5 : Int32} {x6 : Int32} {y0 : Int32} {w : wS} (h_kh19 : ∀ (c0 : Int32) (c1 : Int32) (c2 : Int32) (c3 : wS), pp (kh19 c0 c1 c2 c3) (fun r : (Int32 ⊕ String) × wS => eO cNo r.1)) (h_ke78 : ∀ (c0 : Int32) (c1 : Int32) (c2 : wS), pp (ke78 c0 c1 c2) (fun r : (Int32 ⊕ String) × wS => eO cNo r.1)) : pp (J_X9_spread_62 o kh19 ke78 x4 x5 x6 y0 w) (fun r : (Int32 ⊕ String) × wS => eO cNo r.1) := by
  unfold J_X9_spread_62
  repeat' (first
    | with_reducible exact pp_some eO_l
    | with_reducible exact pp_some eO_r
    | with_reducible (subst_vars; exact pp_some eO_r)
    | with_reducible exact h_kh19 _ _ _ _ 
    | with_reducible exact h_ke78 _ _ _ 
    | with_reducible refine eN_J_X9_spread_72 ?_ ?_ 
    | with_reducible refine pp_if ?_ ?_
    | with_reducible refine pp_xIf ?_
    | with_reducible (refine pp_B pp_any ?_; intro _ _)
    | with_reducible (refine pp_B2 pp_any ?_; intro _ _ _)
    | with_reducible assumption
    | with_reducible (intro _))
theorem eN_B_X9_spread_19 {o : wO} {kh19 : Int32 → Int32 → Int32 → wS → Option ((Int32 ⊕ String) × wS)} {ke78 : Int32 → Int32 → wS → Option ((Int32 ⊕ String) × wS)} {x3 : Int32} {x4 : Int32} {x5 : Int32} {w : wS} (h_kh19 : ∀ (c0 : Int32) (c1 : Int32) (c2 : Int32) (c3 : wS), pp (kh19 c0 c1 c2 c3) (fun r : (Int32 ⊕ String) × wS => eO cNo r.1)) (h_ke78 : ∀ (c0 : Int32) (c1 : Int32) (c2 : wS), pp (ke78 c0 c1 c2) (fun r : (Int32 ⊕ String) × wS => eO cNo r.1)) : pp (B_X9_spread_19 o kh19 ke78 x3 x4 x5 w) (fun r : (Int32 ⊕ String) × wS => eO cNo r.1) := by
  unfold B_X9_spread_19
  repeat' (first
    | with_reducible exact pp_some eO_l
    | with_reducible exact pp_some eO_r
    | with_reducible (subst_vars; exact pp_some eO_r)
    | with_reducible exact h_kh19 _ _ _ _ 
    | with_reducible exact h_ke78 _ _ _ 
    | with_reducible refine eN_J_X9_spread_72 ?_ ?_ 
    | with_reducible refine eN_J_X9_spread_62 ?_ ?_ 
    | with_reducible refine pp_if ?_ ?_
    | with_reducible refine pp_xIf ?_
    | with_reducible (refine pp_B pp_any ?_; intro _ _)
    | with_reducible (refine pp_B2 pp_any ?_; intro _ _ _)
    | with_reducible assumption
    | with_reducible (intro _))
theorem eN_P_X9_spread_19 {o : wO} {ke78 : Int32 → Int32 → wS → Option ((Int32 ⊕ String) × wS)} {n : Nat} {x3 : Int32} {x4 : Int32} {x5 : Int32} {w : wS} (h_ke78 : ∀ (c0 : Int32) (c1 : Int32) (c2 : wS), pp (ke78 c0 c1 c2) (fun r : (Int32 ⊕ String) × wS => eO cNo r.1)) : pp (P_X9_spread_19 o ke78 n x3 x4 x5 w) (fun r : (Int32 ⊕ String) × wS => eO cNo r.1) := by
  unfold P_X9_spread_19
  refine pp_loop (I := fun _ => True) (fun kk hkk σ _ => ?_) _ _ trivial
  refine eN_B_X9_spread_19 ?_ ?_ 
  · exact fun c0 c1 c2 c3 => hkk (c0, c1, c2, c3) trivial
  · exact h_ke78
theorem eN_J_X9_spread_91 {o : wO} {y0 : Int32} {w : wS} : pp (J_X9_spread_91 o y0 w) (fun r : (Int32 ⊕ String) × wS => eO cNo r.1) := by
  unfold J_X9_spread_91
  repeat' (first
    | with_reducible exact pp_some eO_l
    | with_reducible exact pp_some eO_r
    | with_reducible (subst_vars; exact pp_some eO_r)
    | with_reducible refine pp_if ?_ ?_
    | with_reducible refine pp_xIf ?_
    | with_reducible (refine pp_B pp_any ?_; intro _ _)
    | with_reducible (refine pp_B2 pp_any ?_; intro _ _ _)
    | with_reducible assumption
    | with_reducible (intro _))
theorem eN_L_X9_spread {o : wO} {a1 : Int32} {w : wS} : pp (L_X9_spread o a1 w) (fun r : (Int32 ⊕ String) × wS => eO cNo r.1) := by
  unfold L_X9_spread
  repeat' (first
    | with_reducible exact pp_some eO_l
    | with_reducible exact pp_some eO_r
    | with_reducible (subst_vars; exact pp_some eO_r)
    | with_reducible refine pp_BT eN_L_X9_needDuty ?_ ?_
    | with_reducible refine eN_P_X9_spread_19 ?_ 
    | with_reducible exact eN_J_X9_spread_91
    | with_reducible refine pp_if ?_ ?_
    | with_reducible refine pp_xIf ?_
    | with_reducible (refine pp_B pp_any ?_; intro _ _)
    | with_reducible (refine pp_B2 pp_any ?_; intro _ _ _)
    | with_reducible assumption
    | with_reducible (intro _))
theorem eN_J_X9_ahead_76 {o : wO} {kh34 : Int32 → Int32 → Int32 → wS → Option ((Int32 ⊕ String) × wS)} {ke82 : Int32 → wS → Option ((Int32 ⊕ String) × wS)} {x1 : Int32} {x4 : Int32} {x5 : Int32} {w : wS} (h_kh34 : ∀ (c0 : Int32) (c1 : Int32) (c2 : Int32) (c3 : wS), pp (kh34 c0 c1 c2 c3) (fun r : (Int32 ⊕ String) × wS => eO cNo r.1)) (h_ke82 : ∀ (c0 : Int32) (c1 : wS), pp (ke82 c0 c1) (fun r : (Int32 ⊕ String) × wS => eO cNo r.1)) : pp (J_X9_ahead_76 o kh34 ke82 x1 x4 x5 w) (fun r : (Int32 ⊕ String) × wS => eO cNo r.1) := by
  unfold J_X9_ahead_76
  repeat' (first
    | with_reducible exact pp_some eO_l
    | with_reducible exact pp_some eO_r
    | with_reducible (subst_vars; exact pp_some eO_r)
    | with_reducible exact h_kh34 _ _ _ _ 
    | with_reducible exact h_ke82 _ _ 
    | with_reducible refine pp_if ?_ ?_
    | with_reducible refine pp_xIf ?_
    | with_reducible (refine pp_B pp_any ?_; intro _ _)
    | with_reducible (refine pp_B2 pp_any ?_; intro _ _ _)
    | with_reducible assumption
    | with_reducible (intro _))
theorem eN_B_X9_ahead_34 {o : wO} {kh34 : Int32 → Int32 → Int32 → wS → Option ((Int32 ⊕ String) × wS)} {ke82 : Int32 → wS → Option ((Int32 ⊕ String) × wS)} {x1 : Int32} {x4 : Int32} {x5 : Int32} {w : wS} (h_kh34 : ∀ (c0 : Int32) (c1 : Int32) (c2 : Int32) (c3 : wS), pp (kh34 c0 c1 c2 c3) (fun r : (Int32 ⊕ String) × wS => eO cNo r.1)) (h_ke82 : ∀ (c0 : Int32) (c1 : wS), pp (ke82 c0 c1) (fun r : (Int32 ⊕ String) × wS => eO cNo r.1)) : pp (B_X9_ahead_34 o kh34 ke82 x1 x4 x5 w) (fun r : (Int32 ⊕ String) × wS => eO cNo r.1) := by
  unfold B_X9_ahead_34
  repeat' (first
    | with_reducible exact pp_some eO_l
    | with_reducible exact pp_some eO_r
    | with_reducible (subst_vars; exact pp_some eO_r)
    | with_reducible exact h_kh34 _ _ _ _ 
    | with_reducible exact h_ke82 _ _ 
    | with_reducible refine eN_J_X9_ahead_76 ?_ ?_ 
    | with_reducible refine pp_if ?_ ?_
    | with_reducible refine pp_xIf ?_
    | with_reducible (refine pp_B pp_any ?_; intro _ _)
    | with_reducible (refine pp_B2 pp_any ?_; intro _ _ _)
    | with_reducible assumption
    | with_reducible (intro _))
theorem eN_P_X9_ahead_34 {o : wO} {ke82 : Int32 → wS → Option ((Int32 ⊕ String) × wS)} {n : Nat} {x1 : Int32} {x4 : Int32} {x5 : Int32} {w : wS} (h_ke82 : ∀ (c0 : Int32) (c1 : wS), pp (ke82 c0 c1) (fun r : (Int32 ⊕ String) × wS => eO cNo r.1)) : pp (P_X9_ahead_34 o ke82 n x1 x4 x5 w) (fun r : (Int32 ⊕ String) × wS => eO cNo r.1) := by
  unfold P_X9_ahead_34
  refine pp_loop (I := fun _ => True) (fun kk hkk σ _ => ?_) _ _ trivial
  refine eN_B_X9_ahead_34 ?_ ?_ 
  · exact fun c0 c1 c2 c3 => hkk (c0, c1, c2, c3) trivial
  · exact h_ke82
theorem eN_L_X9_ahead {o : wO} {a1 : Int32} {a2 : Int32} {w : wS} : pp (L_X9_ahead o a1 a2 w) (fun r : (Int32 ⊕ String) × wS => eO cNo r.1) := by
  unfold L_X9_ahead
  repeat' (first
    | with_reducible exact pp_some eO_l
    | with_reducible exact pp_some eO_r
    | with_reducible (subst_vars; exact pp_some eO_r)
    | with_reducible refine pp_BT eN_L_X9_needPerson ?_ ?_
    | with_reducible refine pp_BT eN_L_X9_needDuty ?_ ?_
    | with_reducible refine eN_P_X9_ahead_34 ?_ 
    | with_reducible refine pp_if ?_ ?_
    | with_reducible refine pp_xIf ?_
    | with_reducible (refine pp_B pp_any ?_; intro _ _)
    | with_reducible (refine pp_B2 pp_any ?_; intro _ _ _)
    | with_reducible assumption
    | with_reducible (intro _))
theorem eN_J_X9_nearest_48 {o : wO} {kh9 : Int32 → Int32 → Int32 → wS → Option ((Int32 ⊕ String) × wS)} {ke54 : Int32 → wS → Option ((Int32 ⊕ String) × wS)} {x1 : Int32} {x2 : Int32} {x3 : Int32} {w : wS} (h_kh9 : ∀ (c0 : Int32) (c1 : Int32) (c2 : Int32) (c3 : wS), pp (kh9 c0 c1 c2 c3) (fun r : (Int32 ⊕ String) × wS => eO cNo r.1)) (h_ke54 : ∀ (c0 : Int32) (c1 : wS), pp (ke54 c0 c1) (fun r : (Int32 ⊕ String) × wS => eO cNo r.1)) : pp (J_X9_nearest_48 o kh9 ke54 x1 x2 x3 w) (fun r : (Int32 ⊕ String) × wS => eO cNo r.1) := by
  unfold J_X9_nearest_48
  repeat' (first
    | with_reducible exact pp_some eO_l
    | with_reducible exact pp_some eO_r
    | with_reducible (subst_vars; exact pp_some eO_r)
    | with_reducible exact h_kh9 _ _ _ _ 
    | with_reducible exact h_ke54 _ _ 
    | with_reducible refine pp_if ?_ ?_
    | with_reducible refine pp_xIf ?_
    | with_reducible (refine pp_B pp_any ?_; intro _ _)
    | with_reducible (refine pp_B2 pp_any ?_; intro _ _ _)
    | with_reducible assumption
    | with_reducible (intro _))
theorem eN_J_X9_nearest_46 {o : wO} {kh9 : Int32 → Int32 → Int32 → wS → Option ((Int32 ⊕ String) × wS)} {ke54 : Int32 → wS → Option ((Int32 ⊕ String) × wS)} {x1 : Int32} {x3 : Int32} {w : wS} (h_kh9 : ∀ (c0 : Int32) (c1 : Int32) (c2 : Int32) (c3 : wS), pp (kh9 c0 c1 c2 c3) (fun r : (Int32 ⊕ String) × wS => eO cNo r.1)) (h_ke54 : ∀ (c0 : Int32) (c1 : wS), pp (ke54 c0 c1) (fun r : (Int32 ⊕ String) × wS => eO cNo r.1)) : pp (J_X9_nearest_46 o kh9 ke54 x1 x3 w) (fun r : (Int32 ⊕ String) × wS => eO cNo r.1) := by
  unfold J_X9_nearest_46
  repeat' (first
    | with_reducible exact pp_some eO_l
    | with_reducible exact pp_some eO_r
    | with_reducible (subst_vars; exact pp_some eO_r)
    | with_reducible exact h_kh9 _ _ _ _ 
    | with_reducible exact h_ke54 _ _ 
    | with_reducible refine eN_J_X9_nearest_48 ?_ ?_ 
    | with_reducible refine pp_if ?_ ?_
    | with_reducible refine pp_xIf ?_
    | with_reducible (refine pp_B pp_any ?_; intro _ _)
    | with_reducible (refine pp_B2 pp_any ?_; intro _ _ _)
    | with_reducible assumption
    | with_reducible (intro _))
theorem eN_B_X9_nearest_9 {o : wO} {kh9 : Int32 → Int32 → Int32 → wS → Option ((Int32 ⊕ String) × wS)} {ke54 : Int32 → wS → Option ((Int32 ⊕ String) × wS)} {x1 : Int32} {x2 : Int32} {x3 : Int32} {w : wS} (h_kh9 : ∀ (c0 : Int32) (c1 : Int32) (c2 : Int32) (c3 : wS), pp (kh9 c0 c1 c2 c3) (fun r : (Int32 ⊕ String) × wS => eO cNo r.1)) (h_ke54 : ∀ (c0 : Int32) (c1 : wS), pp (ke54 c0 c1) (fun r : (Int32 ⊕ String) × wS => eO cNo r.1)) : pp (B_X9_nearest_9 o kh9 ke54 x1 x2 x3 w) (fun r : (Int32 ⊕ String) × wS => eO cNo r.1) := by
  unfold B_X9_nearest_9
  repeat' (first
    | with_reducible exact pp_some eO_l
    | with_reducible exact pp_some eO_r
    | with_reducible (subst_vars; exact pp_some eO_r)
    | with_reducible exact h_kh9 _ _ _ _ 
    | with_reducible exact h_ke54 _ _ 
    | with_reducible refine eN_J_X9_nearest_46 ?_ ?_ 
    | with_reducible refine eN_J_X9_nearest_48 ?_ ?_ 
    | with_reducible refine pp_if ?_ ?_
    | with_reducible refine pp_xIf ?_
    | with_reducible (refine pp_B pp_any ?_; intro _ _)
    | with_reducible (refine pp_B2 pp_any ?_; intro _ _ _)
    | with_reducible assumption
    | with_reducible (intro _))
theorem eN_P_X9_nearest_9 {o : wO} {ke54 : Int32 → wS → Option ((Int32 ⊕ String) × wS)} {n : Nat} {x1 : Int32} {x2 : Int32} {x3 : Int32} {w : wS} (h_ke54 : ∀ (c0 : Int32) (c1 : wS), pp (ke54 c0 c1) (fun r : (Int32 ⊕ String) × wS => eO cNo r.1)) : pp (P_X9_nearest_9 o ke54 n x1 x2 x3 w) (fun r : (Int32 ⊕ String) × wS => eO cNo r.1) := by
  unfold P_X9_nearest_9
  refine pp_loop (I := fun _ => True) (fun kk hkk σ _ => ?_) _ _ trivial
  refine eN_B_X9_nearest_9 ?_ ?_ 
  · exact fun c0 c1 c2 c3 => hkk (c0, c1, c2, c3) trivial
  · exact h_ke54
theorem eN_L_X9_nearest {o : wO} {a1 : Int32} {w : wS} : pp (L_X9_nearest o a1 w) (fun r : (Int32 ⊕ String) × wS => eO cNo r.1) := by
  unfold L_X9_nearest
  repeat' (first
    | with_reducible exact pp_some eO_l
    | with_reducible exact pp_some eO_r
    | with_reducible (subst_vars; exact pp_some eO_r)
    | with_reducible refine pp_BT eN_L_X9_needPerson ?_ ?_
    | with_reducible refine eN_P_X9_nearest_9 ?_ 
    | with_reducible refine pp_if ?_ ?_
    | with_reducible refine pp_xIf ?_
    | with_reducible (refine pp_B pp_any ?_; intro _ _)
    | with_reducible (refine pp_B2 pp_any ?_; intro _ _ _)
    | with_reducible assumption
    | with_reducible (intro _))
theorem eI_J_X9_silent_71 {o : wO} {kh40 : Int32 → Int32 → Int32 → Int32 → wS → Option ((Int32 ⊕ String) × wS)} {ke77 : Int32 → Int32 → Int32 → wS → Option ((Int32 ⊕ String) × wS)} {x1 : Int32} {x3 : Int32} {x4 : Int32} {x5 : Int32} {w : wS} (h_kh40 : ∀ (c0 : Int32) (c1 : Int32) (c2 : Int32) (c3 : Int32) (c4 : wS), pp (kh40 c0 c1 c2 c3 c4) (fun r : (Int32 ⊕ String) × wS => eO cIl r.1)) (h_ke77 : ∀ (c0 : Int32) (c1 : Int32) (c2 : Int32) (c3 : wS), pp (ke77 c0 c1 c2 c3) (fun r : (Int32 ⊕ String) × wS => eO cIl r.1)) : pp (J_X9_silent_71 o kh40 ke77 x1 x3 x4 x5 w) (fun r : (Int32 ⊕ String) × wS => eO cIl r.1) := by
  unfold J_X9_silent_71
  repeat' (first
    | with_reducible exact pp_some eO_l
    | with_reducible exact pp_some eO_r
    | with_reducible (subst_vars; exact pp_some eO_r)
    | with_reducible exact h_kh40 _ _ _ _ _ 
    | with_reducible exact h_ke77 _ _ _ _ 
    | with_reducible refine pp_if ?_ ?_
    | with_reducible refine pp_xIf ?_
    | with_reducible (refine pp_B pp_any ?_; intro _ _)
    | with_reducible (refine pp_B2 pp_any ?_; intro _ _ _)
    | with_reducible assumption
    | with_reducible (intro _))
theorem eI_B_X9_silent_40 {o : wO} {kh40 : Int32 → Int32 → Int32 → Int32 → wS → Option ((Int32 ⊕ String) × wS)} {ke77 : Int32 → Int32 → Int32 → wS → Option ((Int32 ⊕ String) × wS)} {x1 : Int32} {x3 : Int32} {x4 : Int32} {x5 : Int32} {w : wS} (h_kh40 : ∀ (c0 : Int32) (c1 : Int32) (c2 : Int32) (c3 : Int32) (c4 : wS), pp (kh40 c0 c1 c2 c3 c4) (fun r : (Int32 ⊕ String) × wS => eO cIl r.1)) (h_ke77 : ∀ (c0 : Int32) (c1 : Int32) (c2 : Int32) (c3 : wS), pp (ke77 c0 c1 c2 c3) (fun r : (Int32 ⊕ String) × wS => eO cIl r.1)) : pp (B_X9_silent_40 o kh40 ke77 x1 x3 x4 x5 w) (fun r : (Int32 ⊕ String) × wS => eO cIl r.1) := by
  unfold B_X9_silent_40
  repeat' (first
    | with_reducible exact pp_some eO_l
    | with_reducible exact pp_some eO_r
    | with_reducible (subst_vars; exact pp_some eO_r)
    | with_reducible exact h_kh40 _ _ _ _ _ 
    | with_reducible exact h_ke77 _ _ _ _ 
    | with_reducible refine eI_J_X9_silent_71 ?_ ?_ 
    | with_reducible refine pp_if ?_ ?_
    | with_reducible refine pp_xIf ?_
    | with_reducible (refine pp_B pp_any ?_; intro _ _)
    | with_reducible (refine pp_B2 pp_any ?_; intro _ _ _)
    | with_reducible assumption
    | with_reducible (intro _))
theorem eI_P_X9_silent_40 {o : wO} {ke77 : Int32 → Int32 → Int32 → wS → Option ((Int32 ⊕ String) × wS)} {n : Nat} {x1 : Int32} {x3 : Int32} {x4 : Int32} {x5 : Int32} {w : wS} (h_ke77 : ∀ (c0 : Int32) (c1 : Int32) (c2 : Int32) (c3 : wS), pp (ke77 c0 c1 c2 c3) (fun r : (Int32 ⊕ String) × wS => eO cIl r.1)) : pp (P_X9_silent_40 o ke77 n x1 x3 x4 x5 w) (fun r : (Int32 ⊕ String) × wS => eO cIl r.1) := by
  unfold P_X9_silent_40
  refine pp_loop (I := fun _ => True) (fun kk hkk σ _ => ?_) _ _ trivial
  refine eI_B_X9_silent_40 ?_ ?_ 
  · exact fun c0 c1 c2 c3 c4 => hkk (c0, c1, c2, c3, c4) trivial
  · exact h_ke77
theorem eI_B_X9_silent_27 {o : wO} {kh27 : Int32 → Int32 → Int32 → wS → Option ((Int32 ⊕ String) × wS)} {ke83 : Int32 → wS → Option ((Int32 ⊕ String) × wS)} {x1 : Int32} {x3 : Int32} {x4 : Int32} {w : wS} (h_kh27 : ∀ (c0 : Int32) (c1 : Int32) (c2 : Int32) (c3 : wS), pp (kh27 c0 c1 c2 c3) (fun r : (Int32 ⊕ String) × wS => eO cIl r.1)) (h_ke83 : ∀ (c0 : Int32) (c1 : wS), pp (ke83 c0 c1) (fun r : (Int32 ⊕ String) × wS => eO cIl r.1)) : pp (B_X9_silent_27 o kh27 ke83 x1 x3 x4 w) (fun r : (Int32 ⊕ String) × wS => eO cIl r.1) := by
  unfold B_X9_silent_27
  repeat' (first
    | with_reducible exact pp_some eO_l
    | with_reducible exact pp_some eO_r
    | with_reducible (subst_vars; exact pp_some eO_r)
    | with_reducible exact h_kh27 _ _ _ _ 
    | with_reducible exact h_ke83 _ _ 
    | with_reducible refine eI_P_X9_silent_40 ?_ 
    | with_reducible refine pp_if ?_ ?_
    | with_reducible refine pp_xIf ?_
    | with_reducible (refine pp_B pp_any ?_; intro _ _)
    | with_reducible (refine pp_B2 pp_any ?_; intro _ _ _)
    | with_reducible assumption
    | with_reducible (intro _))
theorem eI_P_X9_silent_27 {o : wO} {ke83 : Int32 → wS → Option ((Int32 ⊕ String) × wS)} {n : Nat} {x1 : Int32} {x3 : Int32} {x4 : Int32} {w : wS} (h_ke83 : ∀ (c0 : Int32) (c1 : wS), pp (ke83 c0 c1) (fun r : (Int32 ⊕ String) × wS => eO cIl r.1)) : pp (P_X9_silent_27 o ke83 n x1 x3 x4 w) (fun r : (Int32 ⊕ String) × wS => eO cIl r.1) := by
  unfold P_X9_silent_27
  refine pp_loop (I := fun _ => True) (fun kk hkk σ _ => ?_) _ _ trivial
  refine eI_B_X9_silent_27 ?_ ?_ 
  · exact fun c0 c1 c2 c3 => hkk (c0, c1, c2, c3) trivial
  · exact h_ke83
theorem eI_L_X9_silent {o : wO} {a1 : Int32} {w : wS} : pp (L_X9_silent o a1 w) (fun r : (Int32 ⊕ String) × wS => eO cIl r.1) := by
  unfold L_X9_silent
  repeat' (first
    | with_reducible exact pp_some eO_l
    | with_reducible exact pp_some eO_r
    | with_reducible (subst_vars; exact pp_some eO_r)
    | with_reducible refine pp_BT eI_L_X9_needRange ?_ ?_
    | with_reducible refine eI_P_X9_silent_27 ?_ 
    | with_reducible refine pp_if ?_ ?_
    | with_reducible refine pp_xIf ?_
    | with_reducible (refine pp_B pp_any ?_; intro _ _)
    | with_reducible (refine pp_B2 pp_any ?_; intro _ _ _)
    | with_reducible assumption
    | with_reducible (intro _))
theorem eI_B_X9_behind_17 {o : wO} {kh17 : Int32 → Int32 → Int32 → wS → Option ((Int32 ⊕ String) × wS)} {ke40 : Int32 → wS → Option ((Int32 ⊕ String) × wS)} {x1 : Int32} {x3 : Int32} {x4 : Int32} {w : wS} (h_kh17 : ∀ (c0 : Int32) (c1 : Int32) (c2 : Int32) (c3 : wS), pp (kh17 c0 c1 c2 c3) (fun r : (Int32 ⊕ String) × wS => eO cIl r.1)) (h_ke40 : ∀ (c0 : Int32) (c1 : wS), pp (ke40 c0 c1) (fun r : (Int32 ⊕ String) × wS => eO cIl r.1)) : pp (B_X9_behind_17 o kh17 ke40 x1 x3 x4 w) (fun r : (Int32 ⊕ String) × wS => eO cIl r.1) := by
  unfold B_X9_behind_17
  repeat' (first
    | with_reducible exact pp_some eO_l
    | with_reducible exact pp_some eO_r
    | with_reducible (subst_vars; exact pp_some eO_r)
    | with_reducible exact h_kh17 _ _ _ _ 
    | with_reducible exact h_ke40 _ _ 
    | with_reducible refine pp_if ?_ ?_
    | with_reducible refine pp_xIf ?_
    | with_reducible (refine pp_B pp_any ?_; intro _ _)
    | with_reducible (refine pp_B2 pp_any ?_; intro _ _ _)
    | with_reducible assumption
    | with_reducible (intro _))
theorem eI_P_X9_behind_17 {o : wO} {ke40 : Int32 → wS → Option ((Int32 ⊕ String) × wS)} {n : Nat} {x1 : Int32} {x3 : Int32} {x4 : Int32} {w : wS} (h_ke40 : ∀ (c0 : Int32) (c1 : wS), pp (ke40 c0 c1) (fun r : (Int32 ⊕ String) × wS => eO cIl r.1)) : pp (P_X9_behind_17 o ke40 n x1 x3 x4 w) (fun r : (Int32 ⊕ String) × wS => eO cIl r.1) := by
  unfold P_X9_behind_17
  refine pp_loop (I := fun _ => True) (fun kk hkk σ _ => ?_) _ _ trivial
  refine eI_B_X9_behind_17 ?_ ?_ 
  · exact fun c0 c1 c2 c3 => hkk (c0, c1, c2, c3) trivial
  · exact h_ke40
theorem eI_L_X9_behind {o : wO} {a1 : Int32} {w : wS} : pp (L_X9_behind o a1 w) (fun r : (Int32 ⊕ String) × wS => eO cIl r.1) := by
  unfold L_X9_behind
  repeat' (first
    | with_reducible exact pp_some eO_l
    | with_reducible exact pp_some eO_r
    | with_reducible (subst_vars; exact pp_some eO_r)
    | with_reducible refine pp_BT eI_L_X9_needRange ?_ ?_
    | with_reducible refine eI_P_X9_behind_17 ?_ 
    | with_reducible refine pp_if ?_ ?_
    | with_reducible refine pp_xIf ?_
    | with_reducible (refine pp_B pp_any ?_; intro _ _)
    | with_reducible (refine pp_B2 pp_any ?_; intro _ _ _)
    | with_reducible assumption
    | with_reducible (intro _))
theorem eI_J_X9_most_62 {o : wO} {kh22 : Int32 → Int32 → wS → Option ((Int32 ⊕ String) × wS)} {ke68 : Int32 → wS → Option ((Int32 ⊕ String) × wS)} {x3 : Int32} {x4 : Int32} {w : wS} (h_kh22 : ∀ (c0 : Int32) (c1 : Int32) (c2 : wS), pp (kh22 c0 c1 c2) (fun r : (Int32 ⊕ String) × wS => eO cIl r.1)) (h_ke68 : ∀ (c0 : Int32) (c1 : wS), pp (ke68 c0 c1) (fun r : (Int32 ⊕ String) × wS => eO cIl r.1)) : pp (J_X9_most_62 o kh22 ke68 x3 x4 w) (fun r : (Int32 ⊕ String) × wS => eO cIl r.1) := by
  unfold J_X9_most_62
  repeat' (first
    | with_reducible exact pp_some eO_l
    | with_reducible exact pp_some eO_r
    | with_reducible (subst_vars; exact pp_some eO_r)
    | with_reducible exact h_kh22 _ _ _ 
    | with_reducible exact h_ke68 _ _ 
    | with_reducible refine pp_if ?_ ?_
    | with_reducible refine pp_xIf ?_
    | with_reducible (refine pp_B pp_any ?_; intro _ _)
    | with_reducible (refine pp_B2 pp_any ?_; intro _ _ _)
    | with_reducible assumption
    | with_reducible (intro _))
theorem eI_J_X9_most_56 {o : wO} {kh22 : Int32 → Int32 → wS → Option ((Int32 ⊕ String) × wS)} {ke68 : Int32 → wS → Option ((Int32 ⊕ String) × wS)} {x3 : Int32} {x4 : Int32} {y0 : Int32} {y1 : Int32} {w : wS} (h_kh22 : ∀ (c0 : Int32) (c1 : Int32) (c2 : wS), pp (kh22 c0 c1 c2) (fun r : (Int32 ⊕ String) × wS => eO cIl r.1)) (h_ke68 : ∀ (c0 : Int32) (c1 : wS), pp (ke68 c0 c1) (fun r : (Int32 ⊕ String) × wS => eO cIl r.1)) : pp (J_X9_most_56 o kh22 ke68 x3 x4 y0 y1 w) (fun r : (Int32 ⊕ String) × wS => eO cIl r.1) := by
  unfold J_X9_most_56
  repeat' (first
    | with_reducible exact pp_some eO_l
    | with_reducible exact pp_some eO_r
    | with_reducible (subst_vars; exact pp_some eO_r)
    | with_reducible exact h_kh22 _ _ _ 
    | with_reducible exact h_ke68 _ _ 
    | with_reducible refine eI_J_X9_most_62 ?_ ?_ 
    | with_reducible refine pp_if ?_ ?_
    | with_reducible refine pp_xIf ?_
    | with_reducible (refine pp_B pp_any ?_; intro _ _)
    | with_reducible (refine pp_B2 pp_any ?_; intro _ _ _)
    | with_reducible assumption
    | with_reducible (intro _))
theorem eI_B_X9_most_22 {o : wO} {kh22 : Int32 → Int32 → wS → Option ((Int32 ⊕ String) × wS)} {ke68 : Int32 → wS → Option ((Int32 ⊕ String) × wS)} {x3 : Int32} {x4 : Int32} {w : wS} (h_kh22 : ∀ (c0 : Int32) (c1 : Int32) (c2 : wS), pp (kh22 c0 c1 c2) (fun r : (Int32 ⊕ String) × wS => eO cIl r.1)) (h_ke68 : ∀ (c0 : Int32) (c1 : wS), pp (ke68 c0 c1) (fun r : (Int32 ⊕ String) × wS => eO cIl r.1)) : pp (B_X9_most_22 o kh22 ke68 x3 x4 w) (fun r : (Int32 ⊕ String) × wS => eO cIl r.1) := by
  unfold B_X9_most_22
  repeat' (first
    | with_reducible exact pp_some eO_l
    | with_reducible exact pp_some eO_r
    | with_reducible (subst_vars; exact pp_some eO_r)
    | with_reducible exact h_kh22 _ _ _ 
    | with_reducible exact h_ke68 _ _ 
    | with_reducible refine eI_J_X9_most_56 ?_ ?_ 
    | with_reducible refine pp_if ?_ ?_
    | with_reducible refine pp_xIf ?_
    | with_reducible (refine pp_B pp_any ?_; intro _ _)
    | with_reducible (refine pp_B2 pp_any ?_; intro _ _ _)
    | with_reducible assumption
    | with_reducible (intro _))
theorem eI_P_X9_most_22 {o : wO} {ke68 : Int32 → wS → Option ((Int32 ⊕ String) × wS)} {n : Nat} {x3 : Int32} {x4 : Int32} {w : wS} (h_ke68 : ∀ (c0 : Int32) (c1 : wS), pp (ke68 c0 c1) (fun r : (Int32 ⊕ String) × wS => eO cIl r.1)) : pp (P_X9_most_22 o ke68 n x3 x4 w) (fun r : (Int32 ⊕ String) × wS => eO cIl r.1) := by
  unfold P_X9_most_22
  refine pp_loop (I := fun _ => True) (fun kk hkk σ _ => ?_) _ _ trivial
  refine eI_B_X9_most_22 ?_ ?_ 
  · exact fun c0 c1 c2 => hkk (c0, c1, c2) trivial
  · exact h_ke68
theorem eI_L_X9_most {o : wO} {a1 : Int32} {w : wS} : pp (L_X9_most o a1 w) (fun r : (Int32 ⊕ String) × wS => eO cIl r.1) := by
  unfold L_X9_most
  repeat' (first
    | with_reducible exact pp_some eO_l
    | with_reducible exact pp_some eO_r
    | with_reducible (subst_vars; exact pp_some eO_r)
    | with_reducible refine pp_BT eI_L_X9_needRange ?_ ?_
    | with_reducible refine eI_P_X9_most_22 ?_ 
    | with_reducible refine pp_if ?_ ?_
    | with_reducible refine pp_xIf ?_
    | with_reducible (refine pp_B pp_any ?_; intro _ _)
    | with_reducible (refine pp_B2 pp_any ?_; intro _ _ _)
    | with_reducible assumption
    | with_reducible (intro _))
theorem eI_J_X9_handed_62 {o : wO} {kh30 : Int32 → Int32 → Int32 → Int32 → wS → Option ((Int32 ⊕ String) × wS)} {ke68 : Int32 → Int32 → Int32 → wS → Option ((Int32 ⊕ String) × wS)} {x1 : Int32} {x3 : Int32} {x4 : Int32} {x5 : Int32} {w : wS} (h_kh30 : ∀ (c0 : Int32) (c1 : Int32) (c2 : Int32) (c3 : Int32) (c4 : wS), pp (kh30 c0 c1 c2 c3 c4) (fun r : (Int32 ⊕ String) × wS => eO cIl r.1)) (h_ke68 : ∀ (c0 : Int32) (c1 : Int32) (c2 : Int32) (c3 : wS), pp (ke68 c0 c1 c2 c3) (fun r : (Int32 ⊕ String) × wS => eO cIl r.1)) : pp (J_X9_handed_62 o kh30 ke68 x1 x3 x4 x5 w) (fun r : (Int32 ⊕ String) × wS => eO cIl r.1) := by
  unfold J_X9_handed_62
  repeat' (first
    | with_reducible exact pp_some eO_l
    | with_reducible exact pp_some eO_r
    | with_reducible (subst_vars; exact pp_some eO_r)
    | with_reducible exact h_kh30 _ _ _ _ _ 
    | with_reducible exact h_ke68 _ _ _ _ 
    | with_reducible refine pp_if ?_ ?_
    | with_reducible refine pp_xIf ?_
    | with_reducible (refine pp_B pp_any ?_; intro _ _)
    | with_reducible (refine pp_B2 pp_any ?_; intro _ _ _)
    | with_reducible assumption
    | with_reducible (intro _))
theorem eI_B_X9_handed_30 {o : wO} {kh30 : Int32 → Int32 → Int32 → Int32 → wS → Option ((Int32 ⊕ String) × wS)} {ke68 : Int32 → Int32 → Int32 → wS → Option ((Int32 ⊕ String) × wS)} {x1 : Int32} {x3 : Int32} {x4 : Int32} {x5 : Int32} {w : wS} (h_kh30 : ∀ (c0 : Int32) (c1 : Int32) (c2 : Int32) (c3 : Int32) (c4 : wS), pp (kh30 c0 c1 c2 c3 c4) (fun r : (Int32 ⊕ String) × wS => eO cIl r.1)) (h_ke68 : ∀ (c0 : Int32) (c1 : Int32) (c2 : Int32) (c3 : wS), pp (ke68 c0 c1 c2 c3) (fun r : (Int32 ⊕ String) × wS => eO cIl r.1)) : pp (B_X9_handed_30 o kh30 ke68 x1 x3 x4 x5 w) (fun r : (Int32 ⊕ String) × wS => eO cIl r.1) := by
  unfold B_X9_handed_30
  repeat' (first
    | with_reducible exact pp_some eO_l
    | with_reducible exact pp_some eO_r
    | with_reducible (subst_vars; exact pp_some eO_r)
    | with_reducible exact h_kh30 _ _ _ _ _ 
    | with_reducible exact h_ke68 _ _ _ _ 
    | with_reducible refine eI_J_X9_handed_62 ?_ ?_ 
    | with_reducible refine pp_if ?_ ?_
    | with_reducible refine pp_xIf ?_
    | with_reducible (refine pp_B pp_any ?_; intro _ _)
    | with_reducible (refine pp_B2 pp_any ?_; intro _ _ _)
    | with_reducible assumption
    | with_reducible (intro _))
theorem eI_P_X9_handed_30 {o : wO} {ke68 : Int32 → Int32 → Int32 → wS → Option ((Int32 ⊕ String) × wS)} {n : Nat} {x1 : Int32} {x3 : Int32} {x4 : Int32} {x5 : Int32} {w : wS} (h_ke68 : ∀ (c0 : Int32) (c1 : Int32) (c2 : Int32) (c3 : wS), pp (ke68 c0 c1 c2 c3) (fun r : (Int32 ⊕ String) × wS => eO cIl r.1)) : pp (P_X9_handed_30 o ke68 n x1 x3 x4 x5 w) (fun r : (Int32 ⊕ String) × wS => eO cIl r.1) := by
  unfold P_X9_handed_30
  refine pp_loop (I := fun _ => True) (fun kk hkk σ _ => ?_) _ _ trivial
  refine eI_B_X9_handed_30 ?_ ?_ 
  · exact fun c0 c1 c2 c3 c4 => hkk (c0, c1, c2, c3, c4) trivial
  · exact h_ke68
theorem eI_B_X9_handed_17 {o : wO} {kh17 : Int32 → Int32 → Int32 → wS → Option ((Int32 ⊕ String) × wS)} {ke74 : Int32 → wS → Option ((Int32 ⊕ String) × wS)} {x1 : Int32} {x3 : Int32} {x4 : Int32} {w : wS} (h_kh17 : ∀ (c0 : Int32) (c1 : Int32) (c2 : Int32) (c3 : wS), pp (kh17 c0 c1 c2 c3) (fun r : (Int32 ⊕ String) × wS => eO cIl r.1)) (h_ke74 : ∀ (c0 : Int32) (c1 : wS), pp (ke74 c0 c1) (fun r : (Int32 ⊕ String) × wS => eO cIl r.1)) : pp (B_X9_handed_17 o kh17 ke74 x1 x3 x4 w) (fun r : (Int32 ⊕ String) × wS => eO cIl r.1) := by
  unfold B_X9_handed_17
  repeat' (first
    | with_reducible exact pp_some eO_l
    | with_reducible exact pp_some eO_r
    | with_reducible (subst_vars; exact pp_some eO_r)
    | with_reducible exact h_kh17 _ _ _ _ 
    | with_reducible exact h_ke74 _ _ 
    | with_reducible refine eI_P_X9_handed_30 ?_ 
    | with_reducible refine pp_if ?_ ?_
    | with_reducible refine pp_xIf ?_
    | with_reducible (refine pp_B pp_any ?_; intro _ _)
    | with_reducible (refine pp_B2 pp_any ?_; intro _ _ _)
    | with_reducible assumption
    | with_reducible (intro _))
theorem eI_P_X9_handed_17 {o : wO} {ke74 : Int32 → wS → Option ((Int32 ⊕ String) × wS)} {n : Nat} {x1 : Int32} {x3 : Int32} {x4 : Int32} {w : wS} (h_ke74 : ∀ (c0 : Int32) (c1 : wS), pp (ke74 c0 c1) (fun r : (Int32 ⊕ String) × wS => eO cIl r.1)) : pp (P_X9_handed_17 o ke74 n x1 x3 x4 w) (fun r : (Int32 ⊕ String) × wS => eO cIl r.1) := by
  unfold P_X9_handed_17
  refine pp_loop (I := fun _ => True) (fun kk hkk σ _ => ?_) _ _ trivial
  refine eI_B_X9_handed_17 ?_ ?_ 
  · exact fun c0 c1 c2 c3 => hkk (c0, c1, c2, c3) trivial
  · exact h_ke74
theorem eI_L_X9_handed {o : wO} {a1 : Int32} {w : wS} : pp (L_X9_handed o a1 w) (fun r : (Int32 ⊕ String) × wS => eO cIl r.1) := by
  unfold L_X9_handed
  repeat' (first
    | with_reducible exact pp_some eO_l
    | with_reducible exact pp_some eO_r
    | with_reducible (subst_vars; exact pp_some eO_r)
    | with_reducible refine pp_BT eI_L_X9_needRange ?_ ?_
    | with_reducible refine eI_P_X9_handed_17 ?_ 
    | with_reducible refine pp_if ?_ ?_
    | with_reducible refine pp_xIf ?_
    | with_reducible (refine pp_B pp_any ?_; intro _ _)
    | with_reducible (refine pp_B2 pp_any ?_; intro _ _ _)
    | with_reducible assumption
    | with_reducible (intro _))
theorem eN_J_X9_loses_49 {o : wO} {kh19 : Int32 → Int32 → Int32 → wS → Option ((Int32 ⊕ String) × wS)} {ke55 : Int32 → wS → Option ((Int32 ⊕ String) × wS)} {x1 : Int32} {x3 : Int32} {x4 : Int32} {w : wS} (h_kh19 : ∀ (c0 : Int32) (c1 : Int32) (c2 : Int32) (c3 : wS), pp (kh19 c0 c1 c2 c3) (fun r : (Int32 ⊕ String) × wS => eO cNo r.1)) (h_ke55 : ∀ (c0 : Int32) (c1 : wS), pp (ke55 c0 c1) (fun r : (Int32 ⊕ String) × wS => eO cNo r.1)) : pp (J_X9_loses_49 o kh19 ke55 x1 x3 x4 w) (fun r : (Int32 ⊕ String) × wS => eO cNo r.1) := by
  unfold J_X9_loses_49
  repeat' (first
    | with_reducible exact pp_some eO_l
    | with_reducible exact pp_some eO_r
    | with_reducible (subst_vars; exact pp_some eO_r)
    | with_reducible exact h_kh19 _ _ _ _ 
    | with_reducible exact h_ke55 _ _ 
    | with_reducible refine pp_if ?_ ?_
    | with_reducible refine pp_xIf ?_
    | with_reducible (refine pp_B pp_any ?_; intro _ _)
    | with_reducible (refine pp_B2 pp_any ?_; intro _ _ _)
    | with_reducible assumption
    | with_reducible (intro _))
theorem eN_B_X9_loses_19 {o : wO} {kh19 : Int32 → Int32 → Int32 → wS → Option ((Int32 ⊕ String) × wS)} {ke55 : Int32 → wS → Option ((Int32 ⊕ String) × wS)} {x1 : Int32} {x3 : Int32} {x4 : Int32} {w : wS} (h_kh19 : ∀ (c0 : Int32) (c1 : Int32) (c2 : Int32) (c3 : wS), pp (kh19 c0 c1 c2 c3) (fun r : (Int32 ⊕ String) × wS => eO cNo r.1)) (h_ke55 : ∀ (c0 : Int32) (c1 : wS), pp (ke55 c0 c1) (fun r : (Int32 ⊕ String) × wS => eO cNo r.1)) : pp (B_X9_loses_19 o kh19 ke55 x1 x3 x4 w) (fun r : (Int32 ⊕ String) × wS => eO cNo r.1) := by
  unfold B_X9_loses_19
  repeat' (first
    | with_reducible exact pp_some eO_l
    | with_reducible exact pp_some eO_r
    | with_reducible (subst_vars; exact pp_some eO_r)
    | with_reducible exact h_kh19 _ _ _ _ 
    | with_reducible exact h_ke55 _ _ 
    | with_reducible refine eN_J_X9_loses_49 ?_ ?_ 
    | with_reducible refine pp_if ?_ ?_
    | with_reducible refine pp_xIf ?_
    | with_reducible (refine pp_B pp_any ?_; intro _ _)
    | with_reducible (refine pp_B2 pp_any ?_; intro _ _ _)
    | with_reducible assumption
    | with_reducible (intro _))
theorem eN_P_X9_loses_19 {o : wO} {ke55 : Int32 → wS → Option ((Int32 ⊕ String) × wS)} {n : Nat} {x1 : Int32} {x3 : Int32} {x4 : Int32} {w : wS} (h_ke55 : ∀ (c0 : Int32) (c1 : wS), pp (ke55 c0 c1) (fun r : (Int32 ⊕ String) × wS => eO cNo r.1)) : pp (P_X9_loses_19 o ke55 n x1 x3 x4 w) (fun r : (Int32 ⊕ String) × wS => eO cNo r.1) := by
  unfold P_X9_loses_19
  refine pp_loop (I := fun _ => True) (fun kk hkk σ _ => ?_) _ _ trivial
  refine eN_B_X9_loses_19 ?_ ?_ 
  · exact fun c0 c1 c2 c3 => hkk (c0, c1, c2, c3) trivial
  · exact h_ke55
theorem eN_L_X9_loses {o : wO} {a1 : Int32} {w : wS} : pp (L_X9_loses o a1 w) (fun r : (Int32 ⊕ String) × wS => eO cNo r.1) := by
  unfold L_X9_loses
  repeat' (first
    | with_reducible exact pp_some eO_l
    | with_reducible exact pp_some eO_r
    | with_reducible (subst_vars; exact pp_some eO_r)
    | with_reducible refine pp_BT eN_L_X9_needPerson ?_ ?_
    | with_reducible refine eN_P_X9_loses_19 ?_ 
    | with_reducible refine pp_if ?_ ?_
    | with_reducible refine pp_xIf ?_
    | with_reducible (refine pp_B pp_any ?_; intro _ _)
    | with_reducible (refine pp_B2 pp_any ?_; intro _ _ _)
    | with_reducible assumption
    | with_reducible (intro _))
theorem eN_J_X9_late_38 {o : wO} {y0 : Int32} {w : wS} : pp (J_X9_late_38 o y0 w) (fun r : (Int32 ⊕ String) × wS => eO cNo r.1) := by
  unfold J_X9_late_38
  repeat' (first
    | with_reducible exact pp_some eO_l
    | with_reducible exact pp_some eO_r
    | with_reducible (subst_vars; exact pp_some eO_r)
    | with_reducible refine pp_if ?_ ?_
    | with_reducible refine pp_xIf ?_
    | with_reducible (refine pp_B pp_any ?_; intro _ _)
    | with_reducible (refine pp_B2 pp_any ?_; intro _ _ _)
    | with_reducible assumption
    | with_reducible (intro _))
theorem eN_L_X9_late {o : wO} {a1 : Int32} {a2 : Int32} {w : wS} : pp (L_X9_late o a1 a2 w) (fun r : (Int32 ⊕ String) × wS => eO cNo r.1) := by
  unfold L_X9_late
  repeat' (first
    | with_reducible exact pp_some eO_l
    | with_reducible exact pp_some eO_r
    | with_reducible (subst_vars; exact pp_some eO_r)
    | with_reducible refine pp_BT eN_L_X9_needPerson ?_ ?_
    | with_reducible refine pp_BT eN_L_X9_needDuty ?_ ?_
    | with_reducible exact eN_J_X9_late_38
    | with_reducible refine pp_if ?_ ?_
    | with_reducible refine pp_xIf ?_
    | with_reducible (refine pp_B pp_any ?_; intro _ _)
    | with_reducible (refine pp_B2 pp_any ?_; intro _ _ _)
    | with_reducible assumption
    | with_reducible (intro _))
theorem eN_J_X9_prompt_47 {o : wO} {kh9 : Int32 → Int32 → Int32 → wS → Option ((Int32 ⊕ String) × wS)} {ke53 : Int32 → wS → Option ((Int32 ⊕ String) × wS)} {x1 : Int32} {x2 : Int32} {x3 : Int32} {w : wS} (h_kh9 : ∀ (c0 : Int32) (c1 : Int32) (c2 : Int32) (c3 : wS), pp (kh9 c0 c1 c2 c3) (fun r : (Int32 ⊕ String) × wS => eO cNo r.1)) (h_ke53 : ∀ (c0 : Int32) (c1 : wS), pp (ke53 c0 c1) (fun r : (Int32 ⊕ String) × wS => eO cNo r.1)) : pp (J_X9_prompt_47 o kh9 ke53 x1 x2 x3 w) (fun r : (Int32 ⊕ String) × wS => eO cNo r.1) := by
  unfold J_X9_prompt_47
  repeat' (first
    | with_reducible exact pp_some eO_l
    | with_reducible exact pp_some eO_r
    | with_reducible (subst_vars; exact pp_some eO_r)
    | with_reducible exact h_kh9 _ _ _ _ 
    | with_reducible exact h_ke53 _ _ 
    | with_reducible refine pp_if ?_ ?_
    | with_reducible refine pp_xIf ?_
    | with_reducible (refine pp_B pp_any ?_; intro _ _)
    | with_reducible (refine pp_B2 pp_any ?_; intro _ _ _)
    | with_reducible assumption
    | with_reducible (intro _))
theorem eN_B_X9_prompt_9 {o : wO} {kh9 : Int32 → Int32 → Int32 → wS → Option ((Int32 ⊕ String) × wS)} {ke53 : Int32 → wS → Option ((Int32 ⊕ String) × wS)} {x1 : Int32} {x2 : Int32} {x3 : Int32} {w : wS} (h_kh9 : ∀ (c0 : Int32) (c1 : Int32) (c2 : Int32) (c3 : wS), pp (kh9 c0 c1 c2 c3) (fun r : (Int32 ⊕ String) × wS => eO cNo r.1)) (h_ke53 : ∀ (c0 : Int32) (c1 : wS), pp (ke53 c0 c1) (fun r : (Int32 ⊕ String) × wS => eO cNo r.1)) : pp (B_X9_prompt_9 o kh9 ke53 x1 x2 x3 w) (fun r : (Int32 ⊕ String) × wS => eO cNo r.1) := by
  unfold B_X9_prompt_9
  repeat' (first
    | with_reducible exact pp_some eO_l
    | with_reducible exact pp_some eO_r
    | with_reducible (subst_vars; exact pp_some eO_r)
    | with_reducible exact h_kh9 _ _ _ _ 
    | with_reducible exact h_ke53 _ _ 
    | with_reducible refine eN_J_X9_prompt_47 ?_ ?_ 
    | with_reducible refine pp_if ?_ ?_
    | with_reducible refine pp_xIf ?_
    | with_reducible (refine pp_B pp_any ?_; intro _ _)
    | with_reducible (refine pp_B2 pp_any ?_; intro _ _ _)
    | with_reducible assumption
    | with_reducible (intro _))
theorem eN_P_X9_prompt_9 {o : wO} {ke53 : Int32 → wS → Option ((Int32 ⊕ String) × wS)} {n : Nat} {x1 : Int32} {x2 : Int32} {x3 : Int32} {w : wS} (h_ke53 : ∀ (c0 : Int32) (c1 : wS), pp (ke53 c0 c1) (fun r : (Int32 ⊕ String) × wS => eO cNo r.1)) : pp (P_X9_prompt_9 o ke53 n x1 x2 x3 w) (fun r : (Int32 ⊕ String) × wS => eO cNo r.1) := by
  unfold P_X9_prompt_9
  refine pp_loop (I := fun _ => True) (fun kk hkk σ _ => ?_) _ _ trivial
  refine eN_B_X9_prompt_9 ?_ ?_ 
  · exact fun c0 c1 c2 c3 => hkk (c0, c1, c2, c3) trivial
  · exact h_ke53
theorem eN_L_X9_prompt {o : wO} {a1 : Int32} {w : wS} : pp (L_X9_prompt o a1 w) (fun r : (Int32 ⊕ String) × wS => eO cNo r.1) := by
  unfold L_X9_prompt
  repeat' (first
    | with_reducible exact pp_some eO_l
    | with_reducible exact pp_some eO_r
    | with_reducible (subst_vars; exact pp_some eO_r)
    | with_reducible refine pp_BT eN_L_X9_needDuty ?_ ?_
    | with_reducible refine eN_P_X9_prompt_9 ?_ 
    | with_reducible refine pp_if ?_ ?_
    | with_reducible refine pp_xIf ?_
    | with_reducible (refine pp_B pp_any ?_; intro _ _)
    | with_reducible (refine pp_B2 pp_any ?_; intro _ _ _)
    | with_reducible assumption
    | with_reducible (intro _))
theorem eN_B_X9_walk_25 {o : wO} {kh25 : Int32 → Int32 → Int32 → Int32 → wS → Option ((Int32 ⊕ String) × wS)} {ke73 : Int32 → Int32 → Int32 → wS → Option ((Int32 ⊕ String) × wS)} {x1 : Int32} {x2 : Int32} {x3 : Int32} {x4 : Int32} {w : wS} (h_kh25 : ∀ (c0 : Int32) (c1 : Int32) (c2 : Int32) (c3 : Int32) (c4 : wS), pp (kh25 c0 c1 c2 c3 c4) (fun r : (Int32 ⊕ String) × wS => eO cNo r.1)) (h_ke73 : ∀ (c0 : Int32) (c1 : Int32) (c2 : Int32) (c3 : wS), pp (ke73 c0 c1 c2 c3) (fun r : (Int32 ⊕ String) × wS => eO cNo r.1)) : pp (B_X9_walk_25 o kh25 ke73 x1 x2 x3 x4 w) (fun r : (Int32 ⊕ String) × wS => eO cNo r.1) := by
  unfold B_X9_walk_25
  repeat' (first
    | with_reducible exact pp_some eO_l
    | with_reducible exact pp_some eO_r
    | with_reducible (subst_vars; exact pp_some eO_r)
    | with_reducible exact h_kh25 _ _ _ _ _ 
    | with_reducible exact h_ke73 _ _ _ _ 
    | with_reducible refine pp_if ?_ ?_
    | with_reducible refine pp_xIf ?_
    | with_reducible (refine pp_B pp_any ?_; intro _ _)
    | with_reducible (refine pp_B2 pp_any ?_; intro _ _ _)
    | with_reducible assumption
    | with_reducible (intro _))
theorem eN_P_X9_walk_25 {o : wO} {ke73 : Int32 → Int32 → Int32 → wS → Option ((Int32 ⊕ String) × wS)} {n : Nat} {x1 : Int32} {x2 : Int32} {x3 : Int32} {x4 : Int32} {w : wS} (h_ke73 : ∀ (c0 : Int32) (c1 : Int32) (c2 : Int32) (c3 : wS), pp (ke73 c0 c1 c2 c3) (fun r : (Int32 ⊕ String) × wS => eO cNo r.1)) : pp (P_X9_walk_25 o ke73 n x1 x2 x3 x4 w) (fun r : (Int32 ⊕ String) × wS => eO cNo r.1) := by
  unfold P_X9_walk_25
  refine pp_loop (I := fun _ => True) (fun kk hkk σ _ => ?_) _ _ trivial
  refine eN_B_X9_walk_25 ?_ ?_ 
  · exact fun c0 c1 c2 c3 c4 => hkk (c0, c1, c2, c3, c4) trivial
  · exact h_ke73
theorem eN_L_X9_walk {o : wO} {a1 : Int32} {w : wS} : pp (L_X9_walk o a1 w) (fun r : (Int32 ⊕ String) × wS => eO cNo r.1) := by
  unfold L_X9_walk
  repeat' (first
    | with_reducible exact pp_some eO_l
    | with_reducible exact pp_some eO_r
    | with_reducible (subst_vars; exact pp_some eO_r)
    | with_reducible refine pp_BT eN_L_X9_needPerson ?_ ?_
    | with_reducible refine eN_P_X9_walk_25 ?_ 
    | with_reducible refine pp_if ?_ ?_
    | with_reducible refine pp_xIf ?_
    | with_reducible (refine pp_B pp_any ?_; intro _ _)
    | with_reducible (refine pp_B2 pp_any ?_; intro _ _ _)
    | with_reducible assumption
    | with_reducible (intro _))
end
