section
/-! ===== the same in the class ===== -/
theorem j_xRule {w0 : wS} {o : wO} {a : Int32} {w : wS} (h_w : jJ 101 102 w0 w) : pp (xRule o a w) (fun r : Int32 × wO × wS => jJ 101 102 w0 r.2.2) := by
  unfold xRule
  exact pp_xIf (pp_some h_w)
theorem j_B_X7_is_S1_24 {w0 : wS} {o : wO} {kh24 : Int32 → wS → Option (Int32 × wS)} {ke51 : wS → Option (Int32 × wS)} {ke59 : wS → Option (Int32 × wS)} {x2 : Int32} {w : wS} (h_kh24 : ∀ (c0 : Int32) (c1 : wS), jJ 101 102 w0 c1 → pp (kh24 c0 c1) (fun r : Int32 × wS => jJ 101 102 w0 r.2)) (h_ke51 : ∀ (c0 : wS), jJ 101 102 w0 c0 → pp (ke51 c0) (fun r : Int32 × wS => jJ 101 102 w0 r.2)) (h_ke59 : ∀ (c0 : wS), jJ 101 102 w0 c0 → pp (ke59 c0) (fun r : Int32 × wS => jJ 101 102 w0 r.2)) (h_w : jJ 101 102 w0 w) : pp (B_X7_is_S1_24 o kh24 ke51 ke59 x2 w) (fun r : Int32 × wS => jJ 101 102 w0 r.2) := by
  unfold B_X7_is_S1_24
  repeat' (first
    | with_reducible exact pp_some (by assumption)
    | with_reducible exact h_kh24 _ _ (by assumption)
    | with_reducible exact h_ke51 _ (by assumption)
    | with_reducible exact h_ke59 _ (by assumption)
    | with_reducible (refine pp_B (pp_put (by assumption) (by decide) (by decide)) ?_; intro _ _)
    | with_reducible (refine pp_B (pp_ast (by assumption)) ?_; intro _ _)
    | with_reducible (refine pp_B (pp_putL (by assumption)) ?_; intro _ _)
    | with_reducible refine pp_if ?_ ?_
    | with_reducible refine pp_xIf ?_
    | with_reducible (refine pp_B pp_any ?_; intro _ _)
    | with_reducible assumption
    | with_reducible (intro _))
theorem j_P_X7_is_S1_24 {w0 : wS} {o : wO} {ke51 : wS → Option (Int32 × wS)} {ke59 : wS → Option (Int32 × wS)} {n : Nat} {x2 : Int32} {w : wS} (h_ke51 : ∀ (c0 : wS), jJ 101 102 w0 c0 → pp (ke51 c0) (fun r : Int32 × wS => jJ 101 102 w0 r.2)) (h_ke59 : ∀ (c0 : wS), jJ 101 102 w0 c0 → pp (ke59 c0) (fun r : Int32 × wS => jJ 101 102 w0 r.2)) (h_w : jJ 101 102 w0 w) : pp (P_X7_is_S1_24 o ke51 ke59 n x2 w) (fun r : Int32 × wS => jJ 101 102 w0 r.2) := by
  unfold P_X7_is_S1_24
  refine pp_loop (I := fun σ => jJ 101 102 w0 σ.2) (fun kk hkk σ hσ => ?_) _ _ h_w
  refine j_B_X7_is_S1_24 ?_ ?_ ?_ hσ
  · exact fun c0 c1 hc => hkk (c0, c1) hc
  · exact h_ke51
  · exact h_ke59
theorem j_J_X7_is_S1_20 {w0 : wS} {o : wO} {w : wS} (h_w : jJ 101 102 w0 w) : pp (J_X7_is_S1_20 o w) (fun r : Int32 × wS => jJ 101 102 w0 r.2) := by
  unfold J_X7_is_S1_20
  repeat' (first
    | with_reducible exact pp_some (by assumption)
    | with_reducible (refine pp_B (pp_put (by assumption) (by decide) (by decide)) ?_; intro _ _)
    | with_reducible (refine pp_B (pp_ast (by assumption)) ?_; intro _ _)
    | with_reducible (refine pp_B (pp_putL (by assumption)) ?_; intro _ _)
    | with_reducible refine pp_if ?_ ?_
    | with_reducible refine pp_xIf ?_
    | with_reducible (refine pp_B pp_any ?_; intro _ _)
    | with_reducible assumption
    | with_reducible (intro _))
theorem j_L_X7_is_S1 {w0 : wS} {o : wO} {w : wS} (h_w : jJ 101 102 w0 w) : pp (L_X7_is_S1 o w) (fun r : Int32 × wS => jJ 101 102 w0 r.2) := by
  unfold L_X7_is_S1
  repeat' (first
    | with_reducible exact pp_some (by assumption)
    | with_reducible refine j_P_X7_is_S1_24 ?_ ?_ (by assumption)
    | with_reducible refine j_J_X7_is_S1_20 (by assumption)
    | with_reducible (refine pp_B (pp_put (by assumption) (by decide) (by decide)) ?_; intro _ _)
    | with_reducible (refine pp_B (pp_ast (by assumption)) ?_; intro _ _)
    | with_reducible (refine pp_B (pp_putL (by assumption)) ?_; intro _ _)
    | with_reducible refine pp_if ?_ ?_
    | with_reducible refine pp_xIf ?_
    | with_reducible (refine pp_B pp_any ?_; intro _ _)
    | with_reducible assumption
    | with_reducible (intro _))
theorem j_B_X7_is_S2_24 {w0 : wS} {o : wO} {kh24 : Int32 → wS → Option (Int32 × wS)} {ke51 : wS → Option (Int32 × wS)} {ke59 : wS → Option (Int32 × wS)} {x2 : Int32} {w : wS} (h_kh24 : ∀ (c0 : Int32) (c1 : wS), jJ 101 102 w0 c1 → pp (kh24 c0 c1) (fun r : Int32 × wS => jJ 101 102 w0 r.2)) (h_ke51 : ∀ (c0 : wS), jJ 101 102 w0 c0 → pp (ke51 c0) (fun r : Int32 × wS => jJ 101 102 w0 r.2)) (h_ke59 : ∀ (c0 : wS), jJ 101 102 w0 c0 → pp (ke59 c0) (fun r : Int32 × wS => jJ 101 102 w0 r.2)) (h_w : jJ 101 102 w0 w) : pp (B_X7_is_S2_24 o kh24 ke51 ke59 x2 w) (fun r : Int32 × wS => jJ 101 102 w0 r.2) := by
  unfold B_X7_is_S2_24
  repeat' (first
    | with_reducible exact pp_some (by assumption)
    | with_reducible exact h_kh24 _ _ (by assumption)
    | with_reducible exact h_ke51 _ (by assumption)
    | with_reducible exact h_ke59 _ (by assumption)
    | with_reducible (refine pp_B (pp_put (by assumption) (by decide) (by decide)) ?_; intro _ _)
    | with_reducible (refine pp_B (pp_ast (by assumption)) ?_; intro _ _)
    | with_reducible (refine pp_B (pp_putL (by assumption)) ?_; intro _ _)
    | with_reducible refine pp_if ?_ ?_
    | with_reducible refine pp_xIf ?_
    | with_reducible (refine pp_B pp_any ?_; intro _ _)
    | with_reducible assumption
    | with_reducible (intro _))
theorem j_P_X7_is_S2_24 {w0 : wS} {o : wO} {ke51 : wS → Option (Int32 × wS)} {ke59 : wS → Option (Int32 × wS)} {n : Nat} {x2 : Int32} {w : wS} (h_ke51 : ∀ (c0 : wS), jJ 101 102 w0 c0 → pp (ke51 c0) (fun r : Int32 × wS => jJ 101 102 w0 r.2)) (h_ke59 : ∀ (c0 : wS), jJ 101 102 w0 c0 → pp (ke59 c0) (fun r : Int32 × wS => jJ 101 102 w0 r.2)) (h_w : jJ 101 102 w0 w) : pp (P_X7_is_S2_24 o ke51 ke59 n x2 w) (fun r : Int32 × wS => jJ 101 102 w0 r.2) := by
  unfold P_X7_is_S2_24
  refine pp_loop (I := fun σ => jJ 101 102 w0 σ.2) (fun kk hkk σ hσ => ?_) _ _ h_w
  refine j_B_X7_is_S2_24 ?_ ?_ ?_ hσ
  · exact fun c0 c1 hc => hkk (c0, c1) hc
  · exact h_ke51
  · exact h_ke59
theorem j_J_X7_is_S2_20 {w0 : wS} {o : wO} {w : wS} (h_w : jJ 101 102 w0 w) : pp (J_X7_is_S2_20 o w) (fun r : Int32 × wS => jJ 101 102 w0 r.2) := by
  unfold J_X7_is_S2_20
  repeat' (first
    | with_reducible exact pp_some (by assumption)
    | with_reducible (refine pp_B (pp_put (by assumption) (by decide) (by decide)) ?_; intro _ _)
    | with_reducible (refine pp_B (pp_ast (by assumption)) ?_; intro _ _)
    | with_reducible (refine pp_B (pp_putL (by assumption)) ?_; intro _ _)
    | with_reducible refine pp_if ?_ ?_
    | with_reducible refine pp_xIf ?_
    | with_reducible (refine pp_B pp_any ?_; intro _ _)
    | with_reducible assumption
    | with_reducible (intro _))
theorem j_L_X7_is_S2 {w0 : wS} {o : wO} {w : wS} (h_w : jJ 101 102 w0 w) : pp (L_X7_is_S2 o w) (fun r : Int32 × wS => jJ 101 102 w0 r.2) := by
  unfold L_X7_is_S2
  repeat' (first
    | with_reducible exact pp_some (by assumption)
    | with_reducible refine j_P_X7_is_S2_24 ?_ ?_ (by assumption)
    | with_reducible refine j_J_X7_is_S2_20 (by assumption)
    | with_reducible (refine pp_B (pp_put (by assumption) (by decide) (by decide)) ?_; intro _ _)
    | with_reducible (refine pp_B (pp_ast (by assumption)) ?_; intro _ _)
    | with_reducible (refine pp_B (pp_putL (by assumption)) ?_; intro _ _)
    | with_reducible refine pp_if ?_ ?_
    | with_reducible refine pp_xIf ?_
    | with_reducible (refine pp_B pp_any ?_; intro _ _)
    | with_reducible assumption
    | with_reducible (intro _))
theorem j_B_X7_is_S3_24 {w0 : wS} {o : wO} {kh24 : Int32 → wS → Option (Int32 × wS)} {ke51 : wS → Option (Int32 × wS)} {ke59 : wS → Option (Int32 × wS)} {x2 : Int32} {w : wS} (h_kh24 : ∀ (c0 : Int32) (c1 : wS), jJ 101 102 w0 c1 → pp (kh24 c0 c1) (fun r : Int32 × wS => jJ 101 102 w0 r.2)) (h_ke51 : ∀ (c0 : wS), jJ 101 102 w0 c0 → pp (ke51 c0) (fun r : Int32 × wS => jJ 101 102 w0 r.2)) (h_ke59 : ∀ (c0 : wS), jJ 101 102 w0 c0 → pp (ke59 c0) (fun r : Int32 × wS => jJ 101 102 w0 r.2)) (h_w : jJ 101 102 w0 w) : pp (B_X7_is_S3_24 o kh24 ke51 ke59 x2 w) (fun r : Int32 × wS => jJ 101 102 w0 r.2) := by
  unfold B_X7_is_S3_24
  repeat' (first
    | with_reducible exact pp_some (by assumption)
    | with_reducible exact h_kh24 _ _ (by assumption)
    | with_reducible exact h_ke51 _ (by assumption)
    | with_reducible exact h_ke59 _ (by assumption)
    | with_reducible (refine pp_B (pp_put (by assumption) (by decide) (by decide)) ?_; intro _ _)
    | with_reducible (refine pp_B (pp_ast (by assumption)) ?_; intro _ _)
    | with_reducible (refine pp_B (pp_putL (by assumption)) ?_; intro _ _)
    | with_reducible refine pp_if ?_ ?_
    | with_reducible refine pp_xIf ?_
    | with_reducible (refine pp_B pp_any ?_; intro _ _)
    | with_reducible assumption
    | with_reducible (intro _))
theorem j_P_X7_is_S3_24 {w0 : wS} {o : wO} {ke51 : wS → Option (Int32 × wS)} {ke59 : wS → Option (Int32 × wS)} {n : Nat} {x2 : Int32} {w : wS} (h_ke51 : ∀ (c0 : wS), jJ 101 102 w0 c0 → pp (ke51 c0) (fun r : Int32 × wS => jJ 101 102 w0 r.2)) (h_ke59 : ∀ (c0 : wS), jJ 101 102 w0 c0 → pp (ke59 c0) (fun r : Int32 × wS => jJ 101 102 w0 r.2)) (h_w : jJ 101 102 w0 w) : pp (P_X7_is_S3_24 o ke51 ke59 n x2 w) (fun r : Int32 × wS => jJ 101 102 w0 r.2) := by
  unfold P_X7_is_S3_24
  refine pp_loop (I := fun σ => jJ 101 102 w0 σ.2) (fun kk hkk σ hσ => ?_) _ _ h_w
  refine j_B_X7_is_S3_24 ?_ ?_ ?_ hσ
  · exact fun c0 c1 hc => hkk (c0, c1) hc
  · exact h_ke51
  · exact h_ke59
theorem j_J_X7_is_S3_20 {w0 : wS} {o : wO} {w : wS} (h_w : jJ 101 102 w0 w) : pp (J_X7_is_S3_20 o w) (fun r : Int32 × wS => jJ 101 102 w0 r.2) := by
  unfold J_X7_is_S3_20
  repeat' (first
    | with_reducible exact pp_some (by assumption)
    | with_reducible (refine pp_B (pp_put (by assumption) (by decide) (by decide)) ?_; intro _ _)
    | with_reducible (refine pp_B (pp_ast (by assumption)) ?_; intro _ _)
    | with_reducible (refine pp_B (pp_putL (by assumption)) ?_; intro _ _)
    | with_reducible refine pp_if ?_ ?_
    | with_reducible refine pp_xIf ?_
    | with_reducible (refine pp_B pp_any ?_; intro _ _)
    | with_reducible assumption
    | with_reducible (intro _))
theorem j_L_X7_is_S3 {w0 : wS} {o : wO} {w : wS} (h_w : jJ 101 102 w0 w) : pp (L_X7_is_S3 o w) (fun r : Int32 × wS => jJ 101 102 w0 r.2) := by
  unfold L_X7_is_S3
  repeat' (first
    | with_reducible exact pp_some (by assumption)
    | with_reducible refine j_P_X7_is_S3_24 ?_ ?_ (by assumption)
    | with_reducible refine j_J_X7_is_S3_20 (by assumption)
    | with_reducible (refine pp_B (pp_put (by assumption) (by decide) (by decide)) ?_; intro _ _)
    | with_reducible (refine pp_B (pp_ast (by assumption)) ?_; intro _ _)
    | with_reducible (refine pp_B (pp_putL (by assumption)) ?_; intro _ _)
    | with_reducible refine pp_if ?_ ?_
    | with_reducible refine pp_xIf ?_
    | with_reducible (refine pp_B pp_any ?_; intro _ _)
    | with_reducible assumption
    | with_reducible (intro _))
theorem j_B_X7_is_S4_24 {w0 : wS} {o : wO} {kh24 : Int32 → wS → Option (Int32 × wS)} {ke51 : wS → Option (Int32 × wS)} {ke59 : wS → Option (Int32 × wS)} {x2 : Int32} {w : wS} (h_kh24 : ∀ (c0 : Int32) (c1 : wS), jJ 101 102 w0 c1 → pp (kh24 c0 c1) (fun r : Int32 × wS => jJ 101 102 w0 r.2)) (h_ke51 : ∀ (c0 : wS), jJ 101 102 w0 c0 → pp (ke51 c0) (fun r : Int32 × wS => jJ 101 102 w0 r.2)) (h_ke59 : ∀ (c0 : wS), jJ 101 102 w0 c0 → pp (ke59 c0) (fun r : Int32 × wS => jJ 101 102 w0 r.2)) (h_w : jJ 101 102 w0 w) : pp (B_X7_is_S4_24 o kh24 ke51 ke59 x2 w) (fun r : Int32 × wS => jJ 101 102 w0 r.2) := by
  unfold B_X7_is_S4_24
  repeat' (first
    | with_reducible exact pp_some (by assumption)
    | with_reducible exact h_kh24 _ _ (by assumption)
    | with_reducible exact h_ke51 _ (by assumption)
    | with_reducible exact h_ke59 _ (by assumption)
    | with_reducible (refine pp_B (pp_put (by assumption) (by decide) (by decide)) ?_; intro _ _)
    | with_reducible (refine pp_B (pp_ast (by assumption)) ?_; intro _ _)
    | with_reducible (refine pp_B (pp_putL (by assumption)) ?_; intro _ _)
    | with_reducible refine pp_if ?_ ?_
    | with_reducible refine pp_xIf ?_
    | with_reducible (refine pp_B pp_any ?_; intro _ _)
    | with_reducible assumption
    | with_reducible (intro _))
theorem j_P_X7_is_S4_24 {w0 : wS} {o : wO} {ke51 : wS → Option (Int32 × wS)} {ke59 : wS → Option (Int32 × wS)} {n : Nat} {x2 : Int32} {w : wS} (h_ke51 : ∀ (c0 : wS), jJ 101 102 w0 c0 → pp (ke51 c0) (fun r : Int32 × wS => jJ 101 102 w0 r.2)) (h_ke59 : ∀ (c0 : wS), jJ 101 102 w0 c0 → pp (ke59 c0) (fun r : Int32 × wS => jJ 101 102 w0 r.2)) (h_w : jJ 101 102 w0 w) : pp (P_X7_is_S4_24 o ke51 ke59 n x2 w) (fun r : Int32 × wS => jJ 101 102 w0 r.2) := by
  unfold P_X7_is_S4_24
  refine pp_loop (I := fun σ => jJ 101 102 w0 σ.2) (fun kk hkk σ hσ => ?_) _ _ h_w
  refine j_B_X7_is_S4_24 ?_ ?_ ?_ hσ
  · exact fun c0 c1 hc => hkk (c0, c1) hc
  · exact h_ke51
  · exact h_ke59
theorem j_J_X7_is_S4_20 {w0 : wS} {o : wO} {w : wS} (h_w : jJ 101 102 w0 w) : pp (J_X7_is_S4_20 o w) (fun r : Int32 × wS => jJ 101 102 w0 r.2) := by
  unfold J_X7_is_S4_20
  repeat' (first
    | with_reducible exact pp_some (by assumption)
    | with_reducible (refine pp_B (pp_put (by assumption) (by decide) (by decide)) ?_; intro _ _)
    | with_reducible (refine pp_B (pp_ast (by assumption)) ?_; intro _ _)
    | with_reducible (refine pp_B (pp_putL (by assumption)) ?_; intro _ _)
    | with_reducible refine pp_if ?_ ?_
    | with_reducible refine pp_xIf ?_
    | with_reducible (refine pp_B pp_any ?_; intro _ _)
    | with_reducible assumption
    | with_reducible (intro _))
theorem j_L_X7_is_S4 {w0 : wS} {o : wO} {w : wS} (h_w : jJ 101 102 w0 w) : pp (L_X7_is_S4 o w) (fun r : Int32 × wS => jJ 101 102 w0 r.2) := by
  unfold L_X7_is_S4
  repeat' (first
    | with_reducible exact pp_some (by assumption)
    | with_reducible refine j_P_X7_is_S4_24 ?_ ?_ (by assumption)
    | with_reducible refine j_J_X7_is_S4_20 (by assumption)
    | with_reducible (refine pp_B (pp_put (by assumption) (by decide) (by decide)) ?_; intro _ _)
    | with_reducible (refine pp_B (pp_ast (by assumption)) ?_; intro _ _)
    | with_reducible (refine pp_B (pp_putL (by assumption)) ?_; intro _ _)
    | with_reducible refine pp_if ?_ ?_
    | with_reducible refine pp_xIf ?_
    | with_reducible (refine pp_B pp_any ?_; intro _ _)
    | with_reducible assumption
    | with_reducible (intro _))
theorem j_B_X7_is_S5_24 {w0 : wS} {o : wO} {kh24 : Int32 → wS → Option (Int32 × wS)} {ke51 : wS → Option (Int32 × wS)} {ke59 : wS → Option (Int32 × wS)} {x2 : Int32} {w : wS} (h_kh24 : ∀ (c0 : Int32) (c1 : wS), jJ 101 102 w0 c1 → pp (kh24 c0 c1) (fun r : Int32 × wS => jJ 101 102 w0 r.2)) (h_ke51 : ∀ (c0 : wS), jJ 101 102 w0 c0 → pp (ke51 c0) (fun r : Int32 × wS => jJ 101 102 w0 r.2)) (h_ke59 : ∀ (c0 : wS), jJ 101 102 w0 c0 → pp (ke59 c0) (fun r : Int32 × wS => jJ 101 102 w0 r.2)) (h_w : jJ 101 102 w0 w) : pp (B_X7_is_S5_24 o kh24 ke51 ke59 x2 w) (fun r : Int32 × wS => jJ 101 102 w0 r.2) := by
  unfold B_X7_is_S5_24
  repeat' (first
    | with_reducible exact pp_some (by assumption)
    | with_reducible exact h_kh24 _ _ (by assumption)
    | with_reducible exact h_ke51 _ (by assumption)
    | with_reducible exact h_ke59 _ (by assumption)
    | with_reducible (refine pp_B (pp_put (by assumption) (by decide) (by decide)) ?_; intro _ _)
    | with_reducible (refine pp_B (pp_ast (by assumption)) ?_; intro _ _)
    | with_reducible (refine pp_B (pp_putL (by assumption)) ?_; intro _ _)
    | with_reducible refine pp_if ?_ ?_
    | with_reducible refine pp_xIf ?_
    | with_reducible (refine pp_B pp_any ?_; intro _ _)
    | with_reducible assumption
    | with_reducible (intro _))
theorem j_P_X7_is_S5_24 {w0 : wS} {o : wO} {ke51 : wS → Option (Int32 × wS)} {ke59 : wS → Option (Int32 × wS)} {n : Nat} {x2 : Int32} {w : wS} (h_ke51 : ∀ (c0 : wS), jJ 101 102 w0 c0 → pp (ke51 c0) (fun r : Int32 × wS => jJ 101 102 w0 r.2)) (h_ke59 : ∀ (c0 : wS), jJ 101 102 w0 c0 → pp (ke59 c0) (fun r : Int32 × wS => jJ 101 102 w0 r.2)) (h_w : jJ 101 102 w0 w) : pp (P_X7_is_S5_24 o ke51 ke59 n x2 w) (fun r : Int32 × wS => jJ 101 102 w0 r.2) := by
  unfold P_X7_is_S5_24
  refine pp_loop (I := fun σ => jJ 101 102 w0 σ.2) (fun kk hkk σ hσ => ?_) _ _ h_w
  refine j_B_X7_is_S5_24 ?_ ?_ ?_ hσ
  · exact fun c0 c1 hc => hkk (c0, c1) hc
  · exact h_ke51
  · exact h_ke59
theorem j_J_X7_is_S5_20 {w0 : wS} {o : wO} {w : wS} (h_w : jJ 101 102 w0 w) : pp (J_X7_is_S5_20 o w) (fun r : Int32 × wS => jJ 101 102 w0 r.2) := by
  unfold J_X7_is_S5_20
  repeat' (first
    | with_reducible exact pp_some (by assumption)
    | with_reducible (refine pp_B (pp_put (by assumption) (by decide) (by decide)) ?_; intro _ _)
    | with_reducible (refine pp_B (pp_ast (by assumption)) ?_; intro _ _)
    | with_reducible (refine pp_B (pp_putL (by assumption)) ?_; intro _ _)
    | with_reducible refine pp_if ?_ ?_
    | with_reducible refine pp_xIf ?_
    | with_reducible (refine pp_B pp_any ?_; intro _ _)
    | with_reducible assumption
    | with_reducible (intro _))
theorem j_L_X7_is_S5 {w0 : wS} {o : wO} {w : wS} (h_w : jJ 101 102 w0 w) : pp (L_X7_is_S5 o w) (fun r : Int32 × wS => jJ 101 102 w0 r.2) := by
  unfold L_X7_is_S5
  repeat' (first
    | with_reducible exact pp_some (by assumption)
    | with_reducible refine j_P_X7_is_S5_24 ?_ ?_ (by assumption)
    | with_reducible refine j_J_X7_is_S5_20 (by assumption)
    | with_reducible (refine pp_B (pp_put (by assumption) (by decide) (by decide)) ?_; intro _ _)
    | with_reducible (refine pp_B (pp_ast (by assumption)) ?_; intro _ _)
    | with_reducible (refine pp_B (pp_putL (by assumption)) ?_; intro _ _)
    | with_reducible refine pp_if ?_ ?_
    | with_reducible refine pp_xIf ?_
    | with_reducible (refine pp_B pp_any ?_; intro _ _)
    | with_reducible assumption
    | with_reducible (intro _))
theorem j_B_X7_is_S6_24 {w0 : wS} {o : wO} {kh24 : Int32 → wS → Option (Int32 × wS)} {ke51 : wS → Option (Int32 × wS)} {ke59 : wS → Option (Int32 × wS)} {x2 : Int32} {w : wS} (h_kh24 : ∀ (c0 : Int32) (c1 : wS), jJ 101 102 w0 c1 → pp (kh24 c0 c1) (fun r : Int32 × wS => jJ 101 102 w0 r.2)) (h_ke51 : ∀ (c0 : wS), jJ 101 102 w0 c0 → pp (ke51 c0) (fun r : Int32 × wS => jJ 101 102 w0 r.2)) (h_ke59 : ∀ (c0 : wS), jJ 101 102 w0 c0 → pp (ke59 c0) (fun r : Int32 × wS => jJ 101 102 w0 r.2)) (h_w : jJ 101 102 w0 w) : pp (B_X7_is_S6_24 o kh24 ke51 ke59 x2 w) (fun r : Int32 × wS => jJ 101 102 w0 r.2) := by
  unfold B_X7_is_S6_24
  repeat' (first
    | with_reducible exact pp_some (by assumption)
    | with_reducible exact h_kh24 _ _ (by assumption)
    | with_reducible exact h_ke51 _ (by assumption)
    | with_reducible exact h_ke59 _ (by assumption)
    | with_reducible (refine pp_B (pp_put (by assumption) (by decide) (by decide)) ?_; intro _ _)
    | with_reducible (refine pp_B (pp_ast (by assumption)) ?_; intro _ _)
    | with_reducible (refine pp_B (pp_putL (by assumption)) ?_; intro _ _)
    | with_reducible refine pp_if ?_ ?_
    | with_reducible refine pp_xIf ?_
    | with_reducible (refine pp_B pp_any ?_; intro _ _)
    | with_reducible assumption
    | with_reducible (intro _))
theorem j_P_X7_is_S6_24 {w0 : wS} {o : wO} {ke51 : wS → Option (Int32 × wS)} {ke59 : wS → Option (Int32 × wS)} {n : Nat} {x2 : Int32} {w : wS} (h_ke51 : ∀ (c0 : wS), jJ 101 102 w0 c0 → pp (ke51 c0) (fun r : Int32 × wS => jJ 101 102 w0 r.2)) (h_ke59 : ∀ (c0 : wS), jJ 101 102 w0 c0 → pp (ke59 c0) (fun r : Int32 × wS => jJ 101 102 w0 r.2)) (h_w : jJ 101 102 w0 w) : pp (P_X7_is_S6_24 o ke51 ke59 n x2 w) (fun r : Int32 × wS => jJ 101 102 w0 r.2) := by
  unfold P_X7_is_S6_24
  refine pp_loop (I := fun σ => jJ 101 102 w0 σ.2) (fun kk hkk σ hσ => ?_) _ _ h_w
  refine j_B_X7_is_S6_24 ?_ ?_ ?_ hσ
  · exact fun c0 c1 hc => hkk (c0, c1) hc
  · exact h_ke51
  · exact h_ke59
theorem j_J_X7_is_S6_20 {w0 : wS} {o : wO} {w : wS} (h_w : jJ 101 102 w0 w) : pp (J_X7_is_S6_20 o w) (fun r : Int32 × wS => jJ 101 102 w0 r.2) := by
  unfold J_X7_is_S6_20
  repeat' (first
    | with_reducible exact pp_some (by assumption)
    | with_reducible (refine pp_B (pp_put (by assumption) (by decide) (by decide)) ?_; intro _ _)
    | with_reducible (refine pp_B (pp_ast (by assumption)) ?_; intro _ _)
    | with_reducible (refine pp_B (pp_putL (by assumption)) ?_; intro _ _)
    | with_reducible refine pp_if ?_ ?_
    | with_reducible refine pp_xIf ?_
    | with_reducible (refine pp_B pp_any ?_; intro _ _)
    | with_reducible assumption
    | with_reducible (intro _))
theorem j_L_X7_is_S6 {w0 : wS} {o : wO} {w : wS} (h_w : jJ 101 102 w0 w) : pp (L_X7_is_S6 o w) (fun r : Int32 × wS => jJ 101 102 w0 r.2) := by
  unfold L_X7_is_S6
  repeat' (first
    | with_reducible exact pp_some (by assumption)
    | with_reducible refine j_P_X7_is_S6_24 ?_ ?_ (by assumption)
    | with_reducible refine j_J_X7_is_S6_20 (by assumption)
    | with_reducible (refine pp_B (pp_put (by assumption) (by decide) (by decide)) ?_; intro _ _)
    | with_reducible (refine pp_B (pp_ast (by assumption)) ?_; intro _ _)
    | with_reducible (refine pp_B (pp_putL (by assumption)) ?_; intro _ _)
    | with_reducible refine pp_if ?_ ?_
    | with_reducible refine pp_xIf ?_
    | with_reducible (refine pp_B pp_any ?_; intro _ _)
    | with_reducible assumption
    | with_reducible (intro _))
theorem j_B_X7_is_S16_24 {w0 : wS} {o : wO} {kh24 : Int32 → wS → Option (Int32 × wS)} {ke51 : wS → Option (Int32 × wS)} {ke59 : wS → Option (Int32 × wS)} {x2 : Int32} {w : wS} (h_kh24 : ∀ (c0 : Int32) (c1 : wS), jJ 101 102 w0 c1 → pp (kh24 c0 c1) (fun r : Int32 × wS => jJ 101 102 w0 r.2)) (h_ke51 : ∀ (c0 : wS), jJ 101 102 w0 c0 → pp (ke51 c0) (fun r : Int32 × wS => jJ 101 102 w0 r.2)) (h_ke59 : ∀ (c0 : wS), jJ 101 102 w0 c0 → pp (ke59 c0) (fun r : Int32 × wS => jJ 101 102 w0 r.2)) (h_w : jJ 101 102 w0 w) : pp (B_X7_is_S16_24 o kh24 ke51 ke59 x2 w) (fun r : Int32 × wS => jJ 101 102 w0 r.2) := by
  unfold B_X7_is_S16_24
  repeat' (first
    | with_reducible exact pp_some (by assumption)
    | with_reducible exact h_kh24 _ _ (by assumption)
    | with_reducible exact h_ke51 _ (by assumption)
    | with_reducible exact h_ke59 _ (by assumption)
    | with_reducible (refine pp_B (pp_put (by assumption) (by decide) (by decide)) ?_; intro _ _)
    | with_reducible (refine pp_B (pp_ast (by assumption)) ?_; intro _ _)
    | with_reducible (refine pp_B (pp_putL (by assumption)) ?_; intro _ _)
    | with_reducible refine pp_if ?_ ?_
    | with_reducible refine pp_xIf ?_
    | with_reducible (refine pp_B pp_any ?_; intro _ _)
    | with_reducible assumption
    | with_reducible (intro _))
theorem j_P_X7_is_S16_24 {w0 : wS} {o : wO} {ke51 : wS → Option (Int32 × wS)} {ke59 : wS → Option (Int32 × wS)} {n : Nat} {x2 : Int32} {w : wS} (h_ke51 : ∀ (c0 : wS), jJ 101 102 w0 c0 → pp (ke51 c0) (fun r : Int32 × wS => jJ 101 102 w0 r.2)) (h_ke59 : ∀ (c0 : wS), jJ 101 102 w0 c0 → pp (ke59 c0) (fun r : Int32 × wS => jJ 101 102 w0 r.2)) (h_w : jJ 101 102 w0 w) : pp (P_X7_is_S16_24 o ke51 ke59 n x2 w) (fun r : Int32 × wS => jJ 101 102 w0 r.2) := by
  unfold P_X7_is_S16_24
  refine pp_loop (I := fun σ => jJ 101 102 w0 σ.2) (fun kk hkk σ hσ => ?_) _ _ h_w
  refine j_B_X7_is_S16_24 ?_ ?_ ?_ hσ
  · exact fun c0 c1 hc => hkk (c0, c1) hc
  · exact h_ke51
  · exact h_ke59
theorem j_J_X7_is_S16_20 {w0 : wS} {o : wO} {w : wS} (h_w : jJ 101 102 w0 w) : pp (J_X7_is_S16_20 o w) (fun r : Int32 × wS => jJ 101 102 w0 r.2) := by
  unfold J_X7_is_S16_20
  repeat' (first
    | with_reducible exact pp_some (by assumption)
    | with_reducible (refine pp_B (pp_put (by assumption) (by decide) (by decide)) ?_; intro _ _)
    | with_reducible (refine pp_B (pp_ast (by assumption)) ?_; intro _ _)
    | with_reducible (refine pp_B (pp_putL (by assumption)) ?_; intro _ _)
    | with_reducible refine pp_if ?_ ?_
    | with_reducible refine pp_xIf ?_
    | with_reducible (refine pp_B pp_any ?_; intro _ _)
    | with_reducible assumption
    | with_reducible (intro _))
theorem j_L_X7_is_S16 {w0 : wS} {o : wO} {w : wS} (h_w : jJ 101 102 w0 w) : pp (L_X7_is_S16 o w) (fun r : Int32 × wS => jJ 101 102 w0 r.2) := by
  unfold L_X7_is_S16
  repeat' (first
    | with_reducible exact pp_some (by assumption)
    | with_reducible refine j_P_X7_is_S16_24 ?_ ?_ (by assumption)
    | with_reducible refine j_J_X7_is_S16_20 (by assumption)
    | with_reducible (refine pp_B (pp_put (by assumption) (by decide) (by decide)) ?_; intro _ _)
    | with_reducible (refine pp_B (pp_ast (by assumption)) ?_; intro _ _)
    | with_reducible (refine pp_B (pp_putL (by assumption)) ?_; intro _ _)
    | with_reducible refine pp_if ?_ ?_
    | with_reducible refine pp_xIf ?_
    | with_reducible (refine pp_B pp_any ?_; intro _ _)
    | with_reducible assumption
    | with_reducible (intro _))
theorem j_L_X2_refuse {w0 : wS} {o : wO} {a1 : Int32} {w : wS} (ha : a1 ≠ 0) (h_w : jJ 101 102 w0 w) : pp (L_X2_refuse o a1 w) (fun r : Int32 × wS => jJ 101 102 w0 r.2) := by
  unfold L_X2_refuse
  rw [xPut_s, xB_s, xGet_s, xB_s, xPut_s, xB_s]
  refine pp_some (fun q q1 => absurd q1 ?_)
  show ¬ (wuS (wuS w 101 a1) 102 _).1 101 = nI 0
  rw [wuS_1, if_neg (by decide), wuS_1, if_pos rfl]
  exact ha
theorem j_J_X2_line_169 {w0 : wS} {o : wO} {y0 : Int32} {w : wS} (h_w : jJ 101 102 w0 w) : pp (J_X2_line_169 o y0 w) (fun r : Int32 × wO × wS => jJ 101 102 w0 r.2.2) := by
  unfold J_X2_line_169
  repeat' (first
    | with_reducible exact pp_some (by assumption)
    | with_reducible (refine pp_B (pp_put (by assumption) (by decide) (by decide)) ?_; intro _ _)
    | with_reducible (refine pp_B (pp_ast (by assumption)) ?_; intro _ _)
    | with_reducible (refine pp_B (pp_putL (by assumption)) ?_; intro _ _)
    | with_reducible refine pp_if ?_ ?_
    | with_reducible refine pp_xIf ?_
    | with_reducible (refine pp_B pp_any ?_; intro _ _)
    | with_reducible assumption
    | with_reducible (intro _))
theorem j_J_X2_line_168 {w0 : wS} {o : wO} {w : wS} (h_w : jJ 101 102 w0 w) : pp (J_X2_line_168 o w) (fun r : Int32 × wO × wS => jJ 101 102 w0 r.2.2) := by
  unfold J_X2_line_168
  repeat' (first
    | with_reducible exact pp_some (by assumption)
    | with_reducible refine j_J_X2_line_169 (by assumption)
    | with_reducible (refine pp_B (pp_put (by assumption) (by decide) (by decide)) ?_; intro _ _)
    | with_reducible (refine pp_B (pp_ast (by assumption)) ?_; intro _ _)
    | with_reducible (refine pp_B (pp_putL (by assumption)) ?_; intro _ _)
    | with_reducible refine pp_if ?_ ?_
    | with_reducible refine pp_xIf ?_
    | with_reducible (refine pp_B pp_any ?_; intro _ _)
    | with_reducible assumption
    | with_reducible (intro _))
theorem j_J_X7_advance_52 {w0 : wS} {o : wO} {kh13 : wS → Option (wS)} {ke65 : wS → Option (wS)} {w : wS} (h_kh13 : ∀ (c0 : wS), jJ 101 102 w0 c0 → pp (kh13 c0) (fun r : wS => jJ 101 102 w0 r)) (h_ke65 : ∀ (c0 : wS), jJ 101 102 w0 c0 → pp (ke65 c0) (fun r : wS => jJ 101 102 w0 r)) (h_w : jJ 101 102 w0 w) : pp (J_X7_advance_52 o kh13 ke65 w) (fun r : wS => jJ 101 102 w0 r) := by
  unfold J_X7_advance_52
  repeat' (first
    | with_reducible exact pp_some (by assumption)
    | with_reducible exact h_kh13 _ (by assumption)
    | with_reducible exact h_ke65 _ (by assumption)
    | with_reducible (refine pp_B (pp_put (by assumption) (by decide) (by decide)) ?_; intro _ _)
    | with_reducible (refine pp_B (pp_ast (by assumption)) ?_; intro _ _)
    | with_reducible (refine pp_B (pp_putL (by assumption)) ?_; intro _ _)
    | with_reducible refine pp_if ?_ ?_
    | with_reducible refine pp_xIf ?_
    | with_reducible (refine pp_B pp_any ?_; intro _ _)
    | with_reducible assumption
    | with_reducible (intro _))
theorem j_B_X7_advance_13 {w0 : wS} {o : wO} {kh13 : wS → Option (wS)} {ke65 : wS → Option (wS)} {w : wS} (h_kh13 : ∀ (c0 : wS), jJ 101 102 w0 c0 → pp (kh13 c0) (fun r : wS => jJ 101 102 w0 r)) (h_ke65 : ∀ (c0 : wS), jJ 101 102 w0 c0 → pp (ke65 c0) (fun r : wS => jJ 101 102 w0 r)) (h_w : jJ 101 102 w0 w) : pp (B_X7_advance_13 o kh13 ke65 w) (fun r : wS => jJ 101 102 w0 r) := by
  unfold B_X7_advance_13
  repeat' (first
    | with_reducible exact pp_some (by assumption)
    | with_reducible exact h_kh13 _ (by assumption)
    | with_reducible exact h_ke65 _ (by assumption)
    | with_reducible refine j_J_X7_advance_52 ?_ ?_ (by assumption)
    | with_reducible (refine pp_B (pp_put (by assumption) (by decide) (by decide)) ?_; intro _ _)
    | with_reducible (refine pp_B (pp_ast (by assumption)) ?_; intro _ _)
    | with_reducible (refine pp_B (pp_putL (by assumption)) ?_; intro _ _)
    | with_reducible refine pp_if ?_ ?_
    | with_reducible refine pp_xIf ?_
    | with_reducible (refine pp_B pp_any ?_; intro _ _)
    | with_reducible assumption
    | with_reducible (intro _))
theorem j_P_X7_advance_13 {w0 : wS} {o : wO} {ke65 : wS → Option (wS)} {n : Nat} {w : wS} (h_ke65 : ∀ (c0 : wS), jJ 101 102 w0 c0 → pp (ke65 c0) (fun r : wS => jJ 101 102 w0 r)) (h_w : jJ 101 102 w0 w) : pp (P_X7_advance_13 o ke65 n w) (fun r : wS => jJ 101 102 w0 r) := by
  unfold P_X7_advance_13
  refine pp_loop (I := fun σ => jJ 101 102 w0 σ) (fun kk hkk σ hσ => ?_) _ _ h_w
  refine j_B_X7_advance_13 ?_ ?_ hσ
  · exact fun c0 hc => hkk c0 hc
  · exact h_ke65
theorem j_J_X7_advance_191 {w0 : wS} {o : wO} {w : wS} (h_w : jJ 101 102 w0 w) : pp (J_X7_advance_191 o w) (fun r : wS => jJ 101 102 w0 r) := by
  unfold J_X7_advance_191
  repeat' (first
    | with_reducible exact pp_some (by assumption)
    | with_reducible (refine pp_B (pp_put (by assumption) (by decide) (by decide)) ?_; intro _ _)
    | with_reducible (refine pp_B (pp_ast (by assumption)) ?_; intro _ _)
    | with_reducible (refine pp_B (pp_putL (by assumption)) ?_; intro _ _)
    | with_reducible refine pp_if ?_ ?_
    | with_reducible refine pp_xIf ?_
    | with_reducible (refine pp_B pp_any ?_; intro _ _)
    | with_reducible assumption
    | with_reducible (intro _))
theorem j_B_X7_row_5 {w0 : wS} {o : wO} {kh5 : Int32 → Int32 → Int32 → wS → Option (Int32 × wS)} {ke39 : Int32 → wS → Option (Int32 × wS)} {x1 : Int32} {x2 : Int32} {x3 : Int32} {w : wS} (h_kh5 : ∀ (c0 : Int32) (c1 : Int32) (c2 : Int32) (c3 : wS), jJ 101 102 w0 c3 → pp (kh5 c0 c1 c2 c3) (fun r : Int32 × wS => jJ 101 102 w0 r.2)) (h_ke39 : ∀ (c0 : Int32) (c1 : wS), jJ 101 102 w0 c1 → pp (ke39 c0 c1) (fun r : Int32 × wS => jJ 101 102 w0 r.2)) (h_w : jJ 101 102 w0 w) : pp (B_X7_row_5 o kh5 ke39 x1 x2 x3 w) (fun r : Int32 × wS => jJ 101 102 w0 r.2) := by
  unfold B_X7_row_5
  repeat' (first
    | with_reducible exact pp_some (by assumption)
    | with_reducible exact h_kh5 _ _ _ _ (by assumption)
    | with_reducible exact h_ke39 _ _ (by assumption)
    | with_reducible (refine pp_B (pp_put (by assumption) (by decide) (by decide)) ?_; intro _ _)
    | with_reducible (refine pp_B (pp_ast (by assumption)) ?_; intro _ _)
    | with_reducible (refine pp_B (pp_putL (by assumption)) ?_; intro _ _)
    | with_reducible refine pp_if ?_ ?_
    | with_reducible refine pp_xIf ?_
    | with_reducible (refine pp_B pp_any ?_; intro _ _)
    | with_reducible assumption
    | with_reducible (intro _))
theorem j_P_X7_row_5 {w0 : wS} {o : wO} {ke39 : Int32 → wS → Option (Int32 × wS)} {n : Nat} {x1 : Int32} {x2 : Int32} {x3 : Int32} {w : wS} (h_ke39 : ∀ (c0 : Int32) (c1 : wS), jJ 101 102 w0 c1 → pp (ke39 c0 c1) (fun r : Int32 × wS => jJ 101 102 w0 r.2)) (h_w : jJ 101 102 w0 w) : pp (P_X7_row_5 o ke39 n x1 x2 x3 w) (fun r : Int32 × wS => jJ 101 102 w0 r.2) := by
  unfold P_X7_row_5
  refine pp_loop (I := fun σ => jJ 101 102 w0 σ.2.2.2) (fun kk hkk σ hσ => ?_) _ _ h_w
  refine j_B_X7_row_5 ?_ ?_ hσ
  · exact fun c0 c1 c2 c3 hc => hkk (c0, c1, c2, c3) hc
  · exact h_ke39
theorem j_J_X7_row_39 {w0 : wS} {o : wO} {x3 : Int32} {w : wS} (h_w : jJ 101 102 w0 w) : pp (J_X7_row_39 o x3 w) (fun r : Int32 × wS => jJ 101 102 w0 r.2) := by
  unfold J_X7_row_39
  repeat' (first
    | with_reducible exact pp_some (by assumption)
    | with_reducible (refine pp_B (pp_put (by assumption) (by decide) (by decide)) ?_; intro _ _)
    | with_reducible (refine pp_B (pp_ast (by assumption)) ?_; intro _ _)
    | with_reducible (refine pp_B (pp_putL (by assumption)) ?_; intro _ _)
    | with_reducible refine pp_if ?_ ?_
    | with_reducible refine pp_xIf ?_
    | with_reducible (refine pp_B pp_any ?_; intro _ _)
    | with_reducible assumption
    | with_reducible (intro _))
theorem j_L_X7_row {w0 : wS} {o : wO} {a1 : Int32} {a2 : Int32} {w : wS} (h_w : jJ 101 102 w0 w) : pp (L_X7_row o a1 a2 w) (fun r : Int32 × wS => jJ 101 102 w0 r.2) := by
  unfold L_X7_row
  repeat' (first
    | with_reducible exact pp_some (by assumption)
    | with_reducible refine j_P_X7_row_5 ?_ (by assumption)
    | with_reducible refine j_J_X7_row_39 (by assumption)
    | with_reducible (refine pp_B (pp_put (by assumption) (by decide) (by decide)) ?_; intro _ _)
    | with_reducible (refine pp_B (pp_ast (by assumption)) ?_; intro _ _)
    | with_reducible (refine pp_B (pp_putL (by assumption)) ?_; intro _ _)
    | with_reducible refine pp_if ?_ ?_
    | with_reducible refine pp_xIf ?_
    | with_reducible (refine pp_B pp_any ?_; intro _ _)
    | with_reducible assumption
    | with_reducible (intro _))
theorem j_J_X7_advance_188 {w0 : wS} {o : wO} {y1 : Int32} {w : wS} (h_w : jJ 101 102 w0 w) : pp (J_X7_advance_188 o y1 w) (fun r : wS => jJ 101 102 w0 r) := by
  unfold J_X7_advance_188
  repeat' (first
    | with_reducible exact pp_some (by assumption)
    | with_reducible refine j_J_X7_advance_191 (by assumption)
    | with_reducible (refine pp_B (pp_put (by assumption) (by decide) (by decide)) ?_; intro _ _)
    | with_reducible (refine pp_B (pp_ast (by assumption)) ?_; intro _ _)
    | with_reducible (refine pp_B (pp_putL (by assumption)) ?_; intro _ _)
    | with_reducible refine pp_if ?_ ?_
    | with_reducible refine pp_xIf ?_
    | with_reducible (refine pp_B pp_any ?_; intro _ _)
    | with_reducible assumption
    | with_reducible (intro _))
theorem j_J_X7_advance_143 {w0 : wS} {o : wO} {y1 : Int32} {w : wS} (h_w : jJ 101 102 w0 w) : pp (J_X7_advance_143 o y1 w) (fun r : wS => jJ 101 102 w0 r) := by
  unfold J_X7_advance_143
  repeat' (first
    | with_reducible exact pp_some (by assumption)
    | with_reducible (refine pp_B2 (j_L_X7_row (by assumption)) ?_; intro _ _ _)
    | with_reducible exact j_L_X7_row (by assumption)
    | with_reducible refine j_J_X7_advance_188 (by assumption)
    | with_reducible (refine pp_B (pp_put (by assumption) (by decide) (by decide)) ?_; intro _ _)
    | with_reducible (refine pp_B (pp_ast (by assumption)) ?_; intro _ _)
    | with_reducible (refine pp_B (pp_putL (by assumption)) ?_; intro _ _)
    | with_reducible refine pp_if ?_ ?_
    | with_reducible refine pp_xIf ?_
    | with_reducible (refine pp_B pp_any ?_; intro _ _)
    | with_reducible assumption
    | with_reducible (intro _))
theorem j_J_X7_advance_131 {w0 : wS} {o : wO} {x1 : Int32} {w : wS} (h_w : jJ 101 102 w0 w) : pp (J_X7_advance_131 o x1 w) (fun r : wS => jJ 101 102 w0 r) := by
  unfold J_X7_advance_131
  repeat' (first
    | with_reducible exact pp_some (by assumption)
    | with_reducible refine j_J_X7_advance_143 (by assumption)
    | with_reducible (refine pp_B (pp_put (by assumption) (by decide) (by decide)) ?_; intro _ _)
    | with_reducible (refine pp_B (pp_ast (by assumption)) ?_; intro _ _)
    | with_reducible (refine pp_B (pp_putL (by assumption)) ?_; intro _ _)
    | with_reducible refine pp_if ?_ ?_
    | with_reducible refine pp_xIf ?_
    | with_reducible (refine pp_B pp_any ?_; intro _ _)
    | with_reducible assumption
    | with_reducible (intro _))
theorem j_J_X7_advance_114 {w0 : wS} {o : wO} {x1 : Int32} {w : wS} (h_w : jJ 101 102 w0 w) : pp (J_X7_advance_114 o x1 w) (fun r : wS => jJ 101 102 w0 r) := by
  unfold J_X7_advance_114
  repeat' (first
    | with_reducible exact pp_some (by assumption)
    | with_reducible refine j_J_X7_advance_131 (by assumption)
    | with_reducible refine j_J_X7_advance_143 (by assumption)
    | with_reducible (refine pp_B (pp_put (by assumption) (by decide) (by decide)) ?_; intro _ _)
    | with_reducible (refine pp_B (pp_ast (by assumption)) ?_; intro _ _)
    | with_reducible (refine pp_B (pp_putL (by assumption)) ?_; intro _ _)
    | with_reducible refine pp_if ?_ ?_
    | with_reducible refine pp_xIf ?_
    | with_reducible (refine pp_B pp_any ?_; intro _ _)
    | with_reducible assumption
    | with_reducible (intro _))
theorem j_J_X7_advance_65 {w0 : wS} {o : wO} {w : wS} (h_w : jJ 101 102 w0 w) : pp (J_X7_advance_65 o w) (fun r : wS => jJ 101 102 w0 r) := by
  unfold J_X7_advance_65
  repeat' (first
    | with_reducible exact pp_some (by assumption)
    | with_reducible refine j_J_X7_advance_191 (by assumption)
    | with_reducible refine j_J_X7_advance_114 (by assumption)
    | with_reducible refine j_J_X7_advance_143 (by assumption)
    | with_reducible (refine pp_B (pp_put (by assumption) (by decide) (by decide)) ?_; intro _ _)
    | with_reducible (refine pp_B (pp_ast (by assumption)) ?_; intro _ _)
    | with_reducible (refine pp_B (pp_putL (by assumption)) ?_; intro _ _)
    | with_reducible refine pp_if ?_ ?_
    | with_reducible refine pp_xIf ?_
    | with_reducible (refine pp_B pp_any ?_; intro _ _)
    | with_reducible assumption
    | with_reducible (intro _))
theorem j_L_X7_advance {w0 : wS} {o : wO} {w : wS} (h_w : jJ 101 102 w0 w) : pp (L_X7_advance o w) (fun r : wS => jJ 101 102 w0 r) := by
  unfold L_X7_advance
  repeat' (first
    | with_reducible exact pp_some (by assumption)
    | with_reducible refine j_P_X7_advance_13 ?_ (by assumption)
    | with_reducible refine j_J_X7_advance_65 (by assumption)
    | with_reducible (refine pp_B (pp_put (by assumption) (by decide) (by decide)) ?_; intro _ _)
    | with_reducible (refine pp_B (pp_ast (by assumption)) ?_; intro _ _)
    | with_reducible (refine pp_B (pp_putL (by assumption)) ?_; intro _ _)
    | with_reducible refine pp_if ?_ ?_
    | with_reducible refine pp_xIf ?_
    | with_reducible (refine pp_B pp_any ?_; intro _ _)
    | with_reducible assumption
    | with_reducible (intro _))
theorem j_L_X2_taken {w0 : wS} {o : wO} {a1 : Int32} {w : wS} (h_w : jJ 101 102 w0 w) : pp (L_X2_taken o a1 w) (fun r : Int32 × wS => jJ 101 102 w0 r.2) := by
  unfold L_X2_taken
  repeat' (first
    | with_reducible exact pp_some (by assumption)
    | with_reducible (refine pp_B (j_L_X7_advance (by assumption)) ?_; intro _ _)
    | with_reducible exact j_L_X7_advance (by assumption)
    | with_reducible (refine pp_B2 (j_L_X2_refuse (by decide) (by assumption)) ?_; intro _ _ _)
    | with_reducible exact j_L_X2_refuse (by decide) (by assumption)
    | with_reducible (refine pp_B (pp_put (by assumption) (by decide) (by decide)) ?_; intro _ _)
    | with_reducible (refine pp_B (pp_ast (by assumption)) ?_; intro _ _)
    | with_reducible (refine pp_B (pp_putL (by assumption)) ?_; intro _ _)
    | with_reducible refine pp_if ?_ ?_
    | with_reducible refine pp_xIf ?_
    | with_reducible (refine pp_B pp_any ?_; intro _ _)
    | with_reducible assumption
    | with_reducible (intro _))
theorem j_J_X2_line_151 {w0 : wS} {o : wO} {x1 : Int32} {w : wS} (h_w : jJ 101 102 w0 w) : pp (J_X2_line_151 o x1 w) (fun r : Int32 × wO × wS => jJ 101 102 w0 r.2.2) := by
  unfold J_X2_line_151
  repeat' (first
    | with_reducible exact pp_some (by assumption)
    | with_reducible refine j_J_X2_line_168 (by assumption)
    | with_reducible (refine pp_B2 (j_L_X2_taken (by assumption)) ?_; intro _ _ _)
    | with_reducible exact j_L_X2_taken (by assumption)
    | with_reducible refine j_J_X2_line_169 (by assumption)
    | with_reducible (refine pp_B (pp_put (by assumption) (by decide) (by decide)) ?_; intro _ _)
    | with_reducible (refine pp_B (pp_ast (by assumption)) ?_; intro _ _)
    | with_reducible (refine pp_B (pp_putL (by assumption)) ?_; intro _ _)
    | with_reducible refine pp_if ?_ ?_
    | with_reducible refine pp_xIf ?_
    | with_reducible (refine pp_B pp_any ?_; intro _ _)
    | with_reducible assumption
    | with_reducible (intro _))
theorem j_B_X7_is_S7_24 {w0 : wS} {o : wO} {kh24 : Int32 → wS → Option (Int32 × wS)} {ke51 : wS → Option (Int32 × wS)} {ke59 : wS → Option (Int32 × wS)} {x2 : Int32} {w : wS} (h_kh24 : ∀ (c0 : Int32) (c1 : wS), jJ 101 102 w0 c1 → pp (kh24 c0 c1) (fun r : Int32 × wS => jJ 101 102 w0 r.2)) (h_ke51 : ∀ (c0 : wS), jJ 101 102 w0 c0 → pp (ke51 c0) (fun r : Int32 × wS => jJ 101 102 w0 r.2)) (h_ke59 : ∀ (c0 : wS), jJ 101 102 w0 c0 → pp (ke59 c0) (fun r : Int32 × wS => jJ 101 102 w0 r.2)) (h_w : jJ 101 102 w0 w) : pp (B_X7_is_S7_24 o kh24 ke51 ke59 x2 w) (fun r : Int32 × wS => jJ 101 102 w0 r.2) := by
  unfold B_X7_is_S7_24
  repeat' (first
    | with_reducible exact pp_some (by assumption)
    | with_reducible exact h_kh24 _ _ (by assumption)
    | with_reducible exact h_ke51 _ (by assumption)
    | with_reducible exact h_ke59 _ (by assumption)
    | with_reducible (refine pp_B (pp_put (by assumption) (by decide) (by decide)) ?_; intro _ _)
    | with_reducible (refine pp_B (pp_ast (by assumption)) ?_; intro _ _)
    | with_reducible (refine pp_B (pp_putL (by assumption)) ?_; intro _ _)
    | with_reducible refine pp_if ?_ ?_
    | with_reducible refine pp_xIf ?_
    | with_reducible (refine pp_B pp_any ?_; intro _ _)
    | with_reducible assumption
    | with_reducible (intro _))
theorem j_P_X7_is_S7_24 {w0 : wS} {o : wO} {ke51 : wS → Option (Int32 × wS)} {ke59 : wS → Option (Int32 × wS)} {n : Nat} {x2 : Int32} {w : wS} (h_ke51 : ∀ (c0 : wS), jJ 101 102 w0 c0 → pp (ke51 c0) (fun r : Int32 × wS => jJ 101 102 w0 r.2)) (h_ke59 : ∀ (c0 : wS), jJ 101 102 w0 c0 → pp (ke59 c0) (fun r : Int32 × wS => jJ 101 102 w0 r.2)) (h_w : jJ 101 102 w0 w) : pp (P_X7_is_S7_24 o ke51 ke59 n x2 w) (fun r : Int32 × wS => jJ 101 102 w0 r.2) := by
  unfold P_X7_is_S7_24
  refine pp_loop (I := fun σ => jJ 101 102 w0 σ.2) (fun kk hkk σ hσ => ?_) _ _ h_w
  refine j_B_X7_is_S7_24 ?_ ?_ ?_ hσ
  · exact fun c0 c1 hc => hkk (c0, c1) hc
  · exact h_ke51
  · exact h_ke59
theorem j_J_X7_is_S7_20 {w0 : wS} {o : wO} {w : wS} (h_w : jJ 101 102 w0 w) : pp (J_X7_is_S7_20 o w) (fun r : Int32 × wS => jJ 101 102 w0 r.2) := by
  unfold J_X7_is_S7_20
  repeat' (first
    | with_reducible exact pp_some (by assumption)
    | with_reducible (refine pp_B (pp_put (by assumption) (by decide) (by decide)) ?_; intro _ _)
    | with_reducible (refine pp_B (pp_ast (by assumption)) ?_; intro _ _)
    | with_reducible (refine pp_B (pp_putL (by assumption)) ?_; intro _ _)
    | with_reducible refine pp_if ?_ ?_
    | with_reducible refine pp_xIf ?_
    | with_reducible (refine pp_B pp_any ?_; intro _ _)
    | with_reducible assumption
    | with_reducible (intro _))
theorem j_L_X7_is_S7 {w0 : wS} {o : wO} {w : wS} (h_w : jJ 101 102 w0 w) : pp (L_X7_is_S7 o w) (fun r : Int32 × wS => jJ 101 102 w0 r.2) := by
  unfold L_X7_is_S7
  repeat' (first
    | with_reducible exact pp_some (by assumption)
    | with_reducible refine j_P_X7_is_S7_24 ?_ ?_ (by assumption)
    | with_reducible refine j_J_X7_is_S7_20 (by assumption)
    | with_reducible (refine pp_B (pp_put (by assumption) (by decide) (by decide)) ?_; intro _ _)
    | with_reducible (refine pp_B (pp_ast (by assumption)) ?_; intro _ _)
    | with_reducible (refine pp_B (pp_putL (by assumption)) ?_; intro _ _)
    | with_reducible refine pp_if ?_ ?_
    | with_reducible refine pp_xIf ?_
    | with_reducible (refine pp_B pp_any ?_; intro _ _)
    | with_reducible assumption
    | with_reducible (intro _))
theorem j_B_X2_denied_4 {w0 : wS} {rec : Int32 → wS → Option (Int32 × wS)} {o : wO} {kh4 : Int32 → Int32 → Int32 → wS → Option (Int32 × wS)} {ke28 : wS → Option (Int32 × wS)} {ke50 : Int32 → Int32 → wS → Option (Int32 × wS)} {x1 : Int32} {x2 : Int32} {x3 : Int32} {w : wS} (h_rec : ∀ (c0 : Int32) (c1 : wS), jJ 101 102 w0 c1 → pp (rec c0 c1) (fun r : Int32 × wS => jJ 101 102 w0 r.2)) (h_kh4 : ∀ (c0 : Int32) (c1 : Int32) (c2 : Int32) (c3 : wS), jJ 101 102 w0 c3 → pp (kh4 c0 c1 c2 c3) (fun r : Int32 × wS => jJ 101 102 w0 r.2)) (h_ke28 : ∀ (c0 : wS), jJ 101 102 w0 c0 → pp (ke28 c0) (fun r : Int32 × wS => jJ 101 102 w0 r.2)) (h_ke50 : ∀ (c0 : Int32) (c1 : Int32) (c2 : wS), jJ 101 102 w0 c2 → pp (ke50 c0 c1 c2) (fun r : Int32 × wS => jJ 101 102 w0 r.2)) (h_w : jJ 101 102 w0 w) : pp (B_X2_denied_4 rec o kh4 ke28 ke50 x1 x2 x3 w) (fun r : Int32 × wS => jJ 101 102 w0 r.2) := by
  unfold B_X2_denied_4
  repeat' (first
    | with_reducible exact pp_some (by assumption)
    | with_reducible (refine pp_B2 (h_rec _ _ (by assumption)) ?_; intro _ _ _)
    | with_reducible exact h_kh4 _ _ _ _ (by assumption)
    | with_reducible exact h_ke28 _ (by assumption)
    | with_reducible exact h_ke50 _ _ _ (by assumption)
    | with_reducible (refine pp_B2 (j_L_X7_is_S7 (by assumption)) ?_; intro _ _ _)
    | with_reducible exact j_L_X7_is_S7 (by assumption)
    | with_reducible (refine pp_B (j_L_X7_advance (by assumption)) ?_; intro _ _)
    | with_reducible exact j_L_X7_advance (by assumption)
    | with_reducible (refine pp_B (pp_put (by assumption) (by decide) (by decide)) ?_; intro _ _)
    | with_reducible (refine pp_B (pp_ast (by assumption)) ?_; intro _ _)
    | with_reducible (refine pp_B (pp_putL (by assumption)) ?_; intro _ _)
    | with_reducible refine pp_if ?_ ?_
    | with_reducible refine pp_xIf ?_
    | with_reducible (refine pp_B pp_any ?_; intro _ _)
    | with_reducible assumption
    | with_reducible (intro _))
theorem j_P_X2_denied_4 {w0 : wS} {rec : Int32 → wS → Option (Int32 × wS)} {o : wO} {ke28 : wS → Option (Int32 × wS)} {ke50 : Int32 → Int32 → wS → Option (Int32 × wS)} {n : Nat} {x1 : Int32} {x2 : Int32} {x3 : Int32} {w : wS} (h_rec : ∀ (c0 : Int32) (c1 : wS), jJ 101 102 w0 c1 → pp (rec c0 c1) (fun r : Int32 × wS => jJ 101 102 w0 r.2)) (h_ke28 : ∀ (c0 : wS), jJ 101 102 w0 c0 → pp (ke28 c0) (fun r : Int32 × wS => jJ 101 102 w0 r.2)) (h_ke50 : ∀ (c0 : Int32) (c1 : Int32) (c2 : wS), jJ 101 102 w0 c2 → pp (ke50 c0 c1 c2) (fun r : Int32 × wS => jJ 101 102 w0 r.2)) (h_w : jJ 101 102 w0 w) : pp (P_X2_denied_4 rec o ke28 ke50 n x1 x2 x3 w) (fun r : Int32 × wS => jJ 101 102 w0 r.2) := by
  unfold P_X2_denied_4
  refine pp_loop (I := fun σ => jJ 101 102 w0 σ.2.2.2) (fun kk hkk σ hσ => ?_) _ _ h_w
  refine j_B_X2_denied_4 ?_ ?_ ?_ ?_ hσ
  · exact h_rec
  · exact fun c0 c1 c2 c3 hc => hkk (c0, c1, c2, c3) hc
  · exact h_ke28
  · exact h_ke50
theorem j_J_X2_part_43 {w0 : wS} {rec : Int32 → wS → Option (Int32 × wS)} {o : wO} {y0 : Int32} {w : wS} (h_rec : ∀ (c0 : Int32) (c1 : wS), jJ 101 102 w0 c1 → pp (rec c0 c1) (fun r : Int32 × wS => jJ 101 102 w0 r.2)) (h_w : jJ 101 102 w0 w) : pp (J_X2_part_43 rec o y0 w) (fun r : Int32 × wS => jJ 101 102 w0 r.2) := by
  unfold J_X2_part_43
  repeat' (first
    | with_reducible exact pp_some (by assumption)
    | with_reducible (refine pp_B2 (h_rec _ _ (by assumption)) ?_; intro _ _ _)
    | with_reducible (refine pp_B (pp_put (by assumption) (by decide) (by decide)) ?_; intro _ _)
    | with_reducible (refine pp_B (pp_ast (by assumption)) ?_; intro _ _)
    | with_reducible (refine pp_B (pp_putL (by assumption)) ?_; intro _ _)
    | with_reducible refine pp_if ?_ ?_
    | with_reducible refine pp_xIf ?_
    | with_reducible (refine pp_B pp_any ?_; intro _ _)
    | with_reducible assumption
    | with_reducible (intro _))
theorem j_J_X2_part_42 {w0 : wS} {rec : Int32 → wS → Option (Int32 × wS)} {o : wO} {w : wS} (h_rec : ∀ (c0 : Int32) (c1 : wS), jJ 101 102 w0 c1 → pp (rec c0 c1) (fun r : Int32 × wS => jJ 101 102 w0 r.2)) (h_w : jJ 101 102 w0 w) : pp (J_X2_part_42 rec o w) (fun r : Int32 × wS => jJ 101 102 w0 r.2) := by
  unfold J_X2_part_42
  repeat' (first
    | with_reducible exact pp_some (by assumption)
    | with_reducible (refine pp_B2 (h_rec _ _ (by assumption)) ?_; intro _ _ _)
    | with_reducible refine j_J_X2_part_43 ?_ (by assumption)
    | with_reducible (refine pp_B (pp_put (by assumption) (by decide) (by decide)) ?_; intro _ _)
    | with_reducible (refine pp_B (pp_ast (by assumption)) ?_; intro _ _)
    | with_reducible (refine pp_B (pp_putL (by assumption)) ?_; intro _ _)
    | with_reducible refine pp_if ?_ ?_
    | with_reducible refine pp_xIf ?_
    | with_reducible (refine pp_B pp_any ?_; intro _ _)
    | with_reducible assumption
    | with_reducible (intro _))
theorem j_B_X7_value_14 {w0 : wS} {o : wO} {kh14 : Int32 → Int32 → wS → Option (Int32 × wS)} {ke48 : Int32 → wS → Option (Int32 × wS)} {x1 : Int32} {x2 : Int32} {w : wS} (h_kh14 : ∀ (c0 : Int32) (c1 : Int32) (c2 : wS), jJ 101 102 w0 c2 → pp (kh14 c0 c1 c2) (fun r : Int32 × wS => jJ 101 102 w0 r.2)) (h_ke48 : ∀ (c0 : Int32) (c1 : wS), jJ 101 102 w0 c1 → pp (ke48 c0 c1) (fun r : Int32 × wS => jJ 101 102 w0 r.2)) (h_w : jJ 101 102 w0 w) : pp (B_X7_value_14 o kh14 ke48 x1 x2 w) (fun r : Int32 × wS => jJ 101 102 w0 r.2) := by
  unfold B_X7_value_14
  repeat' (first
    | with_reducible exact pp_some (by assumption)
    | with_reducible exact h_kh14 _ _ _ (by assumption)
    | with_reducible exact h_ke48 _ _ (by assumption)
    | with_reducible (refine pp_B (pp_put (by assumption) (by decide) (by decide)) ?_; intro _ _)
    | with_reducible (refine pp_B (pp_ast (by assumption)) ?_; intro _ _)
    | with_reducible (refine pp_B (pp_putL (by assumption)) ?_; intro _ _)
    | with_reducible refine pp_if ?_ ?_
    | with_reducible refine pp_xIf ?_
    | with_reducible (refine pp_B pp_any ?_; intro _ _)
    | with_reducible assumption
    | with_reducible (intro _))
theorem j_P_X7_value_14 {w0 : wS} {o : wO} {ke48 : Int32 → wS → Option (Int32 × wS)} {n : Nat} {x1 : Int32} {x2 : Int32} {w : wS} (h_ke48 : ∀ (c0 : Int32) (c1 : wS), jJ 101 102 w0 c1 → pp (ke48 c0 c1) (fun r : Int32 × wS => jJ 101 102 w0 r.2)) (h_w : jJ 101 102 w0 w) : pp (P_X7_value_14 o ke48 n x1 x2 w) (fun r : Int32 × wS => jJ 101 102 w0 r.2) := by
  unfold P_X7_value_14
  refine pp_loop (I := fun σ => jJ 101 102 w0 σ.2.2) (fun kk hkk σ hσ => ?_) _ _ h_w
  refine j_B_X7_value_14 ?_ ?_ hσ
  · exact fun c0 c1 c2 hc => hkk (c0, c1, c2) hc
  · exact h_ke48
theorem j_L_X7_value {w0 : wS} {o : wO} {w : wS} (h_w : jJ 101 102 w0 w) : pp (L_X7_value o w) (fun r : Int32 × wS => jJ 101 102 w0 r.2) := by
  unfold L_X7_value
  repeat' (first
    | with_reducible exact pp_some (by assumption)
    | with_reducible refine j_P_X7_value_14 ?_ (by assumption)
    | with_reducible (refine pp_B (pp_put (by assumption) (by decide) (by decide)) ?_; intro _ _)
    | with_reducible (refine pp_B (pp_ast (by assumption)) ?_; intro _ _)
    | with_reducible (refine pp_B (pp_putL (by assumption)) ?_; intro _ _)
    | with_reducible refine pp_if ?_ ?_
    | with_reducible refine pp_xIf ?_
    | with_reducible (refine pp_B pp_any ?_; intro _ _)
    | with_reducible assumption
    | with_reducible (intro _))
theorem j_L_X2_emit {w0 : wS} {o : wO} {a1 : Int32} {w : wS} (h_w : jJ 101 102 w0 w) : pp (L_X2_emit o a1 w) (fun r : Int32 × wS => jJ 101 102 w0 r.2) := by
  unfold L_X2_emit
  repeat' (first
    | with_reducible exact pp_some (by assumption)
    | with_reducible (refine pp_B2 (j_L_X2_refuse (by decide) (by assumption)) ?_; intro _ _ _)
    | with_reducible exact j_L_X2_refuse (by decide) (by assumption)
    | with_reducible (refine pp_B (pp_put (by assumption) (by decide) (by decide)) ?_; intro _ _)
    | with_reducible (refine pp_B (pp_ast (by assumption)) ?_; intro _ _)
    | with_reducible (refine pp_B (pp_putL (by assumption)) ?_; intro _ _)
    | with_reducible refine pp_if ?_ ?_
    | with_reducible refine pp_xIf ?_
    | with_reducible (refine pp_B pp_any ?_; intro _ _)
    | with_reducible assumption
    | with_reducible (intro _))
theorem j_J_X2_part_108 {w0 : wS} {rec : Int32 → wS → Option (Int32 × wS)} {o : wO} {x2 : Int32} {w : wS} (h_rec : ∀ (c0 : Int32) (c1 : wS), jJ 101 102 w0 c1 → pp (rec c0 c1) (fun r : Int32 × wS => jJ 101 102 w0 r.2)) (h_w : jJ 101 102 w0 w) : pp (J_X2_part_108 rec o x2 w) (fun r : Int32 × wS => jJ 101 102 w0 r.2) := by
  unfold J_X2_part_108
  repeat' (first
    | with_reducible exact pp_some (by assumption)
    | with_reducible (refine pp_B2 (h_rec _ _ (by assumption)) ?_; intro _ _ _)
    | with_reducible (refine pp_B (j_L_X7_advance (by assumption)) ?_; intro _ _)
    | with_reducible exact j_L_X7_advance (by assumption)
    | with_reducible (refine pp_B2 (j_L_X2_emit (by assumption)) ?_; intro _ _ _)
    | with_reducible exact j_L_X2_emit (by assumption)
    | with_reducible (refine pp_B (pp_put (by assumption) (by decide) (by decide)) ?_; intro _ _)
    | with_reducible (refine pp_B (pp_ast (by assumption)) ?_; intro _ _)
    | with_reducible (refine pp_B (pp_putL (by assumption)) ?_; intro _ _)
    | with_reducible refine pp_if ?_ ?_
    | with_reducible refine pp_xIf ?_
    | with_reducible (refine pp_B pp_any ?_; intro _ _)
    | with_reducible assumption
    | with_reducible (intro _))
theorem j_B_X7_is_S8_24 {w0 : wS} {o : wO} {kh24 : Int32 → wS → Option (Int32 × wS)} {ke51 : wS → Option (Int32 × wS)} {ke59 : wS → Option (Int32 × wS)} {x2 : Int32} {w : wS} (h_kh24 : ∀ (c0 : Int32) (c1 : wS), jJ 101 102 w0 c1 → pp (kh24 c0 c1) (fun r : Int32 × wS => jJ 101 102 w0 r.2)) (h_ke51 : ∀ (c0 : wS), jJ 101 102 w0 c0 → pp (ke51 c0) (fun r : Int32 × wS => jJ 101 102 w0 r.2)) (h_ke59 : ∀ (c0 : wS), jJ 101 102 w0 c0 → pp (ke59 c0) (fun r : Int32 × wS => jJ 101 102 w0 r.2)) (h_w : jJ 101 102 w0 w) : pp (B_X7_is_S8_24 o kh24 ke51 ke59 x2 w) (fun r : Int32 × wS => jJ 101 102 w0 r.2) := by
  unfold B_X7_is_S8_24
  repeat' (first
    | with_reducible exact pp_some (by assumption)
    | with_reducible exact h_kh24 _ _ (by assumption)
    | with_reducible exact h_ke51 _ (by assumption)
    | with_reducible exact h_ke59 _ (by assumption)
    | with_reducible (refine pp_B (pp_put (by assumption) (by decide) (by decide)) ?_; intro _ _)
    | with_reducible (refine pp_B (pp_ast (by assumption)) ?_; intro _ _)
    | with_reducible (refine pp_B (pp_putL (by assumption)) ?_; intro _ _)
    | with_reducible refine pp_if ?_ ?_
    | with_reducible refine pp_xIf ?_
    | with_reducible (refine pp_B pp_any ?_; intro _ _)
    | with_reducible assumption
    | with_reducible (intro _))
theorem j_P_X7_is_S8_24 {w0 : wS} {o : wO} {ke51 : wS → Option (Int32 × wS)} {ke59 : wS → Option (Int32 × wS)} {n : Nat} {x2 : Int32} {w : wS} (h_ke51 : ∀ (c0 : wS), jJ 101 102 w0 c0 → pp (ke51 c0) (fun r : Int32 × wS => jJ 101 102 w0 r.2)) (h_ke59 : ∀ (c0 : wS), jJ 101 102 w0 c0 → pp (ke59 c0) (fun r : Int32 × wS => jJ 101 102 w0 r.2)) (h_w : jJ 101 102 w0 w) : pp (P_X7_is_S8_24 o ke51 ke59 n x2 w) (fun r : Int32 × wS => jJ 101 102 w0 r.2) := by
  unfold P_X7_is_S8_24
  refine pp_loop (I := fun σ => jJ 101 102 w0 σ.2) (fun kk hkk σ hσ => ?_) _ _ h_w
  refine j_B_X7_is_S8_24 ?_ ?_ ?_ hσ
  · exact fun c0 c1 hc => hkk (c0, c1) hc
  · exact h_ke51
  · exact h_ke59
theorem j_J_X7_is_S8_20 {w0 : wS} {o : wO} {w : wS} (h_w : jJ 101 102 w0 w) : pp (J_X7_is_S8_20 o w) (fun r : Int32 × wS => jJ 101 102 w0 r.2) := by
  unfold J_X7_is_S8_20
  repeat' (first
    | with_reducible exact pp_some (by assumption)
    | with_reducible (refine pp_B (pp_put (by assumption) (by decide) (by decide)) ?_; intro _ _)
    | with_reducible (refine pp_B (pp_ast (by assumption)) ?_; intro _ _)
    | with_reducible (refine pp_B (pp_putL (by assumption)) ?_; intro _ _)
    | with_reducible refine pp_if ?_ ?_
    | with_reducible refine pp_xIf ?_
    | with_reducible (refine pp_B pp_any ?_; intro _ _)
    | with_reducible assumption
    | with_reducible (intro _))
theorem j_L_X7_is_S8 {w0 : wS} {o : wO} {w : wS} (h_w : jJ 101 102 w0 w) : pp (L_X7_is_S8 o w) (fun r : Int32 × wS => jJ 101 102 w0 r.2) := by
  unfold L_X7_is_S8
  repeat' (first
    | with_reducible exact pp_some (by assumption)
    | with_reducible refine j_P_X7_is_S8_24 ?_ ?_ (by assumption)
    | with_reducible refine j_J_X7_is_S8_20 (by assumption)
    | with_reducible (refine pp_B (pp_put (by assumption) (by decide) (by decide)) ?_; intro _ _)
    | with_reducible (refine pp_B (pp_ast (by assumption)) ?_; intro _ _)
    | with_reducible (refine pp_B (pp_putL (by assumption)) ?_; intro _ _)
    | with_reducible refine pp_if ?_ ?_
    | with_reducible refine pp_xIf ?_
    | with_reducible (refine pp_B pp_any ?_; intro _ _)
    | with_reducible assumption
    | with_reducible (intro _))
theorem j_B_X7_is_S9_24 {w0 : wS} {o : wO} {kh24 : Int32 → wS → Option (Int32 × wS)} {ke51 : wS → Option (Int32 × wS)} {ke59 : wS → Option (Int32 × wS)} {x2 : Int32} {w : wS} (h_kh24 : ∀ (c0 : Int32) (c1 : wS), jJ 101 102 w0 c1 → pp (kh24 c0 c1) (fun r : Int32 × wS => jJ 101 102 w0 r.2)) (h_ke51 : ∀ (c0 : wS), jJ 101 102 w0 c0 → pp (ke51 c0) (fun r : Int32 × wS => jJ 101 102 w0 r.2)) (h_ke59 : ∀ (c0 : wS), jJ 101 102 w0 c0 → pp (ke59 c0) (fun r : Int32 × wS => jJ 101 102 w0 r.2)) (h_w : jJ 101 102 w0 w) : pp (B_X7_is_S9_24 o kh24 ke51 ke59 x2 w) (fun r : Int32 × wS => jJ 101 102 w0 r.2) := by
  unfold B_X7_is_S9_24
  repeat' (first
    | with_reducible exact pp_some (by assumption)
    | with_reducible exact h_kh24 _ _ (by assumption)
    | with_reducible exact h_ke51 _ (by assumption)
    | with_reducible exact h_ke59 _ (by assumption)
    | with_reducible (refine pp_B (pp_put (by assumption) (by decide) (by decide)) ?_; intro _ _)
    | with_reducible (refine pp_B (pp_ast (by assumption)) ?_; intro _ _)
    | with_reducible (refine pp_B (pp_putL (by assumption)) ?_; intro _ _)
    | with_reducible refine pp_if ?_ ?_
    | with_reducible refine pp_xIf ?_
    | with_reducible (refine pp_B pp_any ?_; intro _ _)
    | with_reducible assumption
    | with_reducible (intro _))
theorem j_P_X7_is_S9_24 {w0 : wS} {o : wO} {ke51 : wS → Option (Int32 × wS)} {ke59 : wS → Option (Int32 × wS)} {n : Nat} {x2 : Int32} {w : wS} (h_ke51 : ∀ (c0 : wS), jJ 101 102 w0 c0 → pp (ke51 c0) (fun r : Int32 × wS => jJ 101 102 w0 r.2)) (h_ke59 : ∀ (c0 : wS), jJ 101 102 w0 c0 → pp (ke59 c0) (fun r : Int32 × wS => jJ 101 102 w0 r.2)) (h_w : jJ 101 102 w0 w) : pp (P_X7_is_S9_24 o ke51 ke59 n x2 w) (fun r : Int32 × wS => jJ 101 102 w0 r.2) := by
  unfold P_X7_is_S9_24
  refine pp_loop (I := fun σ => jJ 101 102 w0 σ.2) (fun kk hkk σ hσ => ?_) _ _ h_w
  refine j_B_X7_is_S9_24 ?_ ?_ ?_ hσ
  · exact fun c0 c1 hc => hkk (c0, c1) hc
  · exact h_ke51
  · exact h_ke59
theorem j_J_X7_is_S9_20 {w0 : wS} {o : wO} {w : wS} (h_w : jJ 101 102 w0 w) : pp (J_X7_is_S9_20 o w) (fun r : Int32 × wS => jJ 101 102 w0 r.2) := by
  unfold J_X7_is_S9_20
  repeat' (first
    | with_reducible exact pp_some (by assumption)
    | with_reducible (refine pp_B (pp_put (by assumption) (by decide) (by decide)) ?_; intro _ _)
    | with_reducible (refine pp_B (pp_ast (by assumption)) ?_; intro _ _)
    | with_reducible (refine pp_B (pp_putL (by assumption)) ?_; intro _ _)
    | with_reducible refine pp_if ?_ ?_
    | with_reducible refine pp_xIf ?_
    | with_reducible (refine pp_B pp_any ?_; intro _ _)
    | with_reducible assumption
    | with_reducible (intro _))
theorem j_L_X7_is_S9 {w0 : wS} {o : wO} {w : wS} (h_w : jJ 101 102 w0 w) : pp (L_X7_is_S9 o w) (fun r : Int32 × wS => jJ 101 102 w0 r.2) := by
  unfold L_X7_is_S9
  repeat' (first
    | with_reducible exact pp_some (by assumption)
    | with_reducible refine j_P_X7_is_S9_24 ?_ ?_ (by assumption)
    | with_reducible refine j_J_X7_is_S9_20 (by assumption)
    | with_reducible (refine pp_B (pp_put (by assumption) (by decide) (by decide)) ?_; intro _ _)
    | with_reducible (refine pp_B (pp_ast (by assumption)) ?_; intro _ _)
    | with_reducible (refine pp_B (pp_putL (by assumption)) ?_; intro _ _)
    | with_reducible refine pp_if ?_ ?_
    | with_reducible refine pp_xIf ?_
    | with_reducible (refine pp_B pp_any ?_; intro _ _)
    | with_reducible assumption
    | with_reducible (intro _))
theorem j_B_X7_is_S10_24 {w0 : wS} {o : wO} {kh24 : Int32 → wS → Option (Int32 × wS)} {ke51 : wS → Option (Int32 × wS)} {ke59 : wS → Option (Int32 × wS)} {x2 : Int32} {w : wS} (h_kh24 : ∀ (c0 : Int32) (c1 : wS), jJ 101 102 w0 c1 → pp (kh24 c0 c1) (fun r : Int32 × wS => jJ 101 102 w0 r.2)) (h_ke51 : ∀ (c0 : wS), jJ 101 102 w0 c0 → pp (ke51 c0) (fun r : Int32 × wS => jJ 101 102 w0 r.2)) (h_ke59 : ∀ (c0 : wS), jJ 101 102 w0 c0 → pp (ke59 c0) (fun r : Int32 × wS => jJ 101 102 w0 r.2)) (h_w : jJ 101 102 w0 w) : pp (B_X7_is_S10_24 o kh24 ke51 ke59 x2 w) (fun r : Int32 × wS => jJ 101 102 w0 r.2) := by
  unfold B_X7_is_S10_24
  repeat' (first
    | with_reducible exact pp_some (by assumption)
    | with_reducible exact h_kh24 _ _ (by assumption)
    | with_reducible exact h_ke51 _ (by assumption)
    | with_reducible exact h_ke59 _ (by assumption)
    | with_reducible (refine pp_B (pp_put (by assumption) (by decide) (by decide)) ?_; intro _ _)
    | with_reducible (refine pp_B (pp_ast (by assumption)) ?_; intro _ _)
    | with_reducible (refine pp_B (pp_putL (by assumption)) ?_; intro _ _)
    | with_reducible refine pp_if ?_ ?_
    | with_reducible refine pp_xIf ?_
    | with_reducible (refine pp_B pp_any ?_; intro _ _)
    | with_reducible assumption
    | with_reducible (intro _))
theorem j_P_X7_is_S10_24 {w0 : wS} {o : wO} {ke51 : wS → Option (Int32 × wS)} {ke59 : wS → Option (Int32 × wS)} {n : Nat} {x2 : Int32} {w : wS} (h_ke51 : ∀ (c0 : wS), jJ 101 102 w0 c0 → pp (ke51 c0) (fun r : Int32 × wS => jJ 101 102 w0 r.2)) (h_ke59 : ∀ (c0 : wS), jJ 101 102 w0 c0 → pp (ke59 c0) (fun r : Int32 × wS => jJ 101 102 w0 r.2)) (h_w : jJ 101 102 w0 w) : pp (P_X7_is_S10_24 o ke51 ke59 n x2 w) (fun r : Int32 × wS => jJ 101 102 w0 r.2) := by
  unfold P_X7_is_S10_24
  refine pp_loop (I := fun σ => jJ 101 102 w0 σ.2) (fun kk hkk σ hσ => ?_) _ _ h_w
  refine j_B_X7_is_S10_24 ?_ ?_ ?_ hσ
  · exact fun c0 c1 hc => hkk (c0, c1) hc
  · exact h_ke51
  · exact h_ke59
theorem j_J_X7_is_S10_20 {w0 : wS} {o : wO} {w : wS} (h_w : jJ 101 102 w0 w) : pp (J_X7_is_S10_20 o w) (fun r : Int32 × wS => jJ 101 102 w0 r.2) := by
  unfold J_X7_is_S10_20
  repeat' (first
    | with_reducible exact pp_some (by assumption)
    | with_reducible (refine pp_B (pp_put (by assumption) (by decide) (by decide)) ?_; intro _ _)
    | with_reducible (refine pp_B (pp_ast (by assumption)) ?_; intro _ _)
    | with_reducible (refine pp_B (pp_putL (by assumption)) ?_; intro _ _)
    | with_reducible refine pp_if ?_ ?_
    | with_reducible refine pp_xIf ?_
    | with_reducible (refine pp_B pp_any ?_; intro _ _)
    | with_reducible assumption
    | with_reducible (intro _))
theorem j_L_X7_is_S10 {w0 : wS} {o : wO} {w : wS} (h_w : jJ 101 102 w0 w) : pp (L_X7_is_S10 o w) (fun r : Int32 × wS => jJ 101 102 w0 r.2) := by
  unfold L_X7_is_S10
  repeat' (first
    | with_reducible exact pp_some (by assumption)
    | with_reducible refine j_P_X7_is_S10_24 ?_ ?_ (by assumption)
    | with_reducible refine j_J_X7_is_S10_20 (by assumption)
    | with_reducible (refine pp_B (pp_put (by assumption) (by decide) (by decide)) ?_; intro _ _)
    | with_reducible (refine pp_B (pp_ast (by assumption)) ?_; intro _ _)
    | with_reducible (refine pp_B (pp_putL (by assumption)) ?_; intro _ _)
    | with_reducible refine pp_if ?_ ?_
    | with_reducible refine pp_xIf ?_
    | with_reducible (refine pp_B pp_any ?_; intro _ _)
    | with_reducible assumption
    | with_reducible (intro _))
theorem j_B_X7_is_S11_24 {w0 : wS} {o : wO} {kh24 : Int32 → wS → Option (Int32 × wS)} {ke51 : wS → Option (Int32 × wS)} {ke59 : wS → Option (Int32 × wS)} {x2 : Int32} {w : wS} (h_kh24 : ∀ (c0 : Int32) (c1 : wS), jJ 101 102 w0 c1 → pp (kh24 c0 c1) (fun r : Int32 × wS => jJ 101 102 w0 r.2)) (h_ke51 : ∀ (c0 : wS), jJ 101 102 w0 c0 → pp (ke51 c0) (fun r : Int32 × wS => jJ 101 102 w0 r.2)) (h_ke59 : ∀ (c0 : wS), jJ 101 102 w0 c0 → pp (ke59 c0) (fun r : Int32 × wS => jJ 101 102 w0 r.2)) (h_w : jJ 101 102 w0 w) : pp (B_X7_is_S11_24 o kh24 ke51 ke59 x2 w) (fun r : Int32 × wS => jJ 101 102 w0 r.2) := by
  unfold B_X7_is_S11_24
  repeat' (first
    | with_reducible exact pp_some (by assumption)
    | with_reducible exact h_kh24 _ _ (by assumption)
    | with_reducible exact h_ke51 _ (by assumption)
    | with_reducible exact h_ke59 _ (by assumption)
    | with_reducible (refine pp_B (pp_put (by assumption) (by decide) (by decide)) ?_; intro _ _)
    | with_reducible (refine pp_B (pp_ast (by assumption)) ?_; intro _ _)
    | with_reducible (refine pp_B (pp_putL (by assumption)) ?_; intro _ _)
    | with_reducible refine pp_if ?_ ?_
    | with_reducible refine pp_xIf ?_
    | with_reducible (refine pp_B pp_any ?_; intro _ _)
    | with_reducible assumption
    | with_reducible (intro _))
theorem j_P_X7_is_S11_24 {w0 : wS} {o : wO} {ke51 : wS → Option (Int32 × wS)} {ke59 : wS → Option (Int32 × wS)} {n : Nat} {x2 : Int32} {w : wS} (h_ke51 : ∀ (c0 : wS), jJ 101 102 w0 c0 → pp (ke51 c0) (fun r : Int32 × wS => jJ 101 102 w0 r.2)) (h_ke59 : ∀ (c0 : wS), jJ 101 102 w0 c0 → pp (ke59 c0) (fun r : Int32 × wS => jJ 101 102 w0 r.2)) (h_w : jJ 101 102 w0 w) : pp (P_X7_is_S11_24 o ke51 ke59 n x2 w) (fun r : Int32 × wS => jJ 101 102 w0 r.2) := by
  unfold P_X7_is_S11_24
  refine pp_loop (I := fun σ => jJ 101 102 w0 σ.2) (fun kk hkk σ hσ => ?_) _ _ h_w
  refine j_B_X7_is_S11_24 ?_ ?_ ?_ hσ
  · exact fun c0 c1 hc => hkk (c0, c1) hc
  · exact h_ke51
  · exact h_ke59
theorem j_J_X7_is_S11_20 {w0 : wS} {o : wO} {w : wS} (h_w : jJ 101 102 w0 w) : pp (J_X7_is_S11_20 o w) (fun r : Int32 × wS => jJ 101 102 w0 r.2) := by
  unfold J_X7_is_S11_20
  repeat' (first
    | with_reducible exact pp_some (by assumption)
    | with_reducible (refine pp_B (pp_put (by assumption) (by decide) (by decide)) ?_; intro _ _)
    | with_reducible (refine pp_B (pp_ast (by assumption)) ?_; intro _ _)
    | with_reducible (refine pp_B (pp_putL (by assumption)) ?_; intro _ _)
    | with_reducible refine pp_if ?_ ?_
    | with_reducible refine pp_xIf ?_
    | with_reducible (refine pp_B pp_any ?_; intro _ _)
    | with_reducible assumption
    | with_reducible (intro _))
theorem j_L_X7_is_S11 {w0 : wS} {o : wO} {w : wS} (h_w : jJ 101 102 w0 w) : pp (L_X7_is_S11 o w) (fun r : Int32 × wS => jJ 101 102 w0 r.2) := by
  unfold L_X7_is_S11
  repeat' (first
    | with_reducible exact pp_some (by assumption)
    | with_reducible refine j_P_X7_is_S11_24 ?_ ?_ (by assumption)
    | with_reducible refine j_J_X7_is_S11_20 (by assumption)
    | with_reducible (refine pp_B (pp_put (by assumption) (by decide) (by decide)) ?_; intro _ _)
    | with_reducible (refine pp_B (pp_ast (by assumption)) ?_; intro _ _)
    | with_reducible (refine pp_B (pp_putL (by assumption)) ?_; intro _ _)
    | with_reducible refine pp_if ?_ ?_
    | with_reducible refine pp_xIf ?_
    | with_reducible (refine pp_B pp_any ?_; intro _ _)
    | with_reducible assumption
    | with_reducible (intro _))
theorem j_B_X7_is_S12_24 {w0 : wS} {o : wO} {kh24 : Int32 → wS → Option (Int32 × wS)} {ke51 : wS → Option (Int32 × wS)} {ke59 : wS → Option (Int32 × wS)} {x2 : Int32} {w : wS} (h_kh24 : ∀ (c0 : Int32) (c1 : wS), jJ 101 102 w0 c1 → pp (kh24 c0 c1) (fun r : Int32 × wS => jJ 101 102 w0 r.2)) (h_ke51 : ∀ (c0 : wS), jJ 101 102 w0 c0 → pp (ke51 c0) (fun r : Int32 × wS => jJ 101 102 w0 r.2)) (h_ke59 : ∀ (c0 : wS), jJ 101 102 w0 c0 → pp (ke59 c0) (fun r : Int32 × wS => jJ 101 102 w0 r.2)) (h_w : jJ 101 102 w0 w) : pp (B_X7_is_S12_24 o kh24 ke51 ke59 x2 w) (fun r : Int32 × wS => jJ 101 102 w0 r.2) := by
  unfold B_X7_is_S12_24
  repeat' (first
    | with_reducible exact pp_some (by assumption)
    | with_reducible exact h_kh24 _ _ (by assumption)
    | with_reducible exact h_ke51 _ (by assumption)
    | with_reducible exact h_ke59 _ (by assumption)
    | with_reducible (refine pp_B (pp_put (by assumption) (by decide) (by decide)) ?_; intro _ _)
    | with_reducible (refine pp_B (pp_ast (by assumption)) ?_; intro _ _)
    | with_reducible (refine pp_B (pp_putL (by assumption)) ?_; intro _ _)
    | with_reducible refine pp_if ?_ ?_
    | with_reducible refine pp_xIf ?_
    | with_reducible (refine pp_B pp_any ?_; intro _ _)
    | with_reducible assumption
    | with_reducible (intro _))
theorem j_P_X7_is_S12_24 {w0 : wS} {o : wO} {ke51 : wS → Option (Int32 × wS)} {ke59 : wS → Option (Int32 × wS)} {n : Nat} {x2 : Int32} {w : wS} (h_ke51 : ∀ (c0 : wS), jJ 101 102 w0 c0 → pp (ke51 c0) (fun r : Int32 × wS => jJ 101 102 w0 r.2)) (h_ke59 : ∀ (c0 : wS), jJ 101 102 w0 c0 → pp (ke59 c0) (fun r : Int32 × wS => jJ 101 102 w0 r.2)) (h_w : jJ 101 102 w0 w) : pp (P_X7_is_S12_24 o ke51 ke59 n x2 w) (fun r : Int32 × wS => jJ 101 102 w0 r.2) := by
  unfold P_X7_is_S12_24
  refine pp_loop (I := fun σ => jJ 101 102 w0 σ.2) (fun kk hkk σ hσ => ?_) _ _ h_w
  refine j_B_X7_is_S12_24 ?_ ?_ ?_ hσ
  · exact fun c0 c1 hc => hkk (c0, c1) hc
  · exact h_ke51
  · exact h_ke59
theorem j_J_X7_is_S12_20 {w0 : wS} {o : wO} {w : wS} (h_w : jJ 101 102 w0 w) : pp (J_X7_is_S12_20 o w) (fun r : Int32 × wS => jJ 101 102 w0 r.2) := by
  unfold J_X7_is_S12_20
  repeat' (first
    | with_reducible exact pp_some (by assumption)
    | with_reducible (refine pp_B (pp_put (by assumption) (by decide) (by decide)) ?_; intro _ _)
    | with_reducible (refine pp_B (pp_ast (by assumption)) ?_; intro _ _)
    | with_reducible (refine pp_B (pp_putL (by assumption)) ?_; intro _ _)
    | with_reducible refine pp_if ?_ ?_
    | with_reducible refine pp_xIf ?_
    | with_reducible (refine pp_B pp_any ?_; intro _ _)
    | with_reducible assumption
    | with_reducible (intro _))
theorem j_L_X7_is_S12 {w0 : wS} {o : wO} {w : wS} (h_w : jJ 101 102 w0 w) : pp (L_X7_is_S12 o w) (fun r : Int32 × wS => jJ 101 102 w0 r.2) := by
  unfold L_X7_is_S12
  repeat' (first
    | with_reducible exact pp_some (by assumption)
    | with_reducible refine j_P_X7_is_S12_24 ?_ ?_ (by assumption)
    | with_reducible refine j_J_X7_is_S12_20 (by assumption)
    | with_reducible (refine pp_B (pp_put (by assumption) (by decide) (by decide)) ?_; intro _ _)
    | with_reducible (refine pp_B (pp_ast (by assumption)) ?_; intro _ _)
    | with_reducible (refine pp_B (pp_putL (by assumption)) ?_; intro _ _)
    | with_reducible refine pp_if ?_ ?_
    | with_reducible refine pp_xIf ?_
    | with_reducible (refine pp_B pp_any ?_; intro _ _)
    | with_reducible assumption
    | with_reducible (intro _))
theorem j_J_X2_valueTold_114 {w0 : wS} {o : wO} {y0 : Int32} {w : wS} (h_w : jJ 101 102 w0 w) : pp (J_X2_valueTold_114 o y0 w) (fun r : Int32 × wS => jJ 101 102 w0 r.2) := by
  unfold J_X2_valueTold_114
  repeat' (first
    | with_reducible exact pp_some (by assumption)
    | with_reducible (refine pp_B (pp_put (by assumption) (by decide) (by decide)) ?_; intro _ _)
    | with_reducible (refine pp_B (pp_ast (by assumption)) ?_; intro _ _)
    | with_reducible (refine pp_B (pp_putL (by assumption)) ?_; intro _ _)
    | with_reducible refine pp_if ?_ ?_
    | with_reducible refine pp_xIf ?_
    | with_reducible (refine pp_B pp_any ?_; intro _ _)
    | with_reducible assumption
    | with_reducible (intro _))
theorem j_J_X2_valueTold_113 {w0 : wS} {o : wO} {w : wS} (h_w : jJ 101 102 w0 w) : pp (J_X2_valueTold_113 o w) (fun r : Int32 × wS => jJ 101 102 w0 r.2) := by
  unfold J_X2_valueTold_113
  repeat' (first
    | with_reducible exact pp_some (by assumption)
    | with_reducible refine j_J_X2_valueTold_114 (by assumption)
    | with_reducible (refine pp_B (pp_put (by assumption) (by decide) (by decide)) ?_; intro _ _)
    | with_reducible (refine pp_B (pp_ast (by assumption)) ?_; intro _ _)
    | with_reducible (refine pp_B (pp_putL (by assumption)) ?_; intro _ _)
    | with_reducible refine pp_if ?_ ?_
    | with_reducible refine pp_xIf ?_
    | with_reducible (refine pp_B pp_any ?_; intro _ _)
    | with_reducible assumption
    | with_reducible (intro _))
theorem j_B_X7_is_S13_24 {w0 : wS} {o : wO} {kh24 : Int32 → wS → Option (Int32 × wS)} {ke51 : wS → Option (Int32 × wS)} {ke59 : wS → Option (Int32 × wS)} {x2 : Int32} {w : wS} (h_kh24 : ∀ (c0 : Int32) (c1 : wS), jJ 101 102 w0 c1 → pp (kh24 c0 c1) (fun r : Int32 × wS => jJ 101 102 w0 r.2)) (h_ke51 : ∀ (c0 : wS), jJ 101 102 w0 c0 → pp (ke51 c0) (fun r : Int32 × wS => jJ 101 102 w0 r.2)) (h_ke59 : ∀ (c0 : wS), jJ 101 102 w0 c0 → pp (ke59 c0) (fun r : Int32 × wS => jJ 101 102 w0 r.2)) (h_w : jJ 101 102 w0 w) : pp (B_X7_is_S13_24 o kh24 ke51 ke59 x2 w) (fun r : Int32 × wS => jJ 101 102 w0 r.2) := by
  unfold B_X7_is_S13_24
  repeat' (first
    | with_reducible exact pp_some (by assumption)
    | with_reducible exact h_kh24 _ _ (by assumption)
    | with_reducible exact h_ke51 _ (by assumption)
    | with_reducible exact h_ke59 _ (by assumption)
    | with_reducible (refine pp_B (pp_put (by assumption) (by decide) (by decide)) ?_; intro _ _)
    | with_reducible (refine pp_B (pp_ast (by assumption)) ?_; intro _ _)
    | with_reducible (refine pp_B (pp_putL (by assumption)) ?_; intro _ _)
    | with_reducible refine pp_if ?_ ?_
    | with_reducible refine pp_xIf ?_
    | with_reducible (refine pp_B pp_any ?_; intro _ _)
    | with_reducible assumption
    | with_reducible (intro _))
theorem j_P_X7_is_S13_24 {w0 : wS} {o : wO} {ke51 : wS → Option (Int32 × wS)} {ke59 : wS → Option (Int32 × wS)} {n : Nat} {x2 : Int32} {w : wS} (h_ke51 : ∀ (c0 : wS), jJ 101 102 w0 c0 → pp (ke51 c0) (fun r : Int32 × wS => jJ 101 102 w0 r.2)) (h_ke59 : ∀ (c0 : wS), jJ 101 102 w0 c0 → pp (ke59 c0) (fun r : Int32 × wS => jJ 101 102 w0 r.2)) (h_w : jJ 101 102 w0 w) : pp (P_X7_is_S13_24 o ke51 ke59 n x2 w) (fun r : Int32 × wS => jJ 101 102 w0 r.2) := by
  unfold P_X7_is_S13_24
  refine pp_loop (I := fun σ => jJ 101 102 w0 σ.2) (fun kk hkk σ hσ => ?_) _ _ h_w
  refine j_B_X7_is_S13_24 ?_ ?_ ?_ hσ
  · exact fun c0 c1 hc => hkk (c0, c1) hc
  · exact h_ke51
  · exact h_ke59
theorem j_J_X7_is_S13_20 {w0 : wS} {o : wO} {w : wS} (h_w : jJ 101 102 w0 w) : pp (J_X7_is_S13_20 o w) (fun r : Int32 × wS => jJ 101 102 w0 r.2) := by
  unfold J_X7_is_S13_20
  repeat' (first
    | with_reducible exact pp_some (by assumption)
    | with_reducible (refine pp_B (pp_put (by assumption) (by decide) (by decide)) ?_; intro _ _)
    | with_reducible (refine pp_B (pp_ast (by assumption)) ?_; intro _ _)
    | with_reducible (refine pp_B (pp_putL (by assumption)) ?_; intro _ _)
    | with_reducible refine pp_if ?_ ?_
    | with_reducible refine pp_xIf ?_
    | with_reducible (refine pp_B pp_any ?_; intro _ _)
    | with_reducible assumption
    | with_reducible (intro _))
theorem j_L_X7_is_S13 {w0 : wS} {o : wO} {w : wS} (h_w : jJ 101 102 w0 w) : pp (L_X7_is_S13 o w) (fun r : Int32 × wS => jJ 101 102 w0 r.2) := by
  unfold L_X7_is_S13
  repeat' (first
    | with_reducible exact pp_some (by assumption)
    | with_reducible refine j_P_X7_is_S13_24 ?_ ?_ (by assumption)
    | with_reducible refine j_J_X7_is_S13_20 (by assumption)
    | with_reducible (refine pp_B (pp_put (by assumption) (by decide) (by decide)) ?_; intro _ _)
    | with_reducible (refine pp_B (pp_ast (by assumption)) ?_; intro _ _)
    | with_reducible (refine pp_B (pp_putL (by assumption)) ?_; intro _ _)
    | with_reducible refine pp_if ?_ ?_
    | with_reducible refine pp_xIf ?_
    | with_reducible (refine pp_B pp_any ?_; intro _ _)
    | with_reducible assumption
    | with_reducible (intro _))
theorem j_L_X2_valueTold {w0 : wS} {o : wO} {w : wS} (h_w : jJ 101 102 w0 w) : pp (L_X2_valueTold o w) (fun r : Int32 × wS => jJ 101 102 w0 r.2) := by
  unfold L_X2_valueTold
  repeat' (first
    | with_reducible exact pp_some (by assumption)
    | with_reducible (refine pp_B2 (j_L_X7_is_S8 (by assumption)) ?_; intro _ _ _)
    | with_reducible exact j_L_X7_is_S8 (by assumption)
    | with_reducible (refine pp_B2 (j_L_X7_is_S9 (by assumption)) ?_; intro _ _ _)
    | with_reducible exact j_L_X7_is_S9 (by assumption)
    | with_reducible (refine pp_B2 (j_L_X7_is_S10 (by assumption)) ?_; intro _ _ _)
    | with_reducible exact j_L_X7_is_S10 (by assumption)
    | with_reducible (refine pp_B2 (j_L_X7_is_S11 (by assumption)) ?_; intro _ _ _)
    | with_reducible exact j_L_X7_is_S11 (by assumption)
    | with_reducible (refine pp_B2 (j_L_X7_is_S4 (by assumption)) ?_; intro _ _ _)
    | with_reducible exact j_L_X7_is_S4 (by assumption)
    | with_reducible (refine pp_B2 (j_L_X7_is_S12 (by assumption)) ?_; intro _ _ _)
    | with_reducible exact j_L_X7_is_S12 (by assumption)
    | with_reducible refine j_J_X2_valueTold_113 (by assumption)
    | with_reducible (refine pp_B2 (j_L_X7_is_S13 (by assumption)) ?_; intro _ _ _)
    | with_reducible exact j_L_X7_is_S13 (by assumption)
    | with_reducible refine j_J_X2_valueTold_114 (by assumption)
    | with_reducible (refine pp_B (pp_put (by assumption) (by decide) (by decide)) ?_; intro _ _)
    | with_reducible (refine pp_B (pp_ast (by assumption)) ?_; intro _ _)
    | with_reducible (refine pp_B (pp_putL (by assumption)) ?_; intro _ _)
    | with_reducible refine pp_if ?_ ?_
    | with_reducible refine pp_xIf ?_
    | with_reducible (refine pp_B pp_any ?_; intro _ _)
    | with_reducible assumption
    | with_reducible (intro _))
theorem j_L_X2_part {w0 : wS} {rec : Int32 → wS → Option (Int32 × wS)} {o : wO} {a1 : Int32} {w : wS} (h_rec : ∀ (c0 : Int32) (c1 : wS), jJ 101 102 w0 c1 → pp (rec c0 c1) (fun r : Int32 × wS => jJ 101 102 w0 r.2)) (h_w : jJ 101 102 w0 w) : pp (L_X2_part rec o a1 w) (fun r : Int32 × wS => jJ 101 102 w0 r.2) := by
  unfold L_X2_part
  repeat' (first
    | with_reducible exact pp_some (by assumption)
    | with_reducible (refine pp_B2 (h_rec _ _ (by assumption)) ?_; intro _ _ _)
    | with_reducible (refine pp_B (j_L_X7_advance (by assumption)) ?_; intro _ _)
    | with_reducible exact j_L_X7_advance (by assumption)
    | with_reducible refine j_J_X2_part_42 ?_ (by assumption)
    | with_reducible (refine pp_B2 (j_L_X2_taken (by assumption)) ?_; intro _ _ _)
    | with_reducible exact j_L_X2_taken (by assumption)
    | with_reducible refine j_J_X2_part_43 ?_ (by assumption)
    | with_reducible (refine pp_B2 (j_L_X7_value (by assumption)) ?_; intro _ _ _)
    | with_reducible exact j_L_X7_value (by assumption)
    | with_reducible (refine pp_B2 (j_L_X2_refuse (by decide) (by assumption)) ?_; intro _ _ _)
    | with_reducible exact j_L_X2_refuse (by decide) (by assumption)
    | with_reducible refine j_J_X2_part_108 ?_ (by assumption)
    | with_reducible (refine pp_B2 (j_L_X2_valueTold (by assumption)) ?_; intro _ _ _)
    | with_reducible exact j_L_X2_valueTold (by assumption)
    | with_reducible (refine pp_B (pp_put (by assumption) (by decide) (by decide)) ?_; intro _ _)
    | with_reducible (refine pp_B (pp_ast (by assumption)) ?_; intro _ _)
    | with_reducible (refine pp_B (pp_putL (by assumption)) ?_; intro _ _)
    | with_reducible refine pp_if ?_ ?_
    | with_reducible refine pp_xIf ?_
    | with_reducible (refine pp_B pp_any ?_; intro _ _)
    | with_reducible assumption
    | with_reducible (intro _))
theorem j_J_X2_product_82 {w0 : wS} {rec : Int32 → wS → Option (Int32 × wS)} {o : wO} {kh8 : Int32 → Int32 → Int32 → wS → Option (Int32 × wS)} {ke89 : Int32 → wS → Option (Int32 × wS)} {x1 : Int32} {x3 : Int32} {y0 : Int32} {w : wS} (h_rec : ∀ (c0 : Int32) (c1 : wS), jJ 101 102 w0 c1 → pp (rec c0 c1) (fun r : Int32 × wS => jJ 101 102 w0 r.2)) (h_kh8 : ∀ (c0 : Int32) (c1 : Int32) (c2 : Int32) (c3 : wS), jJ 101 102 w0 c3 → pp (kh8 c0 c1 c2 c3) (fun r : Int32 × wS => jJ 101 102 w0 r.2)) (h_ke89 : ∀ (c0 : Int32) (c1 : wS), jJ 101 102 w0 c1 → pp (ke89 c0 c1) (fun r : Int32 × wS => jJ 101 102 w0 r.2)) (h_w : jJ 101 102 w0 w) : pp (J_X2_product_82 rec o kh8 ke89 x1 x3 y0 w) (fun r : Int32 × wS => jJ 101 102 w0 r.2) := by
  unfold J_X2_product_82
  repeat' (first
    | with_reducible exact pp_some (by assumption)
    | with_reducible (refine pp_B2 (h_rec _ _ (by assumption)) ?_; intro _ _ _)
    | with_reducible exact h_kh8 _ _ _ _ (by assumption)
    | with_reducible exact h_ke89 _ _ (by assumption)
    | with_reducible (refine pp_B (pp_put (by assumption) (by decide) (by decide)) ?_; intro _ _)
    | with_reducible (refine pp_B (pp_ast (by assumption)) ?_; intro _ _)
    | with_reducible (refine pp_B (pp_putL (by assumption)) ?_; intro _ _)
    | with_reducible refine pp_if ?_ ?_
    | with_reducible refine pp_xIf ?_
    | with_reducible (refine pp_B pp_any ?_; intro _ _)
    | with_reducible assumption
    | with_reducible (intro _))
theorem j_J_X2_product_81 {w0 : wS} {rec : Int32 → wS → Option (Int32 × wS)} {o : wO} {kh8 : Int32 → Int32 → Int32 → wS → Option (Int32 × wS)} {ke89 : Int32 → wS → Option (Int32 × wS)} {x1 : Int32} {x3 : Int32} {w : wS} (h_rec : ∀ (c0 : Int32) (c1 : wS), jJ 101 102 w0 c1 → pp (rec c0 c1) (fun r : Int32 × wS => jJ 101 102 w0 r.2)) (h_kh8 : ∀ (c0 : Int32) (c1 : Int32) (c2 : Int32) (c3 : wS), jJ 101 102 w0 c3 → pp (kh8 c0 c1 c2 c3) (fun r : Int32 × wS => jJ 101 102 w0 r.2)) (h_ke89 : ∀ (c0 : Int32) (c1 : wS), jJ 101 102 w0 c1 → pp (ke89 c0 c1) (fun r : Int32 × wS => jJ 101 102 w0 r.2)) (h_w : jJ 101 102 w0 w) : pp (J_X2_product_81 rec o kh8 ke89 x1 x3 w) (fun r : Int32 × wS => jJ 101 102 w0 r.2) := by
  unfold J_X2_product_81
  repeat' (first
    | with_reducible exact pp_some (by assumption)
    | with_reducible (refine pp_B2 (h_rec _ _ (by assumption)) ?_; intro _ _ _)
    | with_reducible exact h_kh8 _ _ _ _ (by assumption)
    | with_reducible exact h_ke89 _ _ (by assumption)
    | with_reducible refine j_J_X2_product_82 ?_ ?_ ?_ (by assumption)
    | with_reducible (refine pp_B (pp_put (by assumption) (by decide) (by decide)) ?_; intro _ _)
    | with_reducible (refine pp_B (pp_ast (by assumption)) ?_; intro _ _)
    | with_reducible (refine pp_B (pp_putL (by assumption)) ?_; intro _ _)
    | with_reducible refine pp_if ?_ ?_
    | with_reducible refine pp_xIf ?_
    | with_reducible (refine pp_B pp_any ?_; intro _ _)
    | with_reducible assumption
    | with_reducible (intro _))
theorem j_J_X2_product_43 {w0 : wS} {rec : Int32 → wS → Option (Int32 × wS)} {o : wO} {kh8 : Int32 → Int32 → Int32 → wS → Option (Int32 × wS)} {ke89 : Int32 → wS → Option (Int32 × wS)} {x1 : Int32} {x3 : Int32} {w : wS} (h_rec : ∀ (c0 : Int32) (c1 : wS), jJ 101 102 w0 c1 → pp (rec c0 c1) (fun r : Int32 × wS => jJ 101 102 w0 r.2)) (h_kh8 : ∀ (c0 : Int32) (c1 : Int32) (c2 : Int32) (c3 : wS), jJ 101 102 w0 c3 → pp (kh8 c0 c1 c2 c3) (fun r : Int32 × wS => jJ 101 102 w0 r.2)) (h_ke89 : ∀ (c0 : Int32) (c1 : wS), jJ 101 102 w0 c1 → pp (ke89 c0 c1) (fun r : Int32 × wS => jJ 101 102 w0 r.2)) (h_w : jJ 101 102 w0 w) : pp (J_X2_product_43 rec o kh8 ke89 x1 x3 w) (fun r : Int32 × wS => jJ 101 102 w0 r.2) := by
  unfold J_X2_product_43
  repeat' (first
    | with_reducible exact pp_some (by assumption)
    | with_reducible (refine pp_B2 (h_rec _ _ (by assumption)) ?_; intro _ _ _)
    | with_reducible exact h_kh8 _ _ _ _ (by assumption)
    | with_reducible exact h_ke89 _ _ (by assumption)
    | with_reducible (refine pp_B (j_L_X7_advance (by assumption)) ?_; intro _ _)
    | with_reducible exact j_L_X7_advance (by assumption)
    | with_reducible (refine pp_B2 (j_L_X2_part (by assumption)) ?_; intro _ _ _)
    | with_reducible refine pp_B2 (j_L_X2_part ?_ (by assumption)) ?_
    | with_reducible exact j_L_X2_part (by assumption)
    | with_reducible refine j_J_X2_product_81 ?_ ?_ ?_ (by assumption)
    | with_reducible (refine pp_B2 (j_L_X2_emit (by assumption)) ?_; intro _ _ _)
    | with_reducible exact j_L_X2_emit (by assumption)
    | with_reducible refine j_J_X2_product_82 ?_ ?_ ?_ (by assumption)
    | with_reducible (refine pp_B (pp_put (by assumption) (by decide) (by decide)) ?_; intro _ _)
    | with_reducible (refine pp_B (pp_ast (by assumption)) ?_; intro _ _)
    | with_reducible (refine pp_B (pp_putL (by assumption)) ?_; intro _ _)
    | with_reducible refine pp_if ?_ ?_
    | with_reducible refine pp_xIf ?_
    | with_reducible (refine pp_B pp_any ?_; intro _ _)
    | with_reducible assumption
    | with_reducible (intro _))
theorem j_B_X2_product_8 {w0 : wS} {rec : Int32 → wS → Option (Int32 × wS)} {o : wO} {kh8 : Int32 → Int32 → Int32 → wS → Option (Int32 × wS)} {ke89 : Int32 → wS → Option (Int32 × wS)} {x1 : Int32} {x2 : Int32} {x3 : Int32} {w : wS} (h_rec : ∀ (c0 : Int32) (c1 : wS), jJ 101 102 w0 c1 → pp (rec c0 c1) (fun r : Int32 × wS => jJ 101 102 w0 r.2)) (h_kh8 : ∀ (c0 : Int32) (c1 : Int32) (c2 : Int32) (c3 : wS), jJ 101 102 w0 c3 → pp (kh8 c0 c1 c2 c3) (fun r : Int32 × wS => jJ 101 102 w0 r.2)) (h_ke89 : ∀ (c0 : Int32) (c1 : wS), jJ 101 102 w0 c1 → pp (ke89 c0 c1) (fun r : Int32 × wS => jJ 101 102 w0 r.2)) (h_w : jJ 101 102 w0 w) : pp (B_X2_product_8 rec o kh8 ke89 x1 x2 x3 w) (fun r : Int32 × wS => jJ 101 102 w0 r.2) := by
  unfold B_X2_product_8
  repeat' (first
    | with_reducible exact pp_some (by assumption)
    | with_reducible (refine pp_B2 (h_rec _ _ (by assumption)) ?_; intro _ _ _)
    | with_reducible exact h_kh8 _ _ _ _ (by assumption)
    | with_reducible exact h_ke89 _ _ (by assumption)
    | with_reducible refine j_J_X2_product_43 ?_ ?_ ?_ (by assumption)
    | with_reducible (refine pp_B (pp_put (by assumption) (by decide) (by decide)) ?_; intro _ _)
    | with_reducible (refine pp_B (pp_ast (by assumption)) ?_; intro _ _)
    | with_reducible (refine pp_B (pp_putL (by assumption)) ?_; intro _ _)
    | with_reducible refine pp_if ?_ ?_
    | with_reducible refine pp_xIf ?_
    | with_reducible (refine pp_B pp_any ?_; intro _ _)
    | with_reducible assumption
    | with_reducible (intro _))
theorem j_P_X2_product_8 {w0 : wS} {rec : Int32 → wS → Option (Int32 × wS)} {o : wO} {ke89 : Int32 → wS → Option (Int32 × wS)} {n : Nat} {x1 : Int32} {x2 : Int32} {x3 : Int32} {w : wS} (h_rec : ∀ (c0 : Int32) (c1 : wS), jJ 101 102 w0 c1 → pp (rec c0 c1) (fun r : Int32 × wS => jJ 101 102 w0 r.2)) (h_ke89 : ∀ (c0 : Int32) (c1 : wS), jJ 101 102 w0 c1 → pp (ke89 c0 c1) (fun r : Int32 × wS => jJ 101 102 w0 r.2)) (h_w : jJ 101 102 w0 w) : pp (P_X2_product_8 rec o ke89 n x1 x2 x3 w) (fun r : Int32 × wS => jJ 101 102 w0 r.2) := by
  unfold P_X2_product_8
  refine pp_loop (I := fun σ => jJ 101 102 w0 σ.2.2.2) (fun kk hkk σ hσ => ?_) _ _ h_w
  refine j_B_X2_product_8 ?_ ?_ ?_ hσ
  · exact h_rec
  · exact fun c0 c1 c2 c3 hc => hkk (c0, c1, c2, c3) hc
  · exact h_ke89
theorem j_J_X2_product_89 {w0 : wS} {rec : Int32 → wS → Option (Int32 × wS)} {o : wO} {x2 : Int32} {w : wS} (h_rec : ∀ (c0 : Int32) (c1 : wS), jJ 101 102 w0 c1 → pp (rec c0 c1) (fun r : Int32 × wS => jJ 101 102 w0 r.2)) (h_w : jJ 101 102 w0 w) : pp (J_X2_product_89 rec o x2 w) (fun r : Int32 × wS => jJ 101 102 w0 r.2) := by
  unfold J_X2_product_89
  repeat' (first
    | with_reducible exact pp_some (by assumption)
    | with_reducible (refine pp_B2 (h_rec _ _ (by assumption)) ?_; intro _ _ _)
    | with_reducible (refine pp_B (pp_put (by assumption) (by decide) (by decide)) ?_; intro _ _)
    | with_reducible (refine pp_B (pp_ast (by assumption)) ?_; intro _ _)
    | with_reducible (refine pp_B (pp_putL (by assumption)) ?_; intro _ _)
    | with_reducible refine pp_if ?_ ?_
    | with_reducible refine pp_xIf ?_
    | with_reducible (refine pp_B pp_any ?_; intro _ _)
    | with_reducible assumption
    | with_reducible (intro _))
theorem j_L_X2_product {w0 : wS} {rec : Int32 → wS → Option (Int32 × wS)} {o : wO} {a1 : Int32} {w : wS} (h_rec : ∀ (c0 : Int32) (c1 : wS), jJ 101 102 w0 c1 → pp (rec c0 c1) (fun r : Int32 × wS => jJ 101 102 w0 r.2)) (h_w : jJ 101 102 w0 w) : pp (L_X2_product rec o a1 w) (fun r : Int32 × wS => jJ 101 102 w0 r.2) := by
  unfold L_X2_product
  repeat' (first
    | with_reducible exact pp_some (by assumption)
    | with_reducible (refine pp_B2 (h_rec _ _ (by assumption)) ?_; intro _ _ _)
    | with_reducible (refine pp_B2 (j_L_X2_part (by assumption)) ?_; intro _ _ _)
    | with_reducible refine pp_B2 (j_L_X2_part ?_ (by assumption)) ?_
    | with_reducible exact j_L_X2_part (by assumption)
    | with_reducible refine j_P_X2_product_8 ?_ ?_ (by assumption)
    | with_reducible refine j_J_X2_product_89 ?_ (by assumption)
    | with_reducible (refine pp_B (pp_put (by assumption) (by decide) (by decide)) ?_; intro _ _)
    | with_reducible (refine pp_B (pp_ast (by assumption)) ?_; intro _ _)
    | with_reducible (refine pp_B (pp_putL (by assumption)) ?_; intro _ _)
    | with_reducible refine pp_if ?_ ?_
    | with_reducible refine pp_xIf ?_
    | with_reducible (refine pp_B pp_any ?_; intro _ _)
    | with_reducible assumption
    | with_reducible (intro _))
theorem j_J_X2_sum_82 {w0 : wS} {rec : Int32 → wS → Option (Int32 × wS)} {o : wO} {kh8 : Int32 → Int32 → Int32 → wS → Option (Int32 × wS)} {ke89 : Int32 → wS → Option (Int32 × wS)} {x1 : Int32} {x3 : Int32} {y0 : Int32} {w : wS} (h_rec : ∀ (c0 : Int32) (c1 : wS), jJ 101 102 w0 c1 → pp (rec c0 c1) (fun r : Int32 × wS => jJ 101 102 w0 r.2)) (h_kh8 : ∀ (c0 : Int32) (c1 : Int32) (c2 : Int32) (c3 : wS), jJ 101 102 w0 c3 → pp (kh8 c0 c1 c2 c3) (fun r : Int32 × wS => jJ 101 102 w0 r.2)) (h_ke89 : ∀ (c0 : Int32) (c1 : wS), jJ 101 102 w0 c1 → pp (ke89 c0 c1) (fun r : Int32 × wS => jJ 101 102 w0 r.2)) (h_w : jJ 101 102 w0 w) : pp (J_X2_sum_82 rec o kh8 ke89 x1 x3 y0 w) (fun r : Int32 × wS => jJ 101 102 w0 r.2) := by
  unfold J_X2_sum_82
  repeat' (first
    | with_reducible exact pp_some (by assumption)
    | with_reducible (refine pp_B2 (h_rec _ _ (by assumption)) ?_; intro _ _ _)
    | with_reducible exact h_kh8 _ _ _ _ (by assumption)
    | with_reducible exact h_ke89 _ _ (by assumption)
    | with_reducible (refine pp_B (pp_put (by assumption) (by decide) (by decide)) ?_; intro _ _)
    | with_reducible (refine pp_B (pp_ast (by assumption)) ?_; intro _ _)
    | with_reducible (refine pp_B (pp_putL (by assumption)) ?_; intro _ _)
    | with_reducible refine pp_if ?_ ?_
    | with_reducible refine pp_xIf ?_
    | with_reducible (refine pp_B pp_any ?_; intro _ _)
    | with_reducible assumption
    | with_reducible (intro _))
theorem j_J_X2_sum_81 {w0 : wS} {rec : Int32 → wS → Option (Int32 × wS)} {o : wO} {kh8 : Int32 → Int32 → Int32 → wS → Option (Int32 × wS)} {ke89 : Int32 → wS → Option (Int32 × wS)} {x1 : Int32} {x3 : Int32} {w : wS} (h_rec : ∀ (c0 : Int32) (c1 : wS), jJ 101 102 w0 c1 → pp (rec c0 c1) (fun r : Int32 × wS => jJ 101 102 w0 r.2)) (h_kh8 : ∀ (c0 : Int32) (c1 : Int32) (c2 : Int32) (c3 : wS), jJ 101 102 w0 c3 → pp (kh8 c0 c1 c2 c3) (fun r : Int32 × wS => jJ 101 102 w0 r.2)) (h_ke89 : ∀ (c0 : Int32) (c1 : wS), jJ 101 102 w0 c1 → pp (ke89 c0 c1) (fun r : Int32 × wS => jJ 101 102 w0 r.2)) (h_w : jJ 101 102 w0 w) : pp (J_X2_sum_81 rec o kh8 ke89 x1 x3 w) (fun r : Int32 × wS => jJ 101 102 w0 r.2) := by
  unfold J_X2_sum_81
  repeat' (first
    | with_reducible exact pp_some (by assumption)
    | with_reducible (refine pp_B2 (h_rec _ _ (by assumption)) ?_; intro _ _ _)
    | with_reducible exact h_kh8 _ _ _ _ (by assumption)
    | with_reducible exact h_ke89 _ _ (by assumption)
    | with_reducible refine j_J_X2_sum_82 ?_ ?_ ?_ (by assumption)
    | with_reducible (refine pp_B (pp_put (by assumption) (by decide) (by decide)) ?_; intro _ _)
    | with_reducible (refine pp_B (pp_ast (by assumption)) ?_; intro _ _)
    | with_reducible (refine pp_B (pp_putL (by assumption)) ?_; intro _ _)
    | with_reducible refine pp_if ?_ ?_
    | with_reducible refine pp_xIf ?_
    | with_reducible (refine pp_B pp_any ?_; intro _ _)
    | with_reducible assumption
    | with_reducible (intro _))
theorem j_J_X2_sum_43 {w0 : wS} {rec : Int32 → wS → Option (Int32 × wS)} {o : wO} {kh8 : Int32 → Int32 → Int32 → wS → Option (Int32 × wS)} {ke89 : Int32 → wS → Option (Int32 × wS)} {x1 : Int32} {x3 : Int32} {w : wS} (h_rec : ∀ (c0 : Int32) (c1 : wS), jJ 101 102 w0 c1 → pp (rec c0 c1) (fun r : Int32 × wS => jJ 101 102 w0 r.2)) (h_kh8 : ∀ (c0 : Int32) (c1 : Int32) (c2 : Int32) (c3 : wS), jJ 101 102 w0 c3 → pp (kh8 c0 c1 c2 c3) (fun r : Int32 × wS => jJ 101 102 w0 r.2)) (h_ke89 : ∀ (c0 : Int32) (c1 : wS), jJ 101 102 w0 c1 → pp (ke89 c0 c1) (fun r : Int32 × wS => jJ 101 102 w0 r.2)) (h_w : jJ 101 102 w0 w) : pp (J_X2_sum_43 rec o kh8 ke89 x1 x3 w) (fun r : Int32 × wS => jJ 101 102 w0 r.2) := by
  unfold J_X2_sum_43
  repeat' (first
    | with_reducible exact pp_some (by assumption)
    | with_reducible (refine pp_B2 (h_rec _ _ (by assumption)) ?_; intro _ _ _)
    | with_reducible exact h_kh8 _ _ _ _ (by assumption)
    | with_reducible exact h_ke89 _ _ (by assumption)
    | with_reducible (refine pp_B (j_L_X7_advance (by assumption)) ?_; intro _ _)
    | with_reducible exact j_L_X7_advance (by assumption)
    | with_reducible (refine pp_B2 (j_L_X2_product (by assumption)) ?_; intro _ _ _)
    | with_reducible refine pp_B2 (j_L_X2_product ?_ (by assumption)) ?_
    | with_reducible exact j_L_X2_product (by assumption)
    | with_reducible refine j_J_X2_sum_81 ?_ ?_ ?_ (by assumption)
    | with_reducible (refine pp_B2 (j_L_X2_emit (by assumption)) ?_; intro _ _ _)
    | with_reducible exact j_L_X2_emit (by assumption)
    | with_reducible refine j_J_X2_sum_82 ?_ ?_ ?_ (by assumption)
    | with_reducible (refine pp_B (pp_put (by assumption) (by decide) (by decide)) ?_; intro _ _)
    | with_reducible (refine pp_B (pp_ast (by assumption)) ?_; intro _ _)
    | with_reducible (refine pp_B (pp_putL (by assumption)) ?_; intro _ _)
    | with_reducible refine pp_if ?_ ?_
    | with_reducible refine pp_xIf ?_
    | with_reducible (refine pp_B pp_any ?_; intro _ _)
    | with_reducible assumption
    | with_reducible (intro _))
theorem j_B_X2_sum_8 {w0 : wS} {rec : Int32 → wS → Option (Int32 × wS)} {o : wO} {kh8 : Int32 → Int32 → Int32 → wS → Option (Int32 × wS)} {ke89 : Int32 → wS → Option (Int32 × wS)} {x1 : Int32} {x2 : Int32} {x3 : Int32} {w : wS} (h_rec : ∀ (c0 : Int32) (c1 : wS), jJ 101 102 w0 c1 → pp (rec c0 c1) (fun r : Int32 × wS => jJ 101 102 w0 r.2)) (h_kh8 : ∀ (c0 : Int32) (c1 : Int32) (c2 : Int32) (c3 : wS), jJ 101 102 w0 c3 → pp (kh8 c0 c1 c2 c3) (fun r : Int32 × wS => jJ 101 102 w0 r.2)) (h_ke89 : ∀ (c0 : Int32) (c1 : wS), jJ 101 102 w0 c1 → pp (ke89 c0 c1) (fun r : Int32 × wS => jJ 101 102 w0 r.2)) (h_w : jJ 101 102 w0 w) : pp (B_X2_sum_8 rec o kh8 ke89 x1 x2 x3 w) (fun r : Int32 × wS => jJ 101 102 w0 r.2) := by
  unfold B_X2_sum_8
  repeat' (first
    | with_reducible exact pp_some (by assumption)
    | with_reducible (refine pp_B2 (h_rec _ _ (by assumption)) ?_; intro _ _ _)
    | with_reducible exact h_kh8 _ _ _ _ (by assumption)
    | with_reducible exact h_ke89 _ _ (by assumption)
    | with_reducible refine j_J_X2_sum_43 ?_ ?_ ?_ (by assumption)
    | with_reducible (refine pp_B (pp_put (by assumption) (by decide) (by decide)) ?_; intro _ _)
    | with_reducible (refine pp_B (pp_ast (by assumption)) ?_; intro _ _)
    | with_reducible (refine pp_B (pp_putL (by assumption)) ?_; intro _ _)
    | with_reducible refine pp_if ?_ ?_
    | with_reducible refine pp_xIf ?_
    | with_reducible (refine pp_B pp_any ?_; intro _ _)
    | with_reducible assumption
    | with_reducible (intro _))
theorem j_P_X2_sum_8 {w0 : wS} {rec : Int32 → wS → Option (Int32 × wS)} {o : wO} {ke89 : Int32 → wS → Option (Int32 × wS)} {n : Nat} {x1 : Int32} {x2 : Int32} {x3 : Int32} {w : wS} (h_rec : ∀ (c0 : Int32) (c1 : wS), jJ 101 102 w0 c1 → pp (rec c0 c1) (fun r : Int32 × wS => jJ 101 102 w0 r.2)) (h_ke89 : ∀ (c0 : Int32) (c1 : wS), jJ 101 102 w0 c1 → pp (ke89 c0 c1) (fun r : Int32 × wS => jJ 101 102 w0 r.2)) (h_w : jJ 101 102 w0 w) : pp (P_X2_sum_8 rec o ke89 n x1 x2 x3 w) (fun r : Int32 × wS => jJ 101 102 w0 r.2) := by
  unfold P_X2_sum_8
  refine pp_loop (I := fun σ => jJ 101 102 w0 σ.2.2.2) (fun kk hkk σ hσ => ?_) _ _ h_w
  refine j_B_X2_sum_8 ?_ ?_ ?_ hσ
  · exact h_rec
  · exact fun c0 c1 c2 c3 hc => hkk (c0, c1, c2, c3) hc
  · exact h_ke89
theorem j_J_X2_sum_89 {w0 : wS} {rec : Int32 → wS → Option (Int32 × wS)} {o : wO} {x2 : Int32} {w : wS} (h_rec : ∀ (c0 : Int32) (c1 : wS), jJ 101 102 w0 c1 → pp (rec c0 c1) (fun r : Int32 × wS => jJ 101 102 w0 r.2)) (h_w : jJ 101 102 w0 w) : pp (J_X2_sum_89 rec o x2 w) (fun r : Int32 × wS => jJ 101 102 w0 r.2) := by
  unfold J_X2_sum_89
  repeat' (first
    | with_reducible exact pp_some (by assumption)
    | with_reducible (refine pp_B2 (h_rec _ _ (by assumption)) ?_; intro _ _ _)
    | with_reducible (refine pp_B (pp_put (by assumption) (by decide) (by decide)) ?_; intro _ _)
    | with_reducible (refine pp_B (pp_ast (by assumption)) ?_; intro _ _)
    | with_reducible (refine pp_B (pp_putL (by assumption)) ?_; intro _ _)
    | with_reducible refine pp_if ?_ ?_
    | with_reducible refine pp_xIf ?_
    | with_reducible (refine pp_B pp_any ?_; intro _ _)
    | with_reducible assumption
    | with_reducible (intro _))
theorem j_L_X2_sum {w0 : wS} {rec : Int32 → wS → Option (Int32 × wS)} {o : wO} {a1 : Int32} {w : wS} (h_rec : ∀ (c0 : Int32) (c1 : wS), jJ 101 102 w0 c1 → pp (rec c0 c1) (fun r : Int32 × wS => jJ 101 102 w0 r.2)) (h_w : jJ 101 102 w0 w) : pp (L_X2_sum rec o a1 w) (fun r : Int32 × wS => jJ 101 102 w0 r.2) := by
  unfold L_X2_sum
  repeat' (first
    | with_reducible exact pp_some (by assumption)
    | with_reducible (refine pp_B2 (h_rec _ _ (by assumption)) ?_; intro _ _ _)
    | with_reducible (refine pp_B2 (j_L_X2_product (by assumption)) ?_; intro _ _ _)
    | with_reducible refine pp_B2 (j_L_X2_product ?_ (by assumption)) ?_
    | with_reducible exact j_L_X2_product (by assumption)
    | with_reducible refine j_P_X2_sum_8 ?_ ?_ (by assumption)
    | with_reducible refine j_J_X2_sum_89 ?_ (by assumption)
    | with_reducible (refine pp_B (pp_put (by assumption) (by decide) (by decide)) ?_; intro _ _)
    | with_reducible (refine pp_B (pp_ast (by assumption)) ?_; intro _ _)
    | with_reducible (refine pp_B (pp_putL (by assumption)) ?_; intro _ _)
    | with_reducible refine pp_if ?_ ?_
    | with_reducible refine pp_xIf ?_
    | with_reducible (refine pp_B pp_any ?_; intro _ _)
    | with_reducible assumption
    | with_reducible (intro _))
theorem j_J_X2_compared_61 {w0 : wS} {rec : Int32 → wS → Option (Int32 × wS)} {o : wO} {y0 : Int32} {w : wS} (h_rec : ∀ (c0 : Int32) (c1 : wS), jJ 101 102 w0 c1 → pp (rec c0 c1) (fun r : Int32 × wS => jJ 101 102 w0 r.2)) (h_w : jJ 101 102 w0 w) : pp (J_X2_compared_61 rec o y0 w) (fun r : Int32 × wS => jJ 101 102 w0 r.2) := by
  unfold J_X2_compared_61
  repeat' (first
    | with_reducible exact pp_some (by assumption)
    | with_reducible (refine pp_B2 (h_rec _ _ (by assumption)) ?_; intro _ _ _)
    | with_reducible (refine pp_B (pp_put (by assumption) (by decide) (by decide)) ?_; intro _ _)
    | with_reducible (refine pp_B (pp_ast (by assumption)) ?_; intro _ _)
    | with_reducible (refine pp_B (pp_putL (by assumption)) ?_; intro _ _)
    | with_reducible refine pp_if ?_ ?_
    | with_reducible refine pp_xIf ?_
    | with_reducible (refine pp_B pp_any ?_; intro _ _)
    | with_reducible assumption
    | with_reducible (intro _))
theorem j_J_X2_compared_60 {w0 : wS} {rec : Int32 → wS → Option (Int32 × wS)} {o : wO} {w : wS} (h_rec : ∀ (c0 : Int32) (c1 : wS), jJ 101 102 w0 c1 → pp (rec c0 c1) (fun r : Int32 × wS => jJ 101 102 w0 r.2)) (h_w : jJ 101 102 w0 w) : pp (J_X2_compared_60 rec o w) (fun r : Int32 × wS => jJ 101 102 w0 r.2) := by
  unfold J_X2_compared_60
  repeat' (first
    | with_reducible exact pp_some (by assumption)
    | with_reducible (refine pp_B2 (h_rec _ _ (by assumption)) ?_; intro _ _ _)
    | with_reducible refine j_J_X2_compared_61 ?_ (by assumption)
    | with_reducible (refine pp_B (pp_put (by assumption) (by decide) (by decide)) ?_; intro _ _)
    | with_reducible (refine pp_B (pp_ast (by assumption)) ?_; intro _ _)
    | with_reducible (refine pp_B (pp_putL (by assumption)) ?_; intro _ _)
    | with_reducible refine pp_if ?_ ?_
    | with_reducible refine pp_xIf ?_
    | with_reducible (refine pp_B pp_any ?_; intro _ _)
    | with_reducible assumption
    | with_reducible (intro _))
theorem j_J_X2_compared_32 {w0 : wS} {rec : Int32 → wS → Option (Int32 × wS)} {o : wO} {x1 : Int32} {x2 : Int32} {w : wS} (h_rec : ∀ (c0 : Int32) (c1 : wS), jJ 101 102 w0 c1 → pp (rec c0 c1) (fun r : Int32 × wS => jJ 101 102 w0 r.2)) (h_w : jJ 101 102 w0 w) : pp (J_X2_compared_32 rec o x1 x2 w) (fun r : Int32 × wS => jJ 101 102 w0 r.2) := by
  unfold J_X2_compared_32
  repeat' (first
    | with_reducible exact pp_some (by assumption)
    | with_reducible (refine pp_B2 (h_rec _ _ (by assumption)) ?_; intro _ _ _)
    | with_reducible (refine pp_B (j_L_X7_advance (by assumption)) ?_; intro _ _)
    | with_reducible exact j_L_X7_advance (by assumption)
    | with_reducible (refine pp_B2 (j_L_X2_sum (by assumption)) ?_; intro _ _ _)
    | with_reducible refine pp_B2 (j_L_X2_sum ?_ (by assumption)) ?_
    | with_reducible exact j_L_X2_sum (by assumption)
    | with_reducible refine j_J_X2_compared_60 ?_ (by assumption)
    | with_reducible (refine pp_B2 (j_L_X2_emit (by assumption)) ?_; intro _ _ _)
    | with_reducible exact j_L_X2_emit (by assumption)
    | with_reducible refine j_J_X2_compared_61 ?_ (by assumption)
    | with_reducible (refine pp_B (pp_put (by assumption) (by decide) (by decide)) ?_; intro _ _)
    | with_reducible (refine pp_B (pp_ast (by assumption)) ?_; intro _ _)
    | with_reducible (refine pp_B (pp_putL (by assumption)) ?_; intro _ _)
    | with_reducible refine pp_if ?_ ?_
    | with_reducible refine pp_xIf ?_
    | with_reducible (refine pp_B pp_any ?_; intro _ _)
    | with_reducible assumption
    | with_reducible (intro _))
theorem j_L_X2_compared {w0 : wS} {rec : Int32 → wS → Option (Int32 × wS)} {o : wO} {a1 : Int32} {w : wS} (h_rec : ∀ (c0 : Int32) (c1 : wS), jJ 101 102 w0 c1 → pp (rec c0 c1) (fun r : Int32 × wS => jJ 101 102 w0 r.2)) (h_w : jJ 101 102 w0 w) : pp (L_X2_compared rec o a1 w) (fun r : Int32 × wS => jJ 101 102 w0 r.2) := by
  unfold L_X2_compared
  repeat' (first
    | with_reducible exact pp_some (by assumption)
    | with_reducible (refine pp_B2 (h_rec _ _ (by assumption)) ?_; intro _ _ _)
    | with_reducible (refine pp_B2 (j_L_X2_sum (by assumption)) ?_; intro _ _ _)
    | with_reducible refine pp_B2 (j_L_X2_sum ?_ (by assumption)) ?_
    | with_reducible exact j_L_X2_sum (by assumption)
    | with_reducible refine j_J_X2_compared_32 ?_ (by assumption)
    | with_reducible (refine pp_B (pp_put (by assumption) (by decide) (by decide)) ?_; intro _ _)
    | with_reducible (refine pp_B (pp_ast (by assumption)) ?_; intro _ _)
    | with_reducible (refine pp_B (pp_putL (by assumption)) ?_; intro _ _)
    | with_reducible refine pp_if ?_ ?_
    | with_reducible refine pp_xIf ?_
    | with_reducible (refine pp_B pp_any ?_; intro _ _)
    | with_reducible assumption
    | with_reducible (intro _))
theorem j_B_X2_denied_59 {w0 : wS} {rec : Int32 → wS → Option (Int32 × wS)} {o : wO} {kh59 : Int32 → Int32 → Int32 → wS → Option (Int32 × wS)} {ke82 : Int32 → wS → Option (Int32 × wS)} {x2 : Int32} {x3 : Int32} {x4 : Int32} {w : wS} (h_rec : ∀ (c0 : Int32) (c1 : wS), jJ 101 102 w0 c1 → pp (rec c0 c1) (fun r : Int32 × wS => jJ 101 102 w0 r.2)) (h_kh59 : ∀ (c0 : Int32) (c1 : Int32) (c2 : Int32) (c3 : wS), jJ 101 102 w0 c3 → pp (kh59 c0 c1 c2 c3) (fun r : Int32 × wS => jJ 101 102 w0 r.2)) (h_ke82 : ∀ (c0 : Int32) (c1 : wS), jJ 101 102 w0 c1 → pp (ke82 c0 c1) (fun r : Int32 × wS => jJ 101 102 w0 r.2)) (h_w : jJ 101 102 w0 w) : pp (B_X2_denied_59 rec o kh59 ke82 x2 x3 x4 w) (fun r : Int32 × wS => jJ 101 102 w0 r.2) := by
  unfold B_X2_denied_59
  repeat' (first
    | with_reducible exact pp_some (by assumption)
    | with_reducible (refine pp_B2 (h_rec _ _ (by assumption)) ?_; intro _ _ _)
    | with_reducible exact h_kh59 _ _ _ _ (by assumption)
    | with_reducible exact h_ke82 _ _ (by assumption)
    | with_reducible (refine pp_B2 (j_L_X2_emit (by assumption)) ?_; intro _ _ _)
    | with_reducible exact j_L_X2_emit (by assumption)
    | with_reducible (refine pp_B (pp_put (by assumption) (by decide) (by decide)) ?_; intro _ _)
    | with_reducible (refine pp_B (pp_ast (by assumption)) ?_; intro _ _)
    | with_reducible (refine pp_B (pp_putL (by assumption)) ?_; intro _ _)
    | with_reducible refine pp_if ?_ ?_
    | with_reducible refine pp_xIf ?_
    | with_reducible (refine pp_B pp_any ?_; intro _ _)
    | with_reducible assumption
    | with_reducible (intro _))
theorem j_P_X2_denied_59 {w0 : wS} {rec : Int32 → wS → Option (Int32 × wS)} {o : wO} {ke82 : Int32 → wS → Option (Int32 × wS)} {n : Nat} {x2 : Int32} {x3 : Int32} {x4 : Int32} {w : wS} (h_rec : ∀ (c0 : Int32) (c1 : wS), jJ 101 102 w0 c1 → pp (rec c0 c1) (fun r : Int32 × wS => jJ 101 102 w0 r.2)) (h_ke82 : ∀ (c0 : Int32) (c1 : wS), jJ 101 102 w0 c1 → pp (ke82 c0 c1) (fun r : Int32 × wS => jJ 101 102 w0 r.2)) (h_w : jJ 101 102 w0 w) : pp (P_X2_denied_59 rec o ke82 n x2 x3 x4 w) (fun r : Int32 × wS => jJ 101 102 w0 r.2) := by
  unfold P_X2_denied_59
  refine pp_loop (I := fun σ => jJ 101 102 w0 σ.2.2.2) (fun kk hkk σ hσ => ?_) _ _ h_w
  refine j_B_X2_denied_59 ?_ ?_ ?_ hσ
  · exact h_rec
  · exact fun c0 c1 c2 c3 hc => hkk (c0, c1, c2, c3) hc
  · exact h_ke82
theorem j_J_X2_denied_82 {w0 : wS} {rec : Int32 → wS → Option (Int32 × wS)} {o : wO} {x3 : Int32} {w : wS} (h_rec : ∀ (c0 : Int32) (c1 : wS), jJ 101 102 w0 c1 → pp (rec c0 c1) (fun r : Int32 × wS => jJ 101 102 w0 r.2)) (h_w : jJ 101 102 w0 w) : pp (J_X2_denied_82 rec o x3 w) (fun r : Int32 × wS => jJ 101 102 w0 r.2) := by
  unfold J_X2_denied_82
  repeat' (first
    | with_reducible exact pp_some (by assumption)
    | with_reducible (refine pp_B2 (h_rec _ _ (by assumption)) ?_; intro _ _ _)
    | with_reducible (refine pp_B (pp_put (by assumption) (by decide) (by decide)) ?_; intro _ _)
    | with_reducible (refine pp_B (pp_ast (by assumption)) ?_; intro _ _)
    | with_reducible (refine pp_B (pp_putL (by assumption)) ?_; intro _ _)
    | with_reducible refine pp_if ?_ ?_
    | with_reducible refine pp_xIf ?_
    | with_reducible (refine pp_B pp_any ?_; intro _ _)
    | with_reducible assumption
    | with_reducible (intro _))
theorem j_J_X2_denied_50 {w0 : wS} {rec : Int32 → wS → Option (Int32 × wS)} {o : wO} {x1 : Int32} {x2 : Int32} {w : wS} (h_rec : ∀ (c0 : Int32) (c1 : wS), jJ 101 102 w0 c1 → pp (rec c0 c1) (fun r : Int32 × wS => jJ 101 102 w0 r.2)) (h_w : jJ 101 102 w0 w) : pp (J_X2_denied_50 rec o x1 x2 w) (fun r : Int32 × wS => jJ 101 102 w0 r.2) := by
  unfold J_X2_denied_50
  repeat' (first
    | with_reducible exact pp_some (by assumption)
    | with_reducible (refine pp_B2 (h_rec _ _ (by assumption)) ?_; intro _ _ _)
    | with_reducible (refine pp_B2 (j_L_X2_compared (by assumption)) ?_; intro _ _ _)
    | with_reducible refine pp_B2 (j_L_X2_compared ?_ (by assumption)) ?_
    | with_reducible exact j_L_X2_compared (by assumption)
    | with_reducible refine j_P_X2_denied_59 ?_ ?_ (by assumption)
    | with_reducible refine j_J_X2_denied_82 ?_ (by assumption)
    | with_reducible (refine pp_B (pp_put (by assumption) (by decide) (by decide)) ?_; intro _ _)
    | with_reducible (refine pp_B (pp_ast (by assumption)) ?_; intro _ _)
    | with_reducible (refine pp_B (pp_putL (by assumption)) ?_; intro _ _)
    | with_reducible refine pp_if ?_ ?_
    | with_reducible refine pp_xIf ?_
    | with_reducible (refine pp_B pp_any ?_; intro _ _)
    | with_reducible assumption
    | with_reducible (intro _))
theorem j_L_X2_denied {w0 : wS} {rec : Int32 → wS → Option (Int32 × wS)} {o : wO} {a1 : Int32} {w : wS} (h_rec : ∀ (c0 : Int32) (c1 : wS), jJ 101 102 w0 c1 → pp (rec c0 c1) (fun r : Int32 × wS => jJ 101 102 w0 r.2)) (h_w : jJ 101 102 w0 w) : pp (L_X2_denied rec o a1 w) (fun r : Int32 × wS => jJ 101 102 w0 r.2) := by
  unfold L_X2_denied
  repeat' (first
    | with_reducible exact pp_some (by assumption)
    | with_reducible (refine pp_B2 (h_rec _ _ (by assumption)) ?_; intro _ _ _)
    | with_reducible refine j_P_X2_denied_4 ?_ ?_ ?_ (by assumption)
    | with_reducible (refine pp_B2 (j_L_X2_refuse (by decide) (by assumption)) ?_; intro _ _ _)
    | with_reducible exact j_L_X2_refuse (by decide) (by assumption)
    | with_reducible refine j_J_X2_denied_50 ?_ (by assumption)
    | with_reducible (refine pp_B (pp_put (by assumption) (by decide) (by decide)) ?_; intro _ _)
    | with_reducible (refine pp_B (pp_ast (by assumption)) ?_; intro _ _)
    | with_reducible (refine pp_B (pp_putL (by assumption)) ?_; intro _ _)
    | with_reducible refine pp_if ?_ ?_
    | with_reducible refine pp_xIf ?_
    | with_reducible (refine pp_B pp_any ?_; intro _ _)
    | with_reducible assumption
    | with_reducible (intro _))
theorem j_B_X7_is_S14_24 {w0 : wS} {o : wO} {kh24 : Int32 → wS → Option (Int32 × wS)} {ke51 : wS → Option (Int32 × wS)} {ke59 : wS → Option (Int32 × wS)} {x2 : Int32} {w : wS} (h_kh24 : ∀ (c0 : Int32) (c1 : wS), jJ 101 102 w0 c1 → pp (kh24 c0 c1) (fun r : Int32 × wS => jJ 101 102 w0 r.2)) (h_ke51 : ∀ (c0 : wS), jJ 101 102 w0 c0 → pp (ke51 c0) (fun r : Int32 × wS => jJ 101 102 w0 r.2)) (h_ke59 : ∀ (c0 : wS), jJ 101 102 w0 c0 → pp (ke59 c0) (fun r : Int32 × wS => jJ 101 102 w0 r.2)) (h_w : jJ 101 102 w0 w) : pp (B_X7_is_S14_24 o kh24 ke51 ke59 x2 w) (fun r : Int32 × wS => jJ 101 102 w0 r.2) := by
  unfold B_X7_is_S14_24
  repeat' (first
    | with_reducible exact pp_some (by assumption)
    | with_reducible exact h_kh24 _ _ (by assumption)
    | with_reducible exact h_ke51 _ (by assumption)
    | with_reducible exact h_ke59 _ (by assumption)
    | with_reducible (refine pp_B (pp_put (by assumption) (by decide) (by decide)) ?_; intro _ _)
    | with_reducible (refine pp_B (pp_ast (by assumption)) ?_; intro _ _)
    | with_reducible (refine pp_B (pp_putL (by assumption)) ?_; intro _ _)
    | with_reducible refine pp_if ?_ ?_
    | with_reducible refine pp_xIf ?_
    | with_reducible (refine pp_B pp_any ?_; intro _ _)
    | with_reducible assumption
    | with_reducible (intro _))
theorem j_P_X7_is_S14_24 {w0 : wS} {o : wO} {ke51 : wS → Option (Int32 × wS)} {ke59 : wS → Option (Int32 × wS)} {n : Nat} {x2 : Int32} {w : wS} (h_ke51 : ∀ (c0 : wS), jJ 101 102 w0 c0 → pp (ke51 c0) (fun r : Int32 × wS => jJ 101 102 w0 r.2)) (h_ke59 : ∀ (c0 : wS), jJ 101 102 w0 c0 → pp (ke59 c0) (fun r : Int32 × wS => jJ 101 102 w0 r.2)) (h_w : jJ 101 102 w0 w) : pp (P_X7_is_S14_24 o ke51 ke59 n x2 w) (fun r : Int32 × wS => jJ 101 102 w0 r.2) := by
  unfold P_X7_is_S14_24
  refine pp_loop (I := fun σ => jJ 101 102 w0 σ.2) (fun kk hkk σ hσ => ?_) _ _ h_w
  refine j_B_X7_is_S14_24 ?_ ?_ ?_ hσ
  · exact fun c0 c1 hc => hkk (c0, c1) hc
  · exact h_ke51
  · exact h_ke59
theorem j_J_X7_is_S14_20 {w0 : wS} {o : wO} {w : wS} (h_w : jJ 101 102 w0 w) : pp (J_X7_is_S14_20 o w) (fun r : Int32 × wS => jJ 101 102 w0 r.2) := by
  unfold J_X7_is_S14_20
  repeat' (first
    | with_reducible exact pp_some (by assumption)
    | with_reducible (refine pp_B (pp_put (by assumption) (by decide) (by decide)) ?_; intro _ _)
    | with_reducible (refine pp_B (pp_ast (by assumption)) ?_; intro _ _)
    | with_reducible (refine pp_B (pp_putL (by assumption)) ?_; intro _ _)
    | with_reducible refine pp_if ?_ ?_
    | with_reducible refine pp_xIf ?_
    | with_reducible (refine pp_B pp_any ?_; intro _ _)
    | with_reducible assumption
    | with_reducible (intro _))
theorem j_L_X7_is_S14 {w0 : wS} {o : wO} {w : wS} (h_w : jJ 101 102 w0 w) : pp (L_X7_is_S14 o w) (fun r : Int32 × wS => jJ 101 102 w0 r.2) := by
  unfold L_X7_is_S14
  repeat' (first
    | with_reducible exact pp_some (by assumption)
    | with_reducible refine j_P_X7_is_S14_24 ?_ ?_ (by assumption)
    | with_reducible refine j_J_X7_is_S14_20 (by assumption)
    | with_reducible (refine pp_B (pp_put (by assumption) (by decide) (by decide)) ?_; intro _ _)
    | with_reducible (refine pp_B (pp_ast (by assumption)) ?_; intro _ _)
    | with_reducible (refine pp_B (pp_putL (by assumption)) ?_; intro _ _)
    | with_reducible refine pp_if ?_ ?_
    | with_reducible refine pp_xIf ?_
    | with_reducible (refine pp_B pp_any ?_; intro _ _)
    | with_reducible assumption
    | with_reducible (intro _))
theorem j_J_X2_allOf_60 {w0 : wS} {rec : Int32 → wS → Option (Int32 × wS)} {o : wO} {kh8 : Int32 → Int32 → Int32 → wS → Option (Int32 × wS)} {ke67 : Int32 → wS → Option (Int32 × wS)} {x1 : Int32} {x3 : Int32} {y0 : Int32} {w : wS} (h_rec : ∀ (c0 : Int32) (c1 : wS), jJ 101 102 w0 c1 → pp (rec c0 c1) (fun r : Int32 × wS => jJ 101 102 w0 r.2)) (h_kh8 : ∀ (c0 : Int32) (c1 : Int32) (c2 : Int32) (c3 : wS), jJ 101 102 w0 c3 → pp (kh8 c0 c1 c2 c3) (fun r : Int32 × wS => jJ 101 102 w0 r.2)) (h_ke67 : ∀ (c0 : Int32) (c1 : wS), jJ 101 102 w0 c1 → pp (ke67 c0 c1) (fun r : Int32 × wS => jJ 101 102 w0 r.2)) (h_w : jJ 101 102 w0 w) : pp (J_X2_allOf_60 rec o kh8 ke67 x1 x3 y0 w) (fun r : Int32 × wS => jJ 101 102 w0 r.2) := by
  unfold J_X2_allOf_60
  repeat' (first
    | with_reducible exact pp_some (by assumption)
    | with_reducible (refine pp_B2 (h_rec _ _ (by assumption)) ?_; intro _ _ _)
    | with_reducible exact h_kh8 _ _ _ _ (by assumption)
    | with_reducible exact h_ke67 _ _ (by assumption)
    | with_reducible (refine pp_B (pp_put (by assumption) (by decide) (by decide)) ?_; intro _ _)
    | with_reducible (refine pp_B (pp_ast (by assumption)) ?_; intro _ _)
    | with_reducible (refine pp_B (pp_putL (by assumption)) ?_; intro _ _)
    | with_reducible refine pp_if ?_ ?_
    | with_reducible refine pp_xIf ?_
    | with_reducible (refine pp_B pp_any ?_; intro _ _)
    | with_reducible assumption
    | with_reducible (intro _))
theorem j_J_X2_allOf_59 {w0 : wS} {rec : Int32 → wS → Option (Int32 × wS)} {o : wO} {kh8 : Int32 → Int32 → Int32 → wS → Option (Int32 × wS)} {ke67 : Int32 → wS → Option (Int32 × wS)} {x1 : Int32} {x3 : Int32} {w : wS} (h_rec : ∀ (c0 : Int32) (c1 : wS), jJ 101 102 w0 c1 → pp (rec c0 c1) (fun r : Int32 × wS => jJ 101 102 w0 r.2)) (h_kh8 : ∀ (c0 : Int32) (c1 : Int32) (c2 : Int32) (c3 : wS), jJ 101 102 w0 c3 → pp (kh8 c0 c1 c2 c3) (fun r : Int32 × wS => jJ 101 102 w0 r.2)) (h_ke67 : ∀ (c0 : Int32) (c1 : wS), jJ 101 102 w0 c1 → pp (ke67 c0 c1) (fun r : Int32 × wS => jJ 101 102 w0 r.2)) (h_w : jJ 101 102 w0 w) : pp (J_X2_allOf_59 rec o kh8 ke67 x1 x3 w) (fun r : Int32 × wS => jJ 101 102 w0 r.2) := by
  unfold J_X2_allOf_59
  repeat' (first
    | with_reducible exact pp_some (by assumption)
    | with_reducible (refine pp_B2 (h_rec _ _ (by assumption)) ?_; intro _ _ _)
    | with_reducible exact h_kh8 _ _ _ _ (by assumption)
    | with_reducible exact h_ke67 _ _ (by assumption)
    | with_reducible refine j_J_X2_allOf_60 ?_ ?_ ?_ (by assumption)
    | with_reducible (refine pp_B (pp_put (by assumption) (by decide) (by decide)) ?_; intro _ _)
    | with_reducible (refine pp_B (pp_ast (by assumption)) ?_; intro _ _)
    | with_reducible (refine pp_B (pp_putL (by assumption)) ?_; intro _ _)
    | with_reducible refine pp_if ?_ ?_
    | with_reducible refine pp_xIf ?_
    | with_reducible (refine pp_B pp_any ?_; intro _ _)
    | with_reducible assumption
    | with_reducible (intro _))
theorem j_B_X2_allOf_8 {w0 : wS} {rec : Int32 → wS → Option (Int32 × wS)} {o : wO} {kh8 : Int32 → Int32 → Int32 → wS → Option (Int32 × wS)} {ke67 : Int32 → wS → Option (Int32 × wS)} {x1 : Int32} {x2 : Int32} {x3 : Int32} {w : wS} (h_rec : ∀ (c0 : Int32) (c1 : wS), jJ 101 102 w0 c1 → pp (rec c0 c1) (fun r : Int32 × wS => jJ 101 102 w0 r.2)) (h_kh8 : ∀ (c0 : Int32) (c1 : Int32) (c2 : Int32) (c3 : wS), jJ 101 102 w0 c3 → pp (kh8 c0 c1 c2 c3) (fun r : Int32 × wS => jJ 101 102 w0 r.2)) (h_ke67 : ∀ (c0 : Int32) (c1 : wS), jJ 101 102 w0 c1 → pp (ke67 c0 c1) (fun r : Int32 × wS => jJ 101 102 w0 r.2)) (h_w : jJ 101 102 w0 w) : pp (B_X2_allOf_8 rec o kh8 ke67 x1 x2 x3 w) (fun r : Int32 × wS => jJ 101 102 w0 r.2) := by
  unfold B_X2_allOf_8
  repeat' (first
    | with_reducible exact pp_some (by assumption)
    | with_reducible (refine pp_B2 (h_rec _ _ (by assumption)) ?_; intro _ _ _)
    | with_reducible exact h_kh8 _ _ _ _ (by assumption)
    | with_reducible exact h_ke67 _ _ (by assumption)
    | with_reducible (refine pp_B2 (j_L_X7_is_S14 (by assumption)) ?_; intro _ _ _)
    | with_reducible exact j_L_X7_is_S14 (by assumption)
    | with_reducible (refine pp_B (j_L_X7_advance (by assumption)) ?_; intro _ _)
    | with_reducible exact j_L_X7_advance (by assumption)
    | with_reducible (refine pp_B2 (j_L_X2_denied (by assumption)) ?_; intro _ _ _)
    | with_reducible refine pp_B2 (j_L_X2_denied ?_ (by assumption)) ?_
    | with_reducible exact j_L_X2_denied (by assumption)
    | with_reducible refine j_J_X2_allOf_59 ?_ ?_ ?_ (by assumption)
    | with_reducible (refine pp_B2 (j_L_X2_emit (by assumption)) ?_; intro _ _ _)
    | with_reducible exact j_L_X2_emit (by assumption)
    | with_reducible refine j_J_X2_allOf_60 ?_ ?_ ?_ (by assumption)
    | with_reducible (refine pp_B (pp_put (by assumption) (by decide) (by decide)) ?_; intro _ _)
    | with_reducible (refine pp_B (pp_ast (by assumption)) ?_; intro _ _)
    | with_reducible (refine pp_B (pp_putL (by assumption)) ?_; intro _ _)
    | with_reducible refine pp_if ?_ ?_
    | with_reducible refine pp_xIf ?_
    | with_reducible (refine pp_B pp_any ?_; intro _ _)
    | with_reducible assumption
    | with_reducible (intro _))
theorem j_P_X2_allOf_8 {w0 : wS} {rec : Int32 → wS → Option (Int32 × wS)} {o : wO} {ke67 : Int32 → wS → Option (Int32 × wS)} {n : Nat} {x1 : Int32} {x2 : Int32} {x3 : Int32} {w : wS} (h_rec : ∀ (c0 : Int32) (c1 : wS), jJ 101 102 w0 c1 → pp (rec c0 c1) (fun r : Int32 × wS => jJ 101 102 w0 r.2)) (h_ke67 : ∀ (c0 : Int32) (c1 : wS), jJ 101 102 w0 c1 → pp (ke67 c0 c1) (fun r : Int32 × wS => jJ 101 102 w0 r.2)) (h_w : jJ 101 102 w0 w) : pp (P_X2_allOf_8 rec o ke67 n x1 x2 x3 w) (fun r : Int32 × wS => jJ 101 102 w0 r.2) := by
  unfold P_X2_allOf_8
  refine pp_loop (I := fun σ => jJ 101 102 w0 σ.2.2.2) (fun kk hkk σ hσ => ?_) _ _ h_w
  refine j_B_X2_allOf_8 ?_ ?_ ?_ hσ
  · exact h_rec
  · exact fun c0 c1 c2 c3 hc => hkk (c0, c1, c2, c3) hc
  · exact h_ke67
theorem j_J_X2_allOf_67 {w0 : wS} {rec : Int32 → wS → Option (Int32 × wS)} {o : wO} {x2 : Int32} {w : wS} (h_rec : ∀ (c0 : Int32) (c1 : wS), jJ 101 102 w0 c1 → pp (rec c0 c1) (fun r : Int32 × wS => jJ 101 102 w0 r.2)) (h_w : jJ 101 102 w0 w) : pp (J_X2_allOf_67 rec o x2 w) (fun r : Int32 × wS => jJ 101 102 w0 r.2) := by
  unfold J_X2_allOf_67
  repeat' (first
    | with_reducible exact pp_some (by assumption)
    | with_reducible (refine pp_B2 (h_rec _ _ (by assumption)) ?_; intro _ _ _)
    | with_reducible (refine pp_B (pp_put (by assumption) (by decide) (by decide)) ?_; intro _ _)
    | with_reducible (refine pp_B (pp_ast (by assumption)) ?_; intro _ _)
    | with_reducible (refine pp_B (pp_putL (by assumption)) ?_; intro _ _)
    | with_reducible refine pp_if ?_ ?_
    | with_reducible refine pp_xIf ?_
    | with_reducible (refine pp_B pp_any ?_; intro _ _)
    | with_reducible assumption
    | with_reducible (intro _))
theorem j_L_X2_allOf {w0 : wS} {rec : Int32 → wS → Option (Int32 × wS)} {o : wO} {a1 : Int32} {w : wS} (h_rec : ∀ (c0 : Int32) (c1 : wS), jJ 101 102 w0 c1 → pp (rec c0 c1) (fun r : Int32 × wS => jJ 101 102 w0 r.2)) (h_w : jJ 101 102 w0 w) : pp (L_X2_allOf rec o a1 w) (fun r : Int32 × wS => jJ 101 102 w0 r.2) := by
  unfold L_X2_allOf
  repeat' (first
    | with_reducible exact pp_some (by assumption)
    | with_reducible (refine pp_B2 (h_rec _ _ (by assumption)) ?_; intro _ _ _)
    | with_reducible (refine pp_B2 (j_L_X2_denied (by assumption)) ?_; intro _ _ _)
    | with_reducible refine pp_B2 (j_L_X2_denied ?_ (by assumption)) ?_
    | with_reducible exact j_L_X2_denied (by assumption)
    | with_reducible refine j_P_X2_allOf_8 ?_ ?_ (by assumption)
    | with_reducible refine j_J_X2_allOf_67 ?_ (by assumption)
    | with_reducible (refine pp_B (pp_put (by assumption) (by decide) (by decide)) ?_; intro _ _)
    | with_reducible (refine pp_B (pp_ast (by assumption)) ?_; intro _ _)
    | with_reducible (refine pp_B (pp_putL (by assumption)) ?_; intro _ _)
    | with_reducible refine pp_if ?_ ?_
    | with_reducible refine pp_xIf ?_
    | with_reducible (refine pp_B pp_any ?_; intro _ _)
    | with_reducible assumption
    | with_reducible (intro _))
theorem j_B_X7_is_S15_24 {w0 : wS} {o : wO} {kh24 : Int32 → wS → Option (Int32 × wS)} {ke51 : wS → Option (Int32 × wS)} {ke59 : wS → Option (Int32 × wS)} {x2 : Int32} {w : wS} (h_kh24 : ∀ (c0 : Int32) (c1 : wS), jJ 101 102 w0 c1 → pp (kh24 c0 c1) (fun r : Int32 × wS => jJ 101 102 w0 r.2)) (h_ke51 : ∀ (c0 : wS), jJ 101 102 w0 c0 → pp (ke51 c0) (fun r : Int32 × wS => jJ 101 102 w0 r.2)) (h_ke59 : ∀ (c0 : wS), jJ 101 102 w0 c0 → pp (ke59 c0) (fun r : Int32 × wS => jJ 101 102 w0 r.2)) (h_w : jJ 101 102 w0 w) : pp (B_X7_is_S15_24 o kh24 ke51 ke59 x2 w) (fun r : Int32 × wS => jJ 101 102 w0 r.2) := by
  unfold B_X7_is_S15_24
  repeat' (first
    | with_reducible exact pp_some (by assumption)
    | with_reducible exact h_kh24 _ _ (by assumption)
    | with_reducible exact h_ke51 _ (by assumption)
    | with_reducible exact h_ke59 _ (by assumption)
    | with_reducible (refine pp_B (pp_put (by assumption) (by decide) (by decide)) ?_; intro _ _)
    | with_reducible (refine pp_B (pp_ast (by assumption)) ?_; intro _ _)
    | with_reducible (refine pp_B (pp_putL (by assumption)) ?_; intro _ _)
    | with_reducible refine pp_if ?_ ?_
    | with_reducible refine pp_xIf ?_
    | with_reducible (refine pp_B pp_any ?_; intro _ _)
    | with_reducible assumption
    | with_reducible (intro _))
theorem j_P_X7_is_S15_24 {w0 : wS} {o : wO} {ke51 : wS → Option (Int32 × wS)} {ke59 : wS → Option (Int32 × wS)} {n : Nat} {x2 : Int32} {w : wS} (h_ke51 : ∀ (c0 : wS), jJ 101 102 w0 c0 → pp (ke51 c0) (fun r : Int32 × wS => jJ 101 102 w0 r.2)) (h_ke59 : ∀ (c0 : wS), jJ 101 102 w0 c0 → pp (ke59 c0) (fun r : Int32 × wS => jJ 101 102 w0 r.2)) (h_w : jJ 101 102 w0 w) : pp (P_X7_is_S15_24 o ke51 ke59 n x2 w) (fun r : Int32 × wS => jJ 101 102 w0 r.2) := by
  unfold P_X7_is_S15_24
  refine pp_loop (I := fun σ => jJ 101 102 w0 σ.2) (fun kk hkk σ hσ => ?_) _ _ h_w
  refine j_B_X7_is_S15_24 ?_ ?_ ?_ hσ
  · exact fun c0 c1 hc => hkk (c0, c1) hc
  · exact h_ke51
  · exact h_ke59
theorem j_J_X7_is_S15_20 {w0 : wS} {o : wO} {w : wS} (h_w : jJ 101 102 w0 w) : pp (J_X7_is_S15_20 o w) (fun r : Int32 × wS => jJ 101 102 w0 r.2) := by
  unfold J_X7_is_S15_20
  repeat' (first
    | with_reducible exact pp_some (by assumption)
    | with_reducible (refine pp_B (pp_put (by assumption) (by decide) (by decide)) ?_; intro _ _)
    | with_reducible (refine pp_B (pp_ast (by assumption)) ?_; intro _ _)
    | with_reducible (refine pp_B (pp_putL (by assumption)) ?_; intro _ _)
    | with_reducible refine pp_if ?_ ?_
    | with_reducible refine pp_xIf ?_
    | with_reducible (refine pp_B pp_any ?_; intro _ _)
    | with_reducible assumption
    | with_reducible (intro _))
theorem j_L_X7_is_S15 {w0 : wS} {o : wO} {w : wS} (h_w : jJ 101 102 w0 w) : pp (L_X7_is_S15 o w) (fun r : Int32 × wS => jJ 101 102 w0 r.2) := by
  unfold L_X7_is_S15
  repeat' (first
    | with_reducible exact pp_some (by assumption)
    | with_reducible refine j_P_X7_is_S15_24 ?_ ?_ (by assumption)
    | with_reducible refine j_J_X7_is_S15_20 (by assumption)
    | with_reducible (refine pp_B (pp_put (by assumption) (by decide) (by decide)) ?_; intro _ _)
    | with_reducible (refine pp_B (pp_ast (by assumption)) ?_; intro _ _)
    | with_reducible (refine pp_B (pp_putL (by assumption)) ?_; intro _ _)
    | with_reducible refine pp_if ?_ ?_
    | with_reducible refine pp_xIf ?_
    | with_reducible (refine pp_B pp_any ?_; intro _ _)
    | with_reducible assumption
    | with_reducible (intro _))
theorem j_J_X2_expr_120 {w0 : wS} {rec : Int32 → wS → Option (Int32 × wS)} {o : wO} {kh67 : Int32 → Int32 → Int32 → wS → Option (Int32 × wS)} {ke127 : Int32 → wS → Option (Int32 × wS)} {x1 : Int32} {x4 : Int32} {y0 : Int32} {w : wS} (h_rec : ∀ (c0 : Int32) (c1 : wS), jJ 101 102 w0 c1 → pp (rec c0 c1) (fun r : Int32 × wS => jJ 101 102 w0 r.2)) (h_kh67 : ∀ (c0 : Int32) (c1 : Int32) (c2 : Int32) (c3 : wS), jJ 101 102 w0 c3 → pp (kh67 c0 c1 c2 c3) (fun r : Int32 × wS => jJ 101 102 w0 r.2)) (h_ke127 : ∀ (c0 : Int32) (c1 : wS), jJ 101 102 w0 c1 → pp (ke127 c0 c1) (fun r : Int32 × wS => jJ 101 102 w0 r.2)) (h_w : jJ 101 102 w0 w) : pp (J_X2_expr_120 rec o kh67 ke127 x1 x4 y0 w) (fun r : Int32 × wS => jJ 101 102 w0 r.2) := by
  unfold J_X2_expr_120
  repeat' (first
    | with_reducible exact pp_some (by assumption)
    | with_reducible (refine pp_B2 (h_rec _ _ (by assumption)) ?_; intro _ _ _)
    | with_reducible exact h_kh67 _ _ _ _ (by assumption)
    | with_reducible exact h_ke127 _ _ (by assumption)
    | with_reducible (refine pp_B (pp_put (by assumption) (by decide) (by decide)) ?_; intro _ _)
    | with_reducible (refine pp_B (pp_ast (by assumption)) ?_; intro _ _)
    | with_reducible (refine pp_B (pp_putL (by assumption)) ?_; intro _ _)
    | with_reducible refine pp_if ?_ ?_
    | with_reducible refine pp_xIf ?_
    | with_reducible (refine pp_B pp_any ?_; intro _ _)
    | with_reducible assumption
    | with_reducible (intro _))
theorem j_J_X2_expr_119 {w0 : wS} {rec : Int32 → wS → Option (Int32 × wS)} {o : wO} {kh67 : Int32 → Int32 → Int32 → wS → Option (Int32 × wS)} {ke127 : Int32 → wS → Option (Int32 × wS)} {x1 : Int32} {x4 : Int32} {w : wS} (h_rec : ∀ (c0 : Int32) (c1 : wS), jJ 101 102 w0 c1 → pp (rec c0 c1) (fun r : Int32 × wS => jJ 101 102 w0 r.2)) (h_kh67 : ∀ (c0 : Int32) (c1 : Int32) (c2 : Int32) (c3 : wS), jJ 101 102 w0 c3 → pp (kh67 c0 c1 c2 c3) (fun r : Int32 × wS => jJ 101 102 w0 r.2)) (h_ke127 : ∀ (c0 : Int32) (c1 : wS), jJ 101 102 w0 c1 → pp (ke127 c0 c1) (fun r : Int32 × wS => jJ 101 102 w0 r.2)) (h_w : jJ 101 102 w0 w) : pp (J_X2_expr_119 rec o kh67 ke127 x1 x4 w) (fun r : Int32 × wS => jJ 101 102 w0 r.2) := by
  unfold J_X2_expr_119
  repeat' (first
    | with_reducible exact pp_some (by assumption)
    | with_reducible (refine pp_B2 (h_rec _ _ (by assumption)) ?_; intro _ _ _)
    | with_reducible exact h_kh67 _ _ _ _ (by assumption)
    | with_reducible exact h_ke127 _ _ (by assumption)
    | with_reducible refine j_J_X2_expr_120 ?_ ?_ ?_ (by assumption)
    | with_reducible (refine pp_B (pp_put (by assumption) (by decide) (by decide)) ?_; intro _ _)
    | with_reducible (refine pp_B (pp_ast (by assumption)) ?_; intro _ _)
    | with_reducible (refine pp_B (pp_putL (by assumption)) ?_; intro _ _)
    | with_reducible refine pp_if ?_ ?_
    | with_reducible refine pp_xIf ?_
    | with_reducible (refine pp_B pp_any ?_; intro _ _)
    | with_reducible assumption
    | with_reducible (intro _))
theorem j_B_X2_expr_67 {w0 : wS} {rec : Int32 → wS → Option (Int32 × wS)} {o : wO} {kh67 : Int32 → Int32 → Int32 → wS → Option (Int32 × wS)} {ke127 : Int32 → wS → Option (Int32 × wS)} {x1 : Int32} {x3 : Int32} {x4 : Int32} {w : wS} (h_rec : ∀ (c0 : Int32) (c1 : wS), jJ 101 102 w0 c1 → pp (rec c0 c1) (fun r : Int32 × wS => jJ 101 102 w0 r.2)) (h_kh67 : ∀ (c0 : Int32) (c1 : Int32) (c2 : Int32) (c3 : wS), jJ 101 102 w0 c3 → pp (kh67 c0 c1 c2 c3) (fun r : Int32 × wS => jJ 101 102 w0 r.2)) (h_ke127 : ∀ (c0 : Int32) (c1 : wS), jJ 101 102 w0 c1 → pp (ke127 c0 c1) (fun r : Int32 × wS => jJ 101 102 w0 r.2)) (h_w : jJ 101 102 w0 w) : pp (B_X2_expr_67 rec o kh67 ke127 x1 x3 x4 w) (fun r : Int32 × wS => jJ 101 102 w0 r.2) := by
  unfold B_X2_expr_67
  repeat' (first
    | with_reducible exact pp_some (by assumption)
    | with_reducible (refine pp_B2 (h_rec _ _ (by assumption)) ?_; intro _ _ _)
    | with_reducible exact h_kh67 _ _ _ _ (by assumption)
    | with_reducible exact h_ke127 _ _ (by assumption)
    | with_reducible (refine pp_B2 (j_L_X7_is_S15 (by assumption)) ?_; intro _ _ _)
    | with_reducible exact j_L_X7_is_S15 (by assumption)
    | with_reducible (refine pp_B (j_L_X7_advance (by assumption)) ?_; intro _ _)
    | with_reducible exact j_L_X7_advance (by assumption)
    | with_reducible (refine pp_B2 (j_L_X2_allOf (by assumption)) ?_; intro _ _ _)
    | with_reducible refine pp_B2 (j_L_X2_allOf ?_ (by assumption)) ?_
    | with_reducible exact j_L_X2_allOf (by assumption)
    | with_reducible refine j_J_X2_expr_119 ?_ ?_ ?_ (by assumption)
    | with_reducible (refine pp_B2 (j_L_X2_emit (by assumption)) ?_; intro _ _ _)
    | with_reducible exact j_L_X2_emit (by assumption)
    | with_reducible refine j_J_X2_expr_120 ?_ ?_ ?_ (by assumption)
    | with_reducible (refine pp_B (pp_put (by assumption) (by decide) (by decide)) ?_; intro _ _)
    | with_reducible (refine pp_B (pp_ast (by assumption)) ?_; intro _ _)
    | with_reducible (refine pp_B (pp_putL (by assumption)) ?_; intro _ _)
    | with_reducible refine pp_if ?_ ?_
    | with_reducible refine pp_xIf ?_
    | with_reducible (refine pp_B pp_any ?_; intro _ _)
    | with_reducible assumption
    | with_reducible (intro _))
theorem j_P_X2_expr_67 {w0 : wS} {rec : Int32 → wS → Option (Int32 × wS)} {o : wO} {ke127 : Int32 → wS → Option (Int32 × wS)} {n : Nat} {x1 : Int32} {x3 : Int32} {x4 : Int32} {w : wS} (h_rec : ∀ (c0 : Int32) (c1 : wS), jJ 101 102 w0 c1 → pp (rec c0 c1) (fun r : Int32 × wS => jJ 101 102 w0 r.2)) (h_ke127 : ∀ (c0 : Int32) (c1 : wS), jJ 101 102 w0 c1 → pp (ke127 c0 c1) (fun r : Int32 × wS => jJ 101 102 w0 r.2)) (h_w : jJ 101 102 w0 w) : pp (P_X2_expr_67 rec o ke127 n x1 x3 x4 w) (fun r : Int32 × wS => jJ 101 102 w0 r.2) := by
  unfold P_X2_expr_67
  refine pp_loop (I := fun σ => jJ 101 102 w0 σ.2.2.2) (fun kk hkk σ hσ => ?_) _ _ h_w
  refine j_B_X2_expr_67 ?_ ?_ ?_ hσ
  · exact h_rec
  · exact fun c0 c1 c2 c3 hc => hkk (c0, c1, c2, c3) hc
  · exact h_ke127
theorem j_J_X2_expr_127 {w0 : wS} {rec : Int32 → wS → Option (Int32 × wS)} {o : wO} {x3 : Int32} {w : wS} (h_rec : ∀ (c0 : Int32) (c1 : wS), jJ 101 102 w0 c1 → pp (rec c0 c1) (fun r : Int32 × wS => jJ 101 102 w0 r.2)) (h_w : jJ 101 102 w0 w) : pp (J_X2_expr_127 rec o x3 w) (fun r : Int32 × wS => jJ 101 102 w0 r.2) := by
  unfold J_X2_expr_127
  repeat' (first
    | with_reducible exact pp_some (by assumption)
    | with_reducible (refine pp_B2 (h_rec _ _ (by assumption)) ?_; intro _ _ _)
    | with_reducible (refine pp_B (pp_put (by assumption) (by decide) (by decide)) ?_; intro _ _)
    | with_reducible (refine pp_B (pp_ast (by assumption)) ?_; intro _ _)
    | with_reducible (refine pp_B (pp_putL (by assumption)) ?_; intro _ _)
    | with_reducible refine pp_if ?_ ?_
    | with_reducible refine pp_xIf ?_
    | with_reducible (refine pp_B pp_any ?_; intro _ _)
    | with_reducible assumption
    | with_reducible (intro _))
theorem j_J_X2_expr_58 {w0 : wS} {rec : Int32 → wS → Option (Int32 × wS)} {o : wO} {x1 : Int32} {w : wS} (h_rec : ∀ (c0 : Int32) (c1 : wS), jJ 101 102 w0 c1 → pp (rec c0 c1) (fun r : Int32 × wS => jJ 101 102 w0 r.2)) (h_w : jJ 101 102 w0 w) : pp (J_X2_expr_58 rec o x1 w) (fun r : Int32 × wS => jJ 101 102 w0 r.2) := by
  unfold J_X2_expr_58
  repeat' (first
    | with_reducible exact pp_some (by assumption)
    | with_reducible (refine pp_B2 (h_rec _ _ (by assumption)) ?_; intro _ _ _)
    | with_reducible (refine pp_B2 (j_L_X2_allOf (by assumption)) ?_; intro _ _ _)
    | with_reducible refine pp_B2 (j_L_X2_allOf ?_ (by assumption)) ?_
    | with_reducible exact j_L_X2_allOf (by assumption)
    | with_reducible refine j_P_X2_expr_67 ?_ ?_ (by assumption)
    | with_reducible refine j_J_X2_expr_127 ?_ (by assumption)
    | with_reducible (refine pp_B (pp_put (by assumption) (by decide) (by decide)) ?_; intro _ _)
    | with_reducible (refine pp_B (pp_ast (by assumption)) ?_; intro _ _)
    | with_reducible (refine pp_B (pp_putL (by assumption)) ?_; intro _ _)
    | with_reducible refine pp_if ?_ ?_
    | with_reducible refine pp_xIf ?_
    | with_reducible (refine pp_B pp_any ?_; intro _ _)
    | with_reducible assumption
    | with_reducible (intro _))
theorem j_J_X2_expr_41 {w0 : wS} {rec : Int32 → wS → Option (Int32 × wS)} {o : wO} {x1 : Int32} {y0 : Int32} {w : wS} (h_rec : ∀ (c0 : Int32) (c1 : wS), jJ 101 102 w0 c1 → pp (rec c0 c1) (fun r : Int32 × wS => jJ 101 102 w0 r.2)) (h_w : jJ 101 102 w0 w) : pp (J_X2_expr_41 rec o x1 y0 w) (fun r : Int32 × wS => jJ 101 102 w0 r.2) := by
  unfold J_X2_expr_41
  repeat' (first
    | with_reducible exact pp_some (by assumption)
    | with_reducible (refine pp_B2 (h_rec _ _ (by assumption)) ?_; intro _ _ _)
    | with_reducible refine j_J_X2_expr_58 ?_ (by assumption)
    | with_reducible (refine pp_B2 (j_L_X2_refuse (by decide) (by assumption)) ?_; intro _ _ _)
    | with_reducible exact j_L_X2_refuse (by decide) (by assumption)
    | with_reducible (refine pp_B (pp_put (by assumption) (by decide) (by decide)) ?_; intro _ _)
    | with_reducible (refine pp_B (pp_ast (by assumption)) ?_; intro _ _)
    | with_reducible (refine pp_B (pp_putL (by assumption)) ?_; intro _ _)
    | with_reducible refine pp_if ?_ ?_
    | with_reducible refine pp_xIf ?_
    | with_reducible (refine pp_B pp_any ?_; intro _ _)
    | with_reducible assumption
    | with_reducible (intro _))
theorem j_J_X2_expr_36 {w0 : wS} {rec : Int32 → wS → Option (Int32 × wS)} {o : wO} {x1 : Int32} {w : wS} (h_rec : ∀ (c0 : Int32) (c1 : wS), jJ 101 102 w0 c1 → pp (rec c0 c1) (fun r : Int32 × wS => jJ 101 102 w0 r.2)) (h_w : jJ 101 102 w0 w) : pp (J_X2_expr_36 rec o x1 w) (fun r : Int32 × wS => jJ 101 102 w0 r.2) := by
  unfold J_X2_expr_36
  repeat' (first
    | with_reducible exact pp_some (by assumption)
    | with_reducible (refine pp_B2 (h_rec _ _ (by assumption)) ?_; intro _ _ _)
    | with_reducible refine j_J_X2_expr_41 ?_ (by assumption)
    | with_reducible (refine pp_B (pp_put (by assumption) (by decide) (by decide)) ?_; intro _ _)
    | with_reducible (refine pp_B (pp_ast (by assumption)) ?_; intro _ _)
    | with_reducible (refine pp_B (pp_putL (by assumption)) ?_; intro _ _)
    | with_reducible refine pp_if ?_ ?_
    | with_reducible refine pp_xIf ?_
    | with_reducible (refine pp_B pp_any ?_; intro _ _)
    | with_reducible assumption
    | with_reducible (intro _))
theorem j_L_X2_expr {w0 : wS} {rec : Int32 → wS → Option (Int32 × wS)} {o : wO} {a1 : Int32} {w : wS} (h_rec : ∀ (c0 : Int32) (c1 : wS), jJ 101 102 w0 c1 → pp (rec c0 c1) (fun r : Int32 × wS => jJ 101 102 w0 r.2)) (h_w : jJ 101 102 w0 w) : pp (L_X2_expr rec o a1 w) (fun r : Int32 × wS => jJ 101 102 w0 r.2) := by
  unfold L_X2_expr
  repeat' (first
    | with_reducible exact pp_some (by assumption)
    | with_reducible (refine pp_B2 (h_rec _ _ (by assumption)) ?_; intro _ _ _)
    | with_reducible refine j_J_X2_expr_36 ?_ (by assumption)
    | with_reducible refine j_J_X2_expr_41 ?_ (by assumption)
    | with_reducible (refine pp_B (pp_put (by assumption) (by decide) (by decide)) ?_; intro _ _)
    | with_reducible (refine pp_B (pp_ast (by assumption)) ?_; intro _ _)
    | with_reducible (refine pp_B (pp_putL (by assumption)) ?_; intro _ _)
    | with_reducible refine pp_if ?_ ?_
    | with_reducible refine pp_xIf ?_
    | with_reducible (refine pp_B pp_any ?_; intro _ _)
    | with_reducible assumption
    | with_reducible (intro _))
theorem j_L_X2_exprN {w0 : wS} {o : wO} : ∀ {n : Nat} {a : Int32} {w : wS}, jJ 101 102 w0 w → pp (L_X2_exprN n o a w) (fun r : Int32 × wS => jJ 101 102 w0 r.2)
  | 0, _, _, _ => ⟨fun _ e => (by cases e), trivial⟩
  | n + 1, a, w, h => j_L_X2_expr (rec := L_X2_exprN n o) (fun _ _ hc => j_L_X2_exprN hc) h
theorem j_L_X2_ruleTold {w0 : wS} {o : wO} {a : Int32} {w : wS} (h_w : jJ 101 102 w0 w) : pp (L_X2_ruleTold o a w) (fun r : Int32 × wO × wS => jJ 101 102 w0 r.2.2) := by
  unfold L_X2_ruleTold
  repeat' (first
    | with_reducible exact pp_some (by assumption)
    | with_reducible exact j_xRule (by assumption)
    | with_reducible (refine pp_B (j_L_X7_advance (by assumption)) ?_; intro _ _)
    | with_reducible exact j_L_X7_advance (by assumption)
    | with_reducible (refine pp_B2 (j_L_X2_exprN (by assumption)) ?_; intro _ _ _)
    | with_reducible exact j_L_X2_exprN (by assumption)
    | with_reducible (refine pp_B2 (j_L_X2_refuse (by decide) (by assumption)) ?_; intro _ _ _)
    | with_reducible exact j_L_X2_refuse (by decide) (by assumption)
    | with_reducible (refine pp_B (pp_put (by assumption) (by decide) (by decide)) ?_; intro _ _)
    | with_reducible (refine pp_B (pp_ast (by assumption)) ?_; intro _ _)
    | with_reducible (refine pp_B (pp_putL (by assumption)) ?_; intro _ _)
    | with_reducible refine pp_if ?_ ?_
    | with_reducible refine pp_xIf ?_
    | with_reducible (refine pp_B pp_any ?_; intro _ _)
    | with_reducible assumption
    | with_reducible (intro _))
theorem j_J_X2_number_71 {w0 : wS} {o : wO} {x3 : Int32} {w : wS} (h_w : jJ 101 102 w0 w) : pp (J_X2_number_71 o x3 w) (fun r : Int32 × wS => jJ 101 102 w0 r.2) := by
  unfold J_X2_number_71
  repeat' (first
    | with_reducible exact pp_some (by assumption)
    | with_reducible (refine pp_B (pp_put (by assumption) (by decide) (by decide)) ?_; intro _ _)
    | with_reducible (refine pp_B (pp_ast (by assumption)) ?_; intro _ _)
    | with_reducible (refine pp_B (pp_putL (by assumption)) ?_; intro _ _)
    | with_reducible refine pp_if ?_ ?_
    | with_reducible refine pp_xIf ?_
    | with_reducible (refine pp_B pp_any ?_; intro _ _)
    | with_reducible assumption
    | with_reducible (intro _))
theorem j_J_X2_number_55 {w0 : wS} {o : wO} {x3 : Int32} {w : wS} (h_w : jJ 101 102 w0 w) : pp (J_X2_number_55 o x3 w) (fun r : Int32 × wS => jJ 101 102 w0 r.2) := by
  unfold J_X2_number_55
  repeat' (first
    | with_reducible exact pp_some (by assumption)
    | with_reducible (refine pp_B2 (j_L_X2_refuse (by decide) (by assumption)) ?_; intro _ _ _)
    | with_reducible exact j_L_X2_refuse (by decide) (by assumption)
    | with_reducible refine j_J_X2_number_71 (by assumption)
    | with_reducible (refine pp_B (pp_put (by assumption) (by decide) (by decide)) ?_; intro _ _)
    | with_reducible (refine pp_B (pp_ast (by assumption)) ?_; intro _ _)
    | with_reducible (refine pp_B (pp_putL (by assumption)) ?_; intro _ _)
    | with_reducible refine pp_if ?_ ?_
    | with_reducible refine pp_xIf ?_
    | with_reducible (refine pp_B pp_any ?_; intro _ _)
    | with_reducible assumption
    | with_reducible (intro _))
theorem j_J_X2_number_23 {w0 : wS} {o : wO} {x1 : Int32} {x2 : Int32} {y0 : Int32} {w : wS} (h_w : jJ 101 102 w0 w) : pp (J_X2_number_23 o x1 x2 y0 w) (fun r : Int32 × wS => jJ 101 102 w0 r.2) := by
  unfold J_X2_number_23
  repeat' (first
    | with_reducible exact pp_some (by assumption)
    | with_reducible refine j_J_X2_number_55 (by assumption)
    | with_reducible (refine pp_B (j_L_X7_advance (by assumption)) ?_; intro _ _)
    | with_reducible exact j_L_X7_advance (by assumption)
    | with_reducible refine j_J_X2_number_71 (by assumption)
    | with_reducible (refine pp_B2 (j_L_X2_refuse (by decide) (by assumption)) ?_; intro _ _ _)
    | with_reducible exact j_L_X2_refuse (by decide) (by assumption)
    | with_reducible (refine pp_B (pp_put (by assumption) (by decide) (by decide)) ?_; intro _ _)
    | with_reducible (refine pp_B (pp_ast (by assumption)) ?_; intro _ _)
    | with_reducible (refine pp_B (pp_putL (by assumption)) ?_; intro _ _)
    | with_reducible refine pp_if ?_ ?_
    | with_reducible refine pp_xIf ?_
    | with_reducible (refine pp_B pp_any ?_; intro _ _)
    | with_reducible assumption
    | with_reducible (intro _))
theorem j_L_X2_number {w0 : wS} {o : wO} {a1 : Int32} {a2 : Int32} {w : wS} (h_w : jJ 101 102 w0 w) : pp (L_X2_number o a1 a2 w) (fun r : Int32 × wS => jJ 101 102 w0 r.2) := by
  unfold L_X2_number
  repeat' (first
    | with_reducible exact pp_some (by assumption)
    | with_reducible (refine pp_B2 (j_L_X7_value (by assumption)) ?_; intro _ _ _)
    | with_reducible exact j_L_X7_value (by assumption)
    | with_reducible refine j_J_X2_number_23 (by assumption)
    | with_reducible (refine pp_B (pp_put (by assumption) (by decide) (by decide)) ?_; intro _ _)
    | with_reducible (refine pp_B (pp_ast (by assumption)) ?_; intro _ _)
    | with_reducible (refine pp_B (pp_putL (by assumption)) ?_; intro _ _)
    | with_reducible refine pp_if ?_ ?_
    | with_reducible refine pp_xIf ?_
    | with_reducible (refine pp_B pp_any ?_; intro _ _)
    | with_reducible assumption
    | with_reducible (intro _))
theorem j_J_X2_paceTold_51 {w0 : wS} {o : wO} {y0 : Int32} {w : wS} (h_w : jJ 101 102 w0 w) : pp (J_X2_paceTold_51 o y0 w) (fun r : Int32 × wS => jJ 101 102 w0 r.2) := by
  unfold J_X2_paceTold_51
  repeat' (first
    | with_reducible exact pp_some (by assumption)
    | with_reducible (refine pp_B (pp_put (by assumption) (by decide) (by decide)) ?_; intro _ _)
    | with_reducible (refine pp_B (pp_ast (by assumption)) ?_; intro _ _)
    | with_reducible (refine pp_B (pp_putL (by assumption)) ?_; intro _ _)
    | with_reducible refine pp_if ?_ ?_
    | with_reducible refine pp_xIf ?_
    | with_reducible (refine pp_B pp_any ?_; intro _ _)
    | with_reducible assumption
    | with_reducible (intro _))
theorem j_L_X2_paceTold {w0 : wS} {o : wO} {w : wS} (h_w : jJ 101 102 w0 w) : pp (L_X2_paceTold o w) (fun r : Int32 × wS => jJ 101 102 w0 r.2) := by
  unfold L_X2_paceTold
  repeat' (first
    | with_reducible exact pp_some (by assumption)
    | with_reducible (refine pp_B (j_L_X7_advance (by assumption)) ?_; intro _ _)
    | with_reducible exact j_L_X7_advance (by assumption)
    | with_reducible (refine pp_B2 (j_L_X2_number (by assumption)) ?_; intro _ _ _)
    | with_reducible exact j_L_X2_number (by assumption)
    | with_reducible refine j_J_X2_paceTold_51 (by assumption)
    | with_reducible (refine pp_B2 (j_L_X2_refuse (by decide) (by assumption)) ?_; intro _ _ _)
    | with_reducible exact j_L_X2_refuse (by decide) (by assumption)
    | with_reducible (refine pp_B (pp_put (by assumption) (by decide) (by decide)) ?_; intro _ _)
    | with_reducible (refine pp_B (pp_ast (by assumption)) ?_; intro _ _)
    | with_reducible (refine pp_B (pp_putL (by assumption)) ?_; intro _ _)
    | with_reducible refine pp_if ?_ ?_
    | with_reducible refine pp_xIf ?_
    | with_reducible (refine pp_B pp_any ?_; intro _ _)
    | with_reducible assumption
    | with_reducible (intro _))
theorem j_J_X2_dutyTold_93 {w0 : wS} {o : wO} {y0 : Int32} {w : wS} (h_w : jJ 101 102 w0 w) : pp (J_X2_dutyTold_93 o y0 w) (fun r : Int32 × wS => jJ 101 102 w0 r.2) := by
  unfold J_X2_dutyTold_93
  repeat' (first
    | with_reducible exact pp_some (by assumption)
    | with_reducible (refine pp_B (pp_put (by assumption) (by decide) (by decide)) ?_; intro _ _)
    | with_reducible (refine pp_B (pp_ast (by assumption)) ?_; intro _ _)
    | with_reducible (refine pp_B (pp_putL (by assumption)) ?_; intro _ _)
    | with_reducible refine pp_if ?_ ?_
    | with_reducible refine pp_xIf ?_
    | with_reducible (refine pp_B pp_any ?_; intro _ _)
    | with_reducible assumption
    | with_reducible (intro _))
theorem j_J_X2_dutyTold_80 {w0 : wS} {o : wO} {y1 : Int32} {y2 : Int32} {w : wS} (h_w : jJ 101 102 w0 w) : pp (J_X2_dutyTold_80 o y1 y2 w) (fun r : Int32 × wS => jJ 101 102 w0 r.2) := by
  unfold J_X2_dutyTold_80
  repeat' (first
    | with_reducible exact pp_some (by assumption)
    | with_reducible refine j_J_X2_dutyTold_93 (by assumption)
    | with_reducible (refine pp_B (pp_put (by assumption) (by decide) (by decide)) ?_; intro _ _)
    | with_reducible (refine pp_B (pp_ast (by assumption)) ?_; intro _ _)
    | with_reducible (refine pp_B (pp_putL (by assumption)) ?_; intro _ _)
    | with_reducible refine pp_if ?_ ?_
    | with_reducible refine pp_xIf ?_
    | with_reducible (refine pp_B pp_any ?_; intro _ _)
    | with_reducible assumption
    | with_reducible (intro _))
theorem j_L_X2_dutyTold {w0 : wS} {o : wO} {w : wS} (h_w : jJ 101 102 w0 w) : pp (L_X2_dutyTold o w) (fun r : Int32 × wS => jJ 101 102 w0 r.2) := by
  unfold L_X2_dutyTold
  repeat' (first
    | with_reducible exact pp_some (by assumption)
    | with_reducible (refine pp_B (j_L_X7_advance (by assumption)) ?_; intro _ _)
    | with_reducible exact j_L_X7_advance (by assumption)
    | with_reducible (refine pp_B2 (j_L_X2_number (by assumption)) ?_; intro _ _ _)
    | with_reducible exact j_L_X2_number (by assumption)
    | with_reducible refine j_J_X2_dutyTold_80 (by assumption)
    | with_reducible (refine pp_B2 (j_L_X2_refuse (by decide) (by assumption)) ?_; intro _ _ _)
    | with_reducible exact j_L_X2_refuse (by decide) (by assumption)
    | with_reducible (refine pp_B (pp_put (by assumption) (by decide) (by decide)) ?_; intro _ _)
    | with_reducible (refine pp_B (pp_ast (by assumption)) ?_; intro _ _)
    | with_reducible (refine pp_B (pp_putL (by assumption)) ?_; intro _ _)
    | with_reducible refine pp_if ?_ ?_
    | with_reducible refine pp_xIf ?_
    | with_reducible (refine pp_B pp_any ?_; intro _ _)
    | with_reducible assumption
    | with_reducible (intro _))
theorem j_J_X2_human_129 {w0 : wS} {o : wO} {y0 : Int32} {w : wS} (h_w : jJ 101 102 w0 w) : pp (J_X2_human_129 o y0 w) (fun r : Int32 × wS => jJ 101 102 w0 r.2) := by
  unfold J_X2_human_129
  repeat' (first
    | with_reducible exact pp_some (by assumption)
    | with_reducible (refine pp_B (pp_put (by assumption) (by decide) (by decide)) ?_; intro _ _)
    | with_reducible (refine pp_B (pp_ast (by assumption)) ?_; intro _ _)
    | with_reducible (refine pp_B (pp_putL (by assumption)) ?_; intro _ _)
    | with_reducible refine pp_if ?_ ?_
    | with_reducible refine pp_xIf ?_
    | with_reducible (refine pp_B pp_any ?_; intro _ _)
    | with_reducible assumption
    | with_reducible (intro _))
theorem j_J_X2_human_116 {w0 : wS} {o : wO} {y1 : Int32} {y2 : Int32} {w : wS} (h_w : jJ 101 102 w0 w) : pp (J_X2_human_116 o y1 y2 w) (fun r : Int32 × wS => jJ 101 102 w0 r.2) := by
  unfold J_X2_human_116
  repeat' (first
    | with_reducible exact pp_some (by assumption)
    | with_reducible refine j_J_X2_human_129 (by assumption)
    | with_reducible (refine pp_B (pp_put (by assumption) (by decide) (by decide)) ?_; intro _ _)
    | with_reducible (refine pp_B (pp_ast (by assumption)) ?_; intro _ _)
    | with_reducible (refine pp_B (pp_putL (by assumption)) ?_; intro _ _)
    | with_reducible refine pp_if ?_ ?_
    | with_reducible refine pp_xIf ?_
    | with_reducible (refine pp_B pp_any ?_; intro _ _)
    | with_reducible assumption
    | with_reducible (intro _))
theorem j_J_X2_human_89 {w0 : wS} {o : wO} {x2 : Int32} {y1 : Int32} {y2 : Int32} {w : wS} (h_w : jJ 101 102 w0 w) : pp (J_X2_human_89 o x2 y1 y2 w) (fun r : Int32 × wS => jJ 101 102 w0 r.2) := by
  unfold J_X2_human_89
  repeat' (first
    | with_reducible exact pp_some (by assumption)
    | with_reducible (refine pp_B2 (j_L_X2_number (by assumption)) ?_; intro _ _ _)
    | with_reducible exact j_L_X2_number (by assumption)
    | with_reducible refine j_J_X2_human_116 (by assumption)
    | with_reducible (refine pp_B (pp_put (by assumption) (by decide) (by decide)) ?_; intro _ _)
    | with_reducible (refine pp_B (pp_ast (by assumption)) ?_; intro _ _)
    | with_reducible (refine pp_B (pp_putL (by assumption)) ?_; intro _ _)
    | with_reducible refine pp_if ?_ ?_
    | with_reducible refine pp_xIf ?_
    | with_reducible (refine pp_B pp_any ?_; intro _ _)
    | with_reducible assumption
    | with_reducible (intro _))
theorem j_L_X2_human {w0 : wS} {o : wO} {a1 : Int32} {w : wS} (h_w : jJ 101 102 w0 w) : pp (L_X2_human o a1 w) (fun r : Int32 × wS => jJ 101 102 w0 r.2) := by
  unfold L_X2_human
  repeat' (first
    | with_reducible exact pp_some (by assumption)
    | with_reducible (refine pp_B (j_L_X7_advance (by assumption)) ?_; intro _ _)
    | with_reducible exact j_L_X7_advance (by assumption)
    | with_reducible (refine pp_B2 (j_L_X2_number (by assumption)) ?_; intro _ _ _)
    | with_reducible exact j_L_X2_number (by assumption)
    | with_reducible refine j_J_X2_human_89 (by assumption)
    | with_reducible (refine pp_B2 (j_L_X2_refuse (by decide) (by assumption)) ?_; intro _ _ _)
    | with_reducible exact j_L_X2_refuse (by decide) (by assumption)
    | with_reducible (refine pp_B (pp_put (by assumption) (by decide) (by decide)) ?_; intro _ _)
    | with_reducible (refine pp_B (pp_ast (by assumption)) ?_; intro _ _)
    | with_reducible (refine pp_B (pp_putL (by assumption)) ?_; intro _ _)
    | with_reducible refine pp_if ?_ ?_
    | with_reducible refine pp_xIf ?_
    | with_reducible (refine pp_B pp_any ?_; intro _ _)
    | with_reducible assumption
    | with_reducible (intro _))
theorem j_L_X2_line {w0 : wS} {o : wO} {w : wS} (h_w : jJ 101 102 w0 w) : pp (L_X2_line o w) (fun r : Int32 × wO × wS => jJ 101 102 w0 r.2.2) := by
  unfold L_X2_line
  repeat' (first
    | with_reducible exact pp_some (by assumption)
    | with_reducible (refine pp_B2 (j_L_X7_is_S1 (by assumption)) ?_; intro _ _ _)
    | with_reducible exact j_L_X7_is_S1 (by assumption)
    | with_reducible (refine pp_B2 (j_L_X7_is_S2 (by assumption)) ?_; intro _ _ _)
    | with_reducible exact j_L_X7_is_S2 (by assumption)
    | with_reducible (refine pp_B2 (j_L_X7_is_S3 (by assumption)) ?_; intro _ _ _)
    | with_reducible exact j_L_X7_is_S3 (by assumption)
    | with_reducible (refine pp_B2 (j_L_X7_is_S4 (by assumption)) ?_; intro _ _ _)
    | with_reducible exact j_L_X7_is_S4 (by assumption)
    | with_reducible (refine pp_B2 (j_L_X7_is_S5 (by assumption)) ?_; intro _ _ _)
    | with_reducible exact j_L_X7_is_S5 (by assumption)
    | with_reducible (refine pp_B2 (j_L_X7_is_S6 (by assumption)) ?_; intro _ _ _)
    | with_reducible exact j_L_X7_is_S6 (by assumption)
    | with_reducible (refine pp_B2 (j_L_X7_is_S16 (by assumption)) ?_; intro _ _ _)
    | with_reducible exact j_L_X7_is_S16 (by assumption)
    | with_reducible (refine pp_B2 (j_L_X2_refuse (by decide) (by assumption)) ?_; intro _ _ _)
    | with_reducible exact j_L_X2_refuse (by decide) (by assumption)
    | with_reducible refine j_J_X2_line_151 (by assumption)
    | with_reducible (refine pp_B3 (j_L_X2_ruleTold (by assumption)) ?_; intro _ _ _ _)
    | with_reducible exact j_L_X2_ruleTold (by assumption)
    | with_reducible (refine pp_B2 (j_L_X2_paceTold (by assumption)) ?_; intro _ _ _)
    | with_reducible exact j_L_X2_paceTold (by assumption)
    | with_reducible (refine pp_B2 (j_L_X2_dutyTold (by assumption)) ?_; intro _ _ _)
    | with_reducible exact j_L_X2_dutyTold (by assumption)
    | with_reducible (refine pp_B2 (j_L_X2_human (by assumption)) ?_; intro _ _ _)
    | with_reducible exact j_L_X2_human (by assumption)
    | with_reducible (refine pp_B (pp_put (by assumption) (by decide) (by decide)) ?_; intro _ _)
    | with_reducible (refine pp_B (pp_ast (by assumption)) ?_; intro _ _)
    | with_reducible (refine pp_B (pp_putL (by assumption)) ?_; intro _ _)
    | with_reducible refine pp_if ?_ ?_
    | with_reducible refine pp_xIf ?_
    | with_reducible (refine pp_B pp_any ?_; intro _ _)
    | with_reducible assumption
    | with_reducible (intro _))
end
