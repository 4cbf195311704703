section
/-! ===== where a fault lies is told only with a fault ===== -/
def pp {α : Type} (o : Option α) (P : α → Prop) : Prop := (∀ r, o = some r → P r) ∧ True
theorem pp_some {α : Type} {a : α} {P : α → Prop} (h : P a) : pp (some a) P := ⟨fun r e => by obtain rfl := Option.some.inj e; exact h, trivial⟩
theorem pp_any {α : Type} {o : Option α} : pp o (fun _ => True) := ⟨fun _ _ => trivial, trivial⟩
theorem pp_B {α β : Type} {o : Option α} {k : α → Option β} {P : α → Prop} {Q : β → Prop} (h : pp o P) (hk : ∀ a, P a → pp (k a) Q) : pp (xB o k) Q := ⟨fun r e => by obtain ⟨a, e1, e2⟩ := xB_some e; exact (hk a (h.1 a e1)).1 r e2, trivial⟩
theorem pp_B2 {α α' β : Type} {o : Option (α × α')} {k : α → α' → Option β} {P : α × α' → Prop} {Q : β → Prop} (h : pp o P) (hk : ∀ a a', P (a, a') → pp (k a a') Q) : pp (xB2 o k) Q := ⟨fun r e => by
  cases o with
  | none => cases e
  | some p => exact (hk p.1 p.2 (h.1 p rfl)).1 r e, trivial⟩
theorem pp_B3 {α α' α'' β : Type} {o : Option (α × α' × α'')} {k : α → α' → α'' → Option β} {P : α × α' × α'' → Prop} {Q : β → Prop} (h : pp o P) (hk : ∀ a a' a'', P (a, a', a'') → pp (k a a' a'') Q) : pp (xB3 o k) Q := ⟨fun r e => by
  cases o with
  | none => cases e
  | some p => exact (hk p.1 p.2.1 p.2.2 (h.1 p rfl)).1 r e, trivial⟩
theorem pp_if {α : Type} {c : Prop} [Decidable c] {x y : Option α} {P : α → Prop} (h1 : pp x P) (h2 : pp y P) : pp (if c then x else y) P := by
  by_cases hc : c
  · rw [if_pos hc]; exact h1
  · rw [if_neg hc]; exact h2
theorem pp_xIf {α : Type} {c : Bool} {x : Option α} {P : α → Prop} (h1 : pp x P) : pp (xIf c x) P := ⟨fun r e => h1.1 r (xIf_some e).2, trivial⟩
theorem pp_loop {σ ρ : Type} {body : (σ → Option ρ) → σ → Option ρ} {Q : ρ → Prop} {I : σ → Prop} (h : ∀ kk : σ → Option ρ, (∀ s, I s → pp (kk s) Q) → ∀ s, I s → pp (body kk s) Q) : ∀ (n : Nat) (s : σ), I s → pp (xLoop body n s) Q
  | 0, _, _ => ⟨fun _ e => (by cases e), trivial⟩
  | n + 1, s, hs => h _ (fun s' hs' => pp_loop h n s' hs') s hs
def jJ (a b : Nat) (w0 w : wS) : Prop := (w0.1 a = nI 0 → w0.1 b = mI) → w.1 a = nI 0 → w.1 b = mI
theorem pp_put {a b k : Nat} {w0 w : wS} {v : Int32} (h : jJ a b w0 w) (ha : a ≠ k) (hb : b ≠ k) : pp (xPut w k v) (fun r => jJ a b w0 r) := by
  rw [xPut_s]
  refine pp_some (fun q q1 => ?_)
  rw [wuS_1, if_neg ha] at q1
  rw [wuS_1, if_neg hb]
  exact h q q1
theorem pp_ast {a b c n : Nat} {i v : Int32} {w0 w : wS} (h : jJ a b w0 w) : pp (xAst w c n i v) (fun r => jJ a b w0 r) := by
  refine ⟨fun r e => ?_, trivial⟩
  unfold xAst at e
  split at e
  · obtain rfl := Option.some.inj e; exact h
  · cases e
theorem pp_putL {a b k : Nat} {v : Int64} {w0 w : wS} (h : jJ a b w0 w) : pp (xPutL w k v) (fun r => jJ a b w0 r) := ⟨fun r e => by
  obtain rfl := Option.some.inj e
  exact h, trivial⟩
theorem j_B_X10_knownWord_21 {w0 : wS} {kh21 : Int32 → wS → Option (Int32 × wS)} {ke39 : Int32 → wS → Option (Int32 × wS)} {ke47 : wS → Option (Int32 × wS)} {x1 : Int32} {w : wS} (h_kh21 : ∀ (c0 : Int32) (c1 : wS), jJ 13 14 w0 c1 → pp (kh21 c0 c1) (fun r : Int32 × wS => jJ 13 14 w0 r.2)) (h_ke39 : ∀ (c0 : Int32) (c1 : wS), jJ 13 14 w0 c1 → pp (ke39 c0 c1) (fun r : Int32 × wS => jJ 13 14 w0 r.2)) (h_ke47 : ∀ (c0 : wS), jJ 13 14 w0 c0 → pp (ke47 c0) (fun r : Int32 × wS => jJ 13 14 w0 r.2)) (h_w : jJ 13 14 w0 w) : pp (B_X10_knownWord_21 kh21 ke39 ke47 x1 w) (fun r : Int32 × wS => jJ 13 14 w0 r.2) := by
  unfold B_X10_knownWord_21
  repeat' (first
    | with_reducible exact pp_some (by assumption)
    | with_reducible exact h_kh21 _ _ (by assumption)
    | with_reducible exact h_ke39 _ _ (by assumption)
    | with_reducible exact h_ke47 _ (by assumption)
    | with_reducible (refine pp_B (pp_put (by assumption) (by decide) (by decide)) ?_; intro _ _)
    | with_reducible (refine pp_B (pp_ast (by assumption)) ?_; intro _ _)
    | with_reducible (refine pp_B (pp_putL (by assumption)) ?_; intro _ _)
    | with_reducible refine pp_if ?_ ?_
    | with_reducible refine pp_xIf ?_
    | with_reducible (refine pp_B pp_any ?_; intro _ _)
    | with_reducible assumption
    | with_reducible (intro _))
theorem j_P_X10_knownWord_21 {w0 : wS} {ke39 : Int32 → wS → Option (Int32 × wS)} {ke47 : wS → Option (Int32 × wS)} {n : Nat} {x1 : Int32} {w : wS} (h_ke39 : ∀ (c0 : Int32) (c1 : wS), jJ 13 14 w0 c1 → pp (ke39 c0 c1) (fun r : Int32 × wS => jJ 13 14 w0 r.2)) (h_ke47 : ∀ (c0 : wS), jJ 13 14 w0 c0 → pp (ke47 c0) (fun r : Int32 × wS => jJ 13 14 w0 r.2)) (h_w : jJ 13 14 w0 w) : pp (P_X10_knownWord_21 ke39 ke47 n x1 w) (fun r : Int32 × wS => jJ 13 14 w0 r.2) := by
  unfold P_X10_knownWord_21
  refine pp_loop (I := fun σ => jJ 13 14 w0 σ.2) (fun kk hkk σ hσ => ?_) _ _ h_w
  refine j_B_X10_knownWord_21 ?_ ?_ ?_ hσ
  · exact fun c0 c1 hc => hkk (c0, c1) hc
  · exact h_ke39
  · exact h_ke47
theorem j_J_X10_knownWord_17 {w0 : wS} {w : wS} (h_w : jJ 13 14 w0 w) : pp (J_X10_knownWord_17 w) (fun r : Int32 × wS => jJ 13 14 w0 r.2) := by
  unfold J_X10_knownWord_17
  repeat' (first
    | with_reducible exact pp_some (by assumption)
    | with_reducible (refine pp_B (pp_put (by assumption) (by decide) (by decide)) ?_; intro _ _)
    | with_reducible (refine pp_B (pp_ast (by assumption)) ?_; intro _ _)
    | with_reducible (refine pp_B (pp_putL (by assumption)) ?_; intro _ _)
    | with_reducible refine pp_if ?_ ?_
    | with_reducible refine pp_xIf ?_
    | with_reducible (refine pp_B pp_any ?_; intro _ _)
    | with_reducible assumption
    | with_reducible (intro _))
theorem j_L_X10_knownWord {w0 : wS} {w : wS} (h_w : jJ 13 14 w0 w) : pp (L_X10_knownWord w) (fun r : Int32 × wS => jJ 13 14 w0 r.2) := by
  unfold L_X10_knownWord
  repeat' (first
    | with_reducible exact pp_some (by assumption)
    | with_reducible refine j_P_X10_knownWord_21 ?_ ?_ (by assumption)
    | with_reducible refine j_J_X10_knownWord_17 (by assumption)
    | with_reducible (refine pp_B (pp_put (by assumption) (by decide) (by decide)) ?_; intro _ _)
    | with_reducible (refine pp_B (pp_ast (by assumption)) ?_; intro _ _)
    | with_reducible (refine pp_B (pp_putL (by assumption)) ?_; intro _ _)
    | with_reducible refine pp_if ?_ ?_
    | with_reducible refine pp_xIf ?_
    | with_reducible (refine pp_B pp_any ?_; intro _ _)
    | with_reducible assumption
    | with_reducible (intro _))
theorem j_J_X10_isGood_12 {w0 : wS} {y0 : Int32} {w : wS} (h_w : jJ 13 14 w0 w) : pp (J_X10_isGood_12 y0 w) (fun r : Int32 × wS => jJ 13 14 w0 r.2) := by
  unfold J_X10_isGood_12
  repeat' (first
    | with_reducible exact pp_some (by assumption)
    | with_reducible (refine pp_B (pp_put (by assumption) (by decide) (by decide)) ?_; intro _ _)
    | with_reducible (refine pp_B (pp_ast (by assumption)) ?_; intro _ _)
    | with_reducible (refine pp_B (pp_putL (by assumption)) ?_; intro _ _)
    | with_reducible refine pp_if ?_ ?_
    | with_reducible refine pp_xIf ?_
    | with_reducible (refine pp_B pp_any ?_; intro _ _)
    | with_reducible assumption
    | with_reducible (intro _))
theorem j_L_X10_isGood {w0 : wS} {w : wS} (h_w : jJ 13 14 w0 w) : pp (L_X10_isGood w) (fun r : Int32 × wS => jJ 13 14 w0 r.2) := by
  unfold L_X10_isGood
  repeat' (first
    | with_reducible exact pp_some (by assumption)
    | with_reducible refine j_J_X10_isGood_12 (by assumption)
    | with_reducible (refine pp_B (pp_put (by assumption) (by decide) (by decide)) ?_; intro _ _)
    | with_reducible (refine pp_B (pp_ast (by assumption)) ?_; intro _ _)
    | with_reducible (refine pp_B (pp_putL (by assumption)) ?_; intro _ _)
    | with_reducible refine pp_if ?_ ?_
    | with_reducible refine pp_xIf ?_
    | with_reducible (refine pp_B pp_any ?_; intro _ _)
    | with_reducible assumption
    | with_reducible (intro _))
theorem j_J_X10_byteAt_18 {w0 : wS} {y0 : Int32} {w : wS} (h_w : jJ 13 14 w0 w) : pp (J_X10_byteAt_18 y0 w) (fun r : Int32 × wS => jJ 13 14 w0 r.2) := by
  unfold J_X10_byteAt_18
  repeat' (first
    | with_reducible exact pp_some (by assumption)
    | with_reducible (refine pp_B (pp_put (by assumption) (by decide) (by decide)) ?_; intro _ _)
    | with_reducible (refine pp_B (pp_ast (by assumption)) ?_; intro _ _)
    | with_reducible (refine pp_B (pp_putL (by assumption)) ?_; intro _ _)
    | with_reducible refine pp_if ?_ ?_
    | with_reducible refine pp_xIf ?_
    | with_reducible (refine pp_B pp_any ?_; intro _ _)
    | with_reducible assumption
    | with_reducible (intro _))
theorem j_L_X10_byteAt {w0 : wS} {a1 : Int32} {w : wS} (h_w : jJ 13 14 w0 w) : pp (L_X10_byteAt a1 w) (fun r : Int32 × wS => jJ 13 14 w0 r.2) := by
  unfold L_X10_byteAt
  repeat' (first
    | with_reducible exact pp_some (by assumption)
    | with_reducible refine j_J_X10_byteAt_18 (by assumption)
    | with_reducible (refine pp_B (pp_put (by assumption) (by decide) (by decide)) ?_; intro _ _)
    | with_reducible (refine pp_B (pp_ast (by assumption)) ?_; intro _ _)
    | with_reducible (refine pp_B (pp_putL (by assumption)) ?_; intro _ _)
    | with_reducible refine pp_if ?_ ?_
    | with_reducible refine pp_xIf ?_
    | with_reducible (refine pp_B pp_any ?_; intro _ _)
    | with_reducible assumption
    | with_reducible (intro _))
theorem j_J_X10_goes_37 {w0 : wS} {kh0 : wS → Option (wS)} {ke50 : wS → Option (wS)} {w : wS} (h_kh0 : ∀ (c0 : wS), jJ 13 14 w0 c0 → pp (kh0 c0) (fun r : wS => jJ 13 14 w0 r)) (h_ke50 : ∀ (c0 : wS), jJ 13 14 w0 c0 → pp (ke50 c0) (fun r : wS => jJ 13 14 w0 r)) (h_w : jJ 13 14 w0 w) : pp (J_X10_goes_37 kh0 ke50 w) (fun r : wS => jJ 13 14 w0 r) := by
  unfold J_X10_goes_37
  repeat' (first
    | with_reducible exact pp_some (by assumption)
    | with_reducible exact h_kh0 _ (by assumption)
    | with_reducible exact h_ke50 _ (by assumption)
    | with_reducible (refine pp_B (pp_put (by assumption) (by decide) (by decide)) ?_; intro _ _)
    | with_reducible (refine pp_B (pp_ast (by assumption)) ?_; intro _ _)
    | with_reducible (refine pp_B (pp_putL (by assumption)) ?_; intro _ _)
    | with_reducible refine pp_if ?_ ?_
    | with_reducible refine pp_xIf ?_
    | with_reducible (refine pp_B pp_any ?_; intro _ _)
    | with_reducible assumption
    | with_reducible (intro _))
theorem j_B_X10_goes_0 {w0 : wS} {kh0 : wS → Option (wS)} {ke50 : wS → Option (wS)} {w : wS} (h_kh0 : ∀ (c0 : wS), jJ 13 14 w0 c0 → pp (kh0 c0) (fun r : wS => jJ 13 14 w0 r)) (h_ke50 : ∀ (c0 : wS), jJ 13 14 w0 c0 → pp (ke50 c0) (fun r : wS => jJ 13 14 w0 r)) (h_w : jJ 13 14 w0 w) : pp (B_X10_goes_0 kh0 ke50 w) (fun r : wS => jJ 13 14 w0 r) := by
  unfold B_X10_goes_0
  repeat' (first
    | with_reducible exact pp_some (by assumption)
    | with_reducible exact h_kh0 _ (by assumption)
    | with_reducible exact h_ke50 _ (by assumption)
    | with_reducible (refine pp_B2 (j_L_X10_byteAt (by assumption)) ?_; intro _ _ _)
    | with_reducible exact j_L_X10_byteAt (by assumption)
    | with_reducible refine j_J_X10_goes_37 ?_ ?_ (by assumption)
    | with_reducible (refine pp_B (pp_put (by assumption) (by decide) (by decide)) ?_; intro _ _)
    | with_reducible (refine pp_B (pp_ast (by assumption)) ?_; intro _ _)
    | with_reducible (refine pp_B (pp_putL (by assumption)) ?_; intro _ _)
    | with_reducible refine pp_if ?_ ?_
    | with_reducible refine pp_xIf ?_
    | with_reducible (refine pp_B pp_any ?_; intro _ _)
    | with_reducible assumption
    | with_reducible (intro _))
theorem j_P_X10_goes_0 {w0 : wS} {ke50 : wS → Option (wS)} {n : Nat} {w : wS} (h_ke50 : ∀ (c0 : wS), jJ 13 14 w0 c0 → pp (ke50 c0) (fun r : wS => jJ 13 14 w0 r)) (h_w : jJ 13 14 w0 w) : pp (P_X10_goes_0 ke50 n w) (fun r : wS => jJ 13 14 w0 r) := by
  unfold P_X10_goes_0
  refine pp_loop (I := fun σ => jJ 13 14 w0 σ) (fun kk hkk σ hσ => ?_) _ _ h_w
  refine j_B_X10_goes_0 ?_ ?_ hσ
  · exact fun c0 hc => hkk c0 hc
  · exact h_ke50
theorem j_J_X10_goes_331 {w0 : wS} {w : wS} (h_w : jJ 13 14 w0 w) : pp (J_X10_goes_331 w) (fun r : wS => jJ 13 14 w0 r) := by
  unfold J_X10_goes_331
  repeat' (first
    | with_reducible exact pp_some (by assumption)
    | with_reducible (refine pp_B (pp_put (by assumption) (by decide) (by decide)) ?_; intro _ _)
    | with_reducible (refine pp_B (pp_ast (by assumption)) ?_; intro _ _)
    | with_reducible (refine pp_B (pp_putL (by assumption)) ?_; intro _ _)
    | with_reducible refine pp_if ?_ ?_
    | with_reducible refine pp_xIf ?_
    | with_reducible (refine pp_B pp_any ?_; intro _ _)
    | with_reducible assumption
    | with_reducible (intro _))
theorem j_J_X10_goes_328 {w0 : wS} {y1 : Int32} {w : wS} (h_w : jJ 13 14 w0 w) : pp (J_X10_goes_328 y1 w) (fun r : wS => jJ 13 14 w0 r) := by
  unfold J_X10_goes_328
  repeat' (first
    | with_reducible exact pp_some (by assumption)
    | with_reducible refine j_J_X10_goes_331 (by assumption)
    | with_reducible (refine pp_B (pp_put (by assumption) (by decide) (by decide)) ?_; intro _ _)
    | with_reducible (refine pp_B (pp_ast (by assumption)) ?_; intro _ _)
    | with_reducible (refine pp_B (pp_putL (by assumption)) ?_; intro _ _)
    | with_reducible refine pp_if ?_ ?_
    | with_reducible refine pp_xIf ?_
    | with_reducible (refine pp_B pp_any ?_; intro _ _)
    | with_reducible assumption
    | with_reducible (intro _))
theorem j_J_X10_goes_323 {w0 : wS} {w : wS} (h_w : jJ 13 14 w0 w) : pp (J_X10_goes_323 w) (fun r : wS => jJ 13 14 w0 r) := by
  unfold J_X10_goes_323
  repeat' (first
    | with_reducible exact pp_some (by assumption)
    | with_reducible refine j_J_X10_goes_328 (by assumption)
    | with_reducible (refine pp_B (pp_put (by assumption) (by decide) (by decide)) ?_; intro _ _)
    | with_reducible (refine pp_B (pp_ast (by assumption)) ?_; intro _ _)
    | with_reducible (refine pp_B (pp_putL (by assumption)) ?_; intro _ _)
    | with_reducible refine pp_if ?_ ?_
    | with_reducible refine pp_xIf ?_
    | with_reducible (refine pp_B pp_any ?_; intro _ _)
    | with_reducible assumption
    | with_reducible (intro _))
theorem j_J_X10_goes_237 {w0 : wS} {kh187 : wS → Option (wS)} {ke250 : wS → Option (wS)} {w : wS} (h_kh187 : ∀ (c0 : wS), jJ 13 14 w0 c0 → pp (kh187 c0) (fun r : wS => jJ 13 14 w0 r)) (h_ke250 : ∀ (c0 : wS), jJ 13 14 w0 c0 → pp (ke250 c0) (fun r : wS => jJ 13 14 w0 r)) (h_w : jJ 13 14 w0 w) : pp (J_X10_goes_237 kh187 ke250 w) (fun r : wS => jJ 13 14 w0 r) := by
  unfold J_X10_goes_237
  repeat' (first
    | with_reducible exact pp_some (by assumption)
    | with_reducible exact h_kh187 _ (by assumption)
    | with_reducible exact h_ke250 _ (by assumption)
    | with_reducible (refine pp_B (pp_put (by assumption) (by decide) (by decide)) ?_; intro _ _)
    | with_reducible (refine pp_B (pp_ast (by assumption)) ?_; intro _ _)
    | with_reducible (refine pp_B (pp_putL (by assumption)) ?_; intro _ _)
    | with_reducible refine pp_if ?_ ?_
    | with_reducible refine pp_xIf ?_
    | with_reducible (refine pp_B pp_any ?_; intro _ _)
    | with_reducible assumption
    | with_reducible (intro _))
theorem j_B_X10_goes_187 {w0 : wS} {kh187 : wS → Option (wS)} {ke250 : wS → Option (wS)} {w : wS} (h_kh187 : ∀ (c0 : wS), jJ 13 14 w0 c0 → pp (kh187 c0) (fun r : wS => jJ 13 14 w0 r)) (h_ke250 : ∀ (c0 : wS), jJ 13 14 w0 c0 → pp (ke250 c0) (fun r : wS => jJ 13 14 w0 r)) (h_w : jJ 13 14 w0 w) : pp (B_X10_goes_187 kh187 ke250 w) (fun r : wS => jJ 13 14 w0 r) := by
  unfold B_X10_goes_187
  repeat' (first
    | with_reducible exact pp_some (by assumption)
    | with_reducible exact h_kh187 _ (by assumption)
    | with_reducible exact h_ke250 _ (by assumption)
    | with_reducible (refine pp_B2 (j_L_X10_byteAt (by assumption)) ?_; intro _ _ _)
    | with_reducible exact j_L_X10_byteAt (by assumption)
    | with_reducible refine j_J_X10_goes_237 ?_ ?_ (by assumption)
    | with_reducible (refine pp_B (pp_put (by assumption) (by decide) (by decide)) ?_; intro _ _)
    | with_reducible (refine pp_B (pp_ast (by assumption)) ?_; intro _ _)
    | with_reducible (refine pp_B (pp_putL (by assumption)) ?_; intro _ _)
    | with_reducible refine pp_if ?_ ?_
    | with_reducible refine pp_xIf ?_
    | with_reducible (refine pp_B pp_any ?_; intro _ _)
    | with_reducible assumption
    | with_reducible (intro _))
theorem j_P_X10_goes_187 {w0 : wS} {ke250 : wS → Option (wS)} {n : Nat} {w : wS} (h_ke250 : ∀ (c0 : wS), jJ 13 14 w0 c0 → pp (ke250 c0) (fun r : wS => jJ 13 14 w0 r)) (h_w : jJ 13 14 w0 w) : pp (P_X10_goes_187 ke250 n w) (fun r : wS => jJ 13 14 w0 r) := by
  unfold P_X10_goes_187
  refine pp_loop (I := fun σ => jJ 13 14 w0 σ) (fun kk hkk σ hσ => ?_) _ _ h_w
  refine j_B_X10_goes_187 ?_ ?_ hσ
  · exact fun c0 hc => hkk c0 hc
  · exact h_ke250
theorem j_J_X10_goes_159 {w0 : wS} {kh108 : wS → Option (wS)} {ke172 : wS → Option (wS)} {w : wS} (h_kh108 : ∀ (c0 : wS), jJ 13 14 w0 c0 → pp (kh108 c0) (fun r : wS => jJ 13 14 w0 r)) (h_ke172 : ∀ (c0 : wS), jJ 13 14 w0 c0 → pp (ke172 c0) (fun r : wS => jJ 13 14 w0 r)) (h_w : jJ 13 14 w0 w) : pp (J_X10_goes_159 kh108 ke172 w) (fun r : wS => jJ 13 14 w0 r) := by
  unfold J_X10_goes_159
  repeat' (first
    | with_reducible exact pp_some (by assumption)
    | with_reducible exact h_kh108 _ (by assumption)
    | with_reducible exact h_ke172 _ (by assumption)
    | with_reducible (refine pp_B (pp_put (by assumption) (by decide) (by decide)) ?_; intro _ _)
    | with_reducible (refine pp_B (pp_ast (by assumption)) ?_; intro _ _)
    | with_reducible (refine pp_B (pp_putL (by assumption)) ?_; intro _ _)
    | with_reducible refine pp_if ?_ ?_
    | with_reducible refine pp_xIf ?_
    | with_reducible (refine pp_B pp_any ?_; intro _ _)
    | with_reducible assumption
    | with_reducible (intro _))
theorem j_B_X10_goes_108 {w0 : wS} {kh108 : wS → Option (wS)} {ke172 : wS → Option (wS)} {w : wS} (h_kh108 : ∀ (c0 : wS), jJ 13 14 w0 c0 → pp (kh108 c0) (fun r : wS => jJ 13 14 w0 r)) (h_ke172 : ∀ (c0 : wS), jJ 13 14 w0 c0 → pp (ke172 c0) (fun r : wS => jJ 13 14 w0 r)) (h_w : jJ 13 14 w0 w) : pp (B_X10_goes_108 kh108 ke172 w) (fun r : wS => jJ 13 14 w0 r) := by
  unfold B_X10_goes_108
  repeat' (first
    | with_reducible exact pp_some (by assumption)
    | with_reducible exact h_kh108 _ (by assumption)
    | with_reducible exact h_ke172 _ (by assumption)
    | with_reducible (refine pp_B2 (j_L_X10_byteAt (by assumption)) ?_; intro _ _ _)
    | with_reducible exact j_L_X10_byteAt (by assumption)
    | with_reducible refine j_J_X10_goes_159 ?_ ?_ (by assumption)
    | with_reducible (refine pp_B (pp_put (by assumption) (by decide) (by decide)) ?_; intro _ _)
    | with_reducible (refine pp_B (pp_ast (by assumption)) ?_; intro _ _)
    | with_reducible (refine pp_B (pp_putL (by assumption)) ?_; intro _ _)
    | with_reducible refine pp_if ?_ ?_
    | with_reducible refine pp_xIf ?_
    | with_reducible (refine pp_B pp_any ?_; intro _ _)
    | with_reducible assumption
    | with_reducible (intro _))
theorem j_P_X10_goes_108 {w0 : wS} {ke172 : wS → Option (wS)} {n : Nat} {w : wS} (h_ke172 : ∀ (c0 : wS), jJ 13 14 w0 c0 → pp (ke172 c0) (fun r : wS => jJ 13 14 w0 r)) (h_w : jJ 13 14 w0 w) : pp (P_X10_goes_108 ke172 n w) (fun r : wS => jJ 13 14 w0 r) := by
  unfold P_X10_goes_108
  refine pp_loop (I := fun σ => jJ 13 14 w0 σ) (fun kk hkk σ hσ => ?_) _ _ h_w
  refine j_B_X10_goes_108 ?_ ?_ hσ
  · exact fun c0 hc => hkk c0 hc
  · exact h_ke172
theorem j_J_X10_goes_50 {w0 : wS} {w : wS} (h_w : jJ 13 14 w0 w) : pp (J_X10_goes_50 w) (fun r : wS => jJ 13 14 w0 r) := by
  unfold J_X10_goes_50
  repeat' (first
    | with_reducible exact pp_some (by assumption)
    | with_reducible (refine pp_B2 (j_L_X10_byteAt (by assumption)) ?_; intro _ _ _)
    | with_reducible exact j_L_X10_byteAt (by assumption)
    | with_reducible refine j_J_X10_goes_323 (by assumption)
    | with_reducible refine j_J_X10_goes_328 (by assumption)
    | with_reducible refine j_P_X10_goes_187 ?_ (by assumption)
    | with_reducible refine j_J_X10_goes_331 (by assumption)
    | with_reducible refine j_P_X10_goes_108 ?_ (by assumption)
    | with_reducible (refine pp_B (pp_put (by assumption) (by decide) (by decide)) ?_; intro _ _)
    | with_reducible (refine pp_B (pp_ast (by assumption)) ?_; intro _ _)
    | with_reducible (refine pp_B (pp_putL (by assumption)) ?_; intro _ _)
    | with_reducible refine pp_if ?_ ?_
    | with_reducible refine pp_xIf ?_
    | with_reducible (refine pp_B pp_any ?_; intro _ _)
    | with_reducible assumption
    | with_reducible (intro _))
theorem j_L_X10_goes {w0 : wS} {w : wS} (h_w : jJ 13 14 w0 w) : pp (L_X10_goes w) (fun r : wS => jJ 13 14 w0 r) := by
  unfold L_X10_goes
  repeat' (first
    | with_reducible exact pp_some (by assumption)
    | with_reducible refine j_P_X10_goes_0 ?_ (by assumption)
    | with_reducible refine j_J_X10_goes_50 (by assumption)
    | with_reducible (refine pp_B (pp_put (by assumption) (by decide) (by decide)) ?_; intro _ _)
    | with_reducible (refine pp_B (pp_ast (by assumption)) ?_; intro _ _)
    | with_reducible (refine pp_B (pp_putL (by assumption)) ?_; intro _ _)
    | with_reducible refine pp_if ?_ ?_
    | with_reducible refine pp_xIf ?_
    | with_reducible (refine pp_B pp_any ?_; intro _ _)
    | with_reducible assumption
    | with_reducible (intro _))
theorem j_J_X10_begins_18 {w0 : wS} {w : wS} (h_w : jJ 13 14 w0 w) : pp (J_X10_begins_18 w) (fun r : Int32 × wS => jJ 13 14 w0 r.2) := by
  unfold J_X10_begins_18
  repeat' (first
    | with_reducible exact pp_some (by assumption)
    | with_reducible (refine pp_B2 (j_L_X10_isGood (by assumption)) ?_; intro _ _ _)
    | with_reducible exact j_L_X10_isGood (by assumption)
    | with_reducible (refine pp_B (j_L_X10_goes (by assumption)) ?_; intro _ _)
    | with_reducible exact j_L_X10_goes (by assumption)
    | with_reducible (refine pp_B (pp_put (by assumption) (by decide) (by decide)) ?_; intro _ _)
    | with_reducible (refine pp_B (pp_ast (by assumption)) ?_; intro _ _)
    | with_reducible (refine pp_B (pp_putL (by assumption)) ?_; intro _ _)
    | with_reducible refine pp_if ?_ ?_
    | with_reducible refine pp_xIf ?_
    | with_reducible (refine pp_B pp_any ?_; intro _ _)
    | with_reducible assumption
    | with_reducible (intro _))
theorem j_L_X10_wrong {w0 : wS} {a1 : Int32} {w : wS} (ha : a1 ≠ 0) (h_w : jJ 13 14 w0 w) : pp (L_X10_wrong a1 w) (fun r : wS => jJ 13 14 w0 r) := by
  unfold L_X10_wrong
  rw [xGet_s, xB_s]
  by_cases h : w.1 13 = 0
  · rw [if_pos h, xPut_s, xB_s, xGet_s, xB_s, xPut_s, xB_s]
    refine pp_some (fun q q1 => absurd q1 ?_)
    rw [wuS_1, if_neg (by decide), wuS_1, if_pos rfl]
    exact ha
  · rw [if_neg h]
    exact pp_some h_w
theorem j_J_X10_begins_9 {w0 : wS} {x2 : Int32} {w : wS} (h_w : jJ 13 14 w0 w) : pp (J_X10_begins_9 x2 w) (fun r : Int32 × wS => jJ 13 14 w0 r.2) := by
  unfold J_X10_begins_9
  repeat' (first
    | with_reducible exact pp_some (by assumption)
    | with_reducible refine j_J_X10_begins_18 (by assumption)
    | with_reducible (refine pp_B (j_L_X10_wrong (by decide) (by assumption)) ?_; intro _ _)
    | with_reducible exact j_L_X10_wrong (by decide) (by assumption)
    | with_reducible (refine pp_B (pp_put (by assumption) (by decide) (by decide)) ?_; intro _ _)
    | with_reducible (refine pp_B (pp_ast (by assumption)) ?_; intro _ _)
    | with_reducible (refine pp_B (pp_putL (by assumption)) ?_; intro _ _)
    | with_reducible refine pp_if ?_ ?_
    | with_reducible refine pp_xIf ?_
    | with_reducible (refine pp_B pp_any ?_; intro _ _)
    | with_reducible assumption
    | with_reducible (intro _))
theorem j_L_X10_begins {w0 : wS} {a1 : Int32} {a2 : Int32} {w : wS} (h_w : jJ 13 14 w0 w) : pp (L_X10_begins a1 a2 w) (fun r : Int32 × wS => jJ 13 14 w0 r.2) := by
  unfold L_X10_begins
  repeat' (first
    | with_reducible exact pp_some (by assumption)
    | with_reducible refine j_J_X10_begins_9 (by assumption)
    | with_reducible (refine pp_B (j_L_X10_wrong (by decide) (by assumption)) ?_; intro _ _)
    | with_reducible exact j_L_X10_wrong (by decide) (by assumption)
    | with_reducible (refine pp_B (pp_put (by assumption) (by decide) (by decide)) ?_; intro _ _)
    | with_reducible (refine pp_B (pp_ast (by assumption)) ?_; intro _ _)
    | with_reducible (refine pp_B (pp_putL (by assumption)) ?_; intro _ _)
    | with_reducible refine pp_if ?_ ?_
    | with_reducible refine pp_xIf ?_
    | with_reducible (refine pp_B pp_any ?_; intro _ _)
    | with_reducible assumption
    | with_reducible (intro _))
theorem j_J_X10_isSign_21 {w0 : wS} {y0 : Int32} {w : wS} (h_w : jJ 13 14 w0 w) : pp (J_X10_isSign_21 y0 w) (fun r : Int32 × wS => jJ 13 14 w0 r.2) := by
  unfold J_X10_isSign_21
  repeat' (first
    | with_reducible exact pp_some (by assumption)
    | with_reducible (refine pp_B (pp_put (by assumption) (by decide) (by decide)) ?_; intro _ _)
    | with_reducible (refine pp_B (pp_ast (by assumption)) ?_; intro _ _)
    | with_reducible (refine pp_B (pp_putL (by assumption)) ?_; intro _ _)
    | with_reducible refine pp_if ?_ ?_
    | with_reducible refine pp_xIf ?_
    | with_reducible (refine pp_B pp_any ?_; intro _ _)
    | with_reducible assumption
    | with_reducible (intro _))
theorem j_J_X10_isSign_20 {w0 : wS} {w : wS} (h_w : jJ 13 14 w0 w) : pp (J_X10_isSign_20 w) (fun r : Int32 × wS => jJ 13 14 w0 r.2) := by
  unfold J_X10_isSign_20
  repeat' (first
    | with_reducible exact pp_some (by assumption)
    | with_reducible refine j_J_X10_isSign_21 (by assumption)
    | with_reducible (refine pp_B (pp_put (by assumption) (by decide) (by decide)) ?_; intro _ _)
    | with_reducible (refine pp_B (pp_ast (by assumption)) ?_; intro _ _)
    | with_reducible (refine pp_B (pp_putL (by assumption)) ?_; intro _ _)
    | with_reducible refine pp_if ?_ ?_
    | with_reducible refine pp_xIf ?_
    | with_reducible (refine pp_B pp_any ?_; intro _ _)
    | with_reducible assumption
    | with_reducible (intro _))
theorem j_L_X10_isSign {w0 : wS} {a1 : Int32} {w : wS} (h_w : jJ 13 14 w0 w) : pp (L_X10_isSign a1 w) (fun r : Int32 × wS => jJ 13 14 w0 r.2) := by
  unfold L_X10_isSign
  repeat' (first
    | with_reducible exact pp_some (by assumption)
    | with_reducible refine j_J_X10_isSign_21 (by assumption)
    | with_reducible refine j_J_X10_isSign_20 (by assumption)
    | with_reducible (refine pp_B (pp_put (by assumption) (by decide) (by decide)) ?_; intro _ _)
    | with_reducible (refine pp_B (pp_ast (by assumption)) ?_; intro _ _)
    | with_reducible (refine pp_B (pp_putL (by assumption)) ?_; intro _ _)
    | with_reducible refine pp_if ?_ ?_
    | with_reducible refine pp_xIf ?_
    | with_reducible (refine pp_B pp_any ?_; intro _ _)
    | with_reducible assumption
    | with_reducible (intro _))
theorem j_J_X10_need_24 {w0 : wS} {w : wS} (h_w : jJ 13 14 w0 w) : pp (J_X10_need_24 w) (fun r : wS => jJ 13 14 w0 r) := by
  unfold J_X10_need_24
  repeat' (first
    | with_reducible exact pp_some (by assumption)
    | with_reducible (refine pp_B (pp_put (by assumption) (by decide) (by decide)) ?_; intro _ _)
    | with_reducible (refine pp_B (pp_ast (by assumption)) ?_; intro _ _)
    | with_reducible (refine pp_B (pp_putL (by assumption)) ?_; intro _ _)
    | with_reducible refine pp_if ?_ ?_
    | with_reducible refine pp_xIf ?_
    | with_reducible (refine pp_B pp_any ?_; intro _ _)
    | with_reducible assumption
    | with_reducible (intro _))
theorem j_L_X10_need {w0 : wS} {a1 : Int32} {w : wS} (h_w : jJ 13 14 w0 w) : pp (L_X10_need a1 w) (fun r : wS => jJ 13 14 w0 r) := by
  unfold L_X10_need
  repeat' (first
    | with_reducible exact pp_some (by assumption)
    | with_reducible (refine pp_B2 (j_L_X10_isGood (by assumption)) ?_; intro _ _ _)
    | with_reducible exact j_L_X10_isGood (by assumption)
    | with_reducible (refine pp_B (j_L_X10_wrong (by decide) (by assumption)) ?_; intro _ _)
    | with_reducible exact j_L_X10_wrong (by decide) (by assumption)
    | with_reducible refine j_J_X10_need_24 (by assumption)
    | with_reducible (refine pp_B (j_L_X10_goes (by assumption)) ?_; intro _ _)
    | with_reducible exact j_L_X10_goes (by assumption)
    | with_reducible (refine pp_B (pp_put (by assumption) (by decide) (by decide)) ?_; intro _ _)
    | with_reducible (refine pp_B (pp_ast (by assumption)) ?_; intro _ _)
    | with_reducible (refine pp_B (pp_putL (by assumption)) ?_; intro _ _)
    | with_reducible refine pp_if ?_ ?_
    | with_reducible refine pp_xIf ?_
    | with_reducible (refine pp_B pp_any ?_; intro _ _)
    | with_reducible assumption
    | with_reducible (intro _))
theorem j_J_X10_line_272 {w0 : wS} {w : wS} (h_w : jJ 13 14 w0 w) : pp (J_X10_line_272 w) (fun r : wS => jJ 13 14 w0 r) := by
  unfold J_X10_line_272
  repeat' (first
    | with_reducible exact pp_some (by assumption)
    | with_reducible (refine pp_B2 (j_L_X10_isSign (by assumption)) ?_; intro _ _ _)
    | with_reducible exact j_L_X10_isSign (by assumption)
    | with_reducible (refine pp_B (j_L_X10_need (by assumption)) ?_; intro _ _)
    | with_reducible exact j_L_X10_need (by assumption)
    | with_reducible (refine pp_B (pp_put (by assumption) (by decide) (by decide)) ?_; intro _ _)
    | with_reducible (refine pp_B (pp_ast (by assumption)) ?_; intro _ _)
    | with_reducible (refine pp_B (pp_putL (by assumption)) ?_; intro _ _)
    | with_reducible refine pp_if ?_ ?_
    | with_reducible refine pp_xIf ?_
    | with_reducible (refine pp_B pp_any ?_; intro _ _)
    | with_reducible assumption
    | with_reducible (intro _))
theorem j_J_X10_number_70 {w0 : wS} {x3 : Int32} {w : wS} (h_w : jJ 13 14 w0 w) : pp (J_X10_number_70 x3 w) (fun r : Int32 × wS => jJ 13 14 w0 r.2) := by
  unfold J_X10_number_70
  repeat' (first
    | with_reducible exact pp_some (by assumption)
    | with_reducible (refine pp_B (pp_put (by assumption) (by decide) (by decide)) ?_; intro _ _)
    | with_reducible (refine pp_B (pp_ast (by assumption)) ?_; intro _ _)
    | with_reducible (refine pp_B (pp_putL (by assumption)) ?_; intro _ _)
    | with_reducible refine pp_if ?_ ?_
    | with_reducible refine pp_xIf ?_
    | with_reducible (refine pp_B pp_any ?_; intro _ _)
    | with_reducible assumption
    | with_reducible (intro _))
theorem j_J_X10_number_54 {w0 : wS} {w : wS} (h_w : jJ 13 14 w0 w) : pp (J_X10_number_54 w) (fun r : Int32 × wS => jJ 13 14 w0 r.2) := by
  unfold J_X10_number_54
  repeat' (first
    | with_reducible exact pp_some (by assumption)
    | with_reducible (refine pp_B2 (j_L_X10_isGood (by assumption)) ?_; intro _ _ _)
    | with_reducible exact j_L_X10_isGood (by assumption)
    | with_reducible refine j_J_X10_number_70 (by assumption)
    | with_reducible (refine pp_B (j_L_X10_goes (by assumption)) ?_; intro _ _)
    | with_reducible exact j_L_X10_goes (by assumption)
    | with_reducible (refine pp_B (pp_put (by assumption) (by decide) (by decide)) ?_; intro _ _)
    | with_reducible (refine pp_B (pp_ast (by assumption)) ?_; intro _ _)
    | with_reducible (refine pp_B (pp_putL (by assumption)) ?_; intro _ _)
    | with_reducible refine pp_if ?_ ?_
    | with_reducible refine pp_xIf ?_
    | with_reducible (refine pp_B pp_any ?_; intro _ _)
    | with_reducible assumption
    | with_reducible (intro _))
theorem j_J_X10_number_49 {w0 : wS} {w : wS} (h_w : jJ 13 14 w0 w) : pp (J_X10_number_49 w) (fun r : Int32 × wS => jJ 13 14 w0 r.2) := by
  unfold J_X10_number_49
  repeat' (first
    | with_reducible exact pp_some (by assumption)
    | with_reducible (refine pp_B (j_L_X10_wrong (by decide) (by assumption)) ?_; intro _ _)
    | with_reducible exact j_L_X10_wrong (by decide) (by assumption)
    | with_reducible refine j_J_X10_number_54 (by assumption)
    | with_reducible (refine pp_B (pp_put (by assumption) (by decide) (by decide)) ?_; intro _ _)
    | with_reducible (refine pp_B (pp_ast (by assumption)) ?_; intro _ _)
    | with_reducible (refine pp_B (pp_putL (by assumption)) ?_; intro _ _)
    | with_reducible refine pp_if ?_ ?_
    | with_reducible refine pp_xIf ?_
    | with_reducible (refine pp_B pp_any ?_; intro _ _)
    | with_reducible assumption
    | with_reducible (intro _))
theorem j_L_X10_number {w0 : wS} {a1 : Int32} {a2 : Int32} {w : wS} (h_w : jJ 13 14 w0 w) : pp (L_X10_number a1 a2 w) (fun r : Int32 × wS => jJ 13 14 w0 r.2) := by
  unfold L_X10_number
  repeat' (first
    | with_reducible exact pp_some (by assumption)
    | with_reducible (refine pp_B2 (j_L_X10_isGood (by assumption)) ?_; intro _ _ _)
    | with_reducible exact j_L_X10_isGood (by assumption)
    | with_reducible refine j_J_X10_number_49 (by assumption)
    | with_reducible refine j_J_X10_number_54 (by assumption)
    | with_reducible (refine pp_B (j_L_X10_wrong (by decide) (by assumption)) ?_; intro _ _)
    | with_reducible exact j_L_X10_wrong (by decide) (by assumption)
    | with_reducible (refine pp_B (pp_put (by assumption) (by decide) (by decide)) ?_; intro _ _)
    | with_reducible (refine pp_B (pp_ast (by assumption)) ?_; intro _ _)
    | with_reducible (refine pp_B (pp_putL (by assumption)) ?_; intro _ _)
    | with_reducible refine pp_if ?_ ?_
    | with_reducible refine pp_xIf ?_
    | with_reducible (refine pp_B pp_any ?_; intro _ _)
    | with_reducible assumption
    | with_reducible (intro _))
theorem j_J_X10_readsPerson_70 {w0 : wS} {w : wS} (h_w : jJ 13 14 w0 w) : pp (J_X10_readsPerson_70 w) (fun r : wS => jJ 13 14 w0 r) := by
  unfold J_X10_readsPerson_70
  repeat' (first
    | with_reducible exact pp_some (by assumption)
    | with_reducible (refine pp_B (pp_put (by assumption) (by decide) (by decide)) ?_; intro _ _)
    | with_reducible (refine pp_B (pp_ast (by assumption)) ?_; intro _ _)
    | with_reducible (refine pp_B (pp_putL (by assumption)) ?_; intro _ _)
    | with_reducible refine pp_if ?_ ?_
    | with_reducible refine pp_xIf ?_
    | with_reducible (refine pp_B pp_any ?_; intro _ _)
    | with_reducible assumption
    | with_reducible (intro _))
theorem j_L_X10_readsPerson {w0 : wS} {a1 : Int32} {w : wS} (h_w : jJ 13 14 w0 w) : pp (L_X10_readsPerson a1 w) (fun r : wS => jJ 13 14 w0 r) := by
  unfold L_X10_readsPerson
  repeat' (first
    | with_reducible exact pp_some (by assumption)
    | with_reducible (refine pp_B2 (j_L_X10_number (by assumption)) ?_; intro _ _ _)
    | with_reducible exact j_L_X10_number (by assumption)
    | with_reducible (refine pp_B2 (j_L_X10_isGood (by assumption)) ?_; intro _ _ _)
    | with_reducible exact j_L_X10_isGood (by assumption)
    | with_reducible refine j_J_X10_readsPerson_70 (by assumption)
    | with_reducible (refine pp_B (pp_put (by assumption) (by decide) (by decide)) ?_; intro _ _)
    | with_reducible (refine pp_B (pp_ast (by assumption)) ?_; intro _ _)
    | with_reducible (refine pp_B (pp_putL (by assumption)) ?_; intro _ _)
    | with_reducible refine pp_if ?_ ?_
    | with_reducible refine pp_xIf ?_
    | with_reducible (refine pp_B pp_any ?_; intro _ _)
    | with_reducible assumption
    | with_reducible (intro _))
theorem j_J_X10_line_38 {w0 : wS} {x1 : Int32} {y1 : Int32} {w : wS} (h_w : jJ 13 14 w0 w) : pp (J_X10_line_38 x1 y1 w) (fun r : wS => jJ 13 14 w0 r) := by
  unfold J_X10_line_38
  repeat' (first
    | with_reducible exact pp_some (by assumption)
    | with_reducible (refine pp_B2 (j_L_X10_begins (by assumption)) ?_; intro _ _ _)
    | with_reducible exact j_L_X10_begins (by assumption)
    | with_reducible refine j_J_X10_line_272 (by assumption)
    | with_reducible (refine pp_B (j_L_X10_readsPerson (by assumption)) ?_; intro _ _)
    | with_reducible exact j_L_X10_readsPerson (by assumption)
    | with_reducible (refine pp_B (pp_put (by assumption) (by decide) (by decide)) ?_; intro _ _)
    | with_reducible (refine pp_B (pp_ast (by assumption)) ?_; intro _ _)
    | with_reducible (refine pp_B (pp_putL (by assumption)) ?_; intro _ _)
    | with_reducible refine pp_if ?_ ?_
    | with_reducible refine pp_xIf ?_
    | with_reducible (refine pp_B pp_any ?_; intro _ _)
    | with_reducible assumption
    | with_reducible (intro _))
theorem j_J_X10_line_23 {w0 : wS} {x1 : Int32} {w : wS} (h_w : jJ 13 14 w0 w) : pp (J_X10_line_23 x1 w) (fun r : wS => jJ 13 14 w0 r) := by
  unfold J_X10_line_23
  repeat' (first
    | with_reducible exact pp_some (by assumption)
    | with_reducible refine j_J_X10_line_38 (by assumption)
    | with_reducible (refine pp_B (pp_put (by assumption) (by decide) (by decide)) ?_; intro _ _)
    | with_reducible (refine pp_B (pp_ast (by assumption)) ?_; intro _ _)
    | with_reducible (refine pp_B (pp_putL (by assumption)) ?_; intro _ _)
    | with_reducible refine pp_if ?_ ?_
    | with_reducible refine pp_xIf ?_
    | with_reducible (refine pp_B pp_any ?_; intro _ _)
    | with_reducible assumption
    | with_reducible (intro _))
theorem j_J_X10_line_76 {w0 : wS} {y1 : Int32} {w : wS} (h_w : jJ 13 14 w0 w) : pp (J_X10_line_76 y1 w) (fun r : wS => jJ 13 14 w0 r) := by
  unfold J_X10_line_76
  repeat' (first
    | with_reducible exact pp_some (by assumption)
    | with_reducible (refine pp_B2 (j_L_X10_begins (by assumption)) ?_; intro _ _ _)
    | with_reducible exact j_L_X10_begins (by assumption)
    | with_reducible refine j_J_X10_line_272 (by assumption)
    | with_reducible (refine pp_B2 (j_L_X10_number (by assumption)) ?_; intro _ _ _)
    | with_reducible exact j_L_X10_number (by assumption)
    | with_reducible (refine pp_B2 (j_L_X10_isGood (by assumption)) ?_; intro _ _ _)
    | with_reducible exact j_L_X10_isGood (by assumption)
    | with_reducible (refine pp_B (pp_put (by assumption) (by decide) (by decide)) ?_; intro _ _)
    | with_reducible (refine pp_B (pp_ast (by assumption)) ?_; intro _ _)
    | with_reducible (refine pp_B (pp_putL (by assumption)) ?_; intro _ _)
    | with_reducible refine pp_if ?_ ?_
    | with_reducible refine pp_xIf ?_
    | with_reducible (refine pp_B pp_any ?_; intro _ _)
    | with_reducible assumption
    | with_reducible (intro _))
theorem j_J_X10_line_160 {w0 : wS} {y1 : Int32} {y2 : Int32} {w : wS} (h_w : jJ 13 14 w0 w) : pp (J_X10_line_160 y1 y2 w) (fun r : wS => jJ 13 14 w0 r) := by
  unfold J_X10_line_160
  repeat' (first
    | with_reducible exact pp_some (by assumption)
    | with_reducible (refine pp_B2 (j_L_X10_begins (by assumption)) ?_; intro _ _ _)
    | with_reducible exact j_L_X10_begins (by assumption)
    | with_reducible refine j_J_X10_line_272 (by assumption)
    | with_reducible (refine pp_B2 (j_L_X10_number (by assumption)) ?_; intro _ _ _)
    | with_reducible exact j_L_X10_number (by assumption)
    | with_reducible (refine pp_B (pp_put (by assumption) (by decide) (by decide)) ?_; intro _ _)
    | with_reducible (refine pp_B (pp_ast (by assumption)) ?_; intro _ _)
    | with_reducible (refine pp_B (pp_putL (by assumption)) ?_; intro _ _)
    | with_reducible refine pp_if ?_ ?_
    | with_reducible refine pp_xIf ?_
    | with_reducible (refine pp_B pp_any ?_; intro _ _)
    | with_reducible assumption
    | with_reducible (intro _))
theorem j_J_X10_deeper_61 {w0 : wS} {y1 : Int32} {w : wS} (ha : y1 ≠ 0) (h_w : jJ 13 14 w0 w) : pp (J_X10_deeper_61 y1 w) (fun r : wS => jJ 13 14 w0 r) := by
  unfold J_X10_deeper_61
  exact pp_B (j_L_X10_wrong ha h_w) (fun _ h => pp_some h)
theorem j_J_X10_deeper_56 {w0 : wS} {w : wS} (h_w : jJ 13 14 w0 w) : pp (J_X10_deeper_56 w) (fun r : wS => jJ 13 14 w0 r) := by
  unfold J_X10_deeper_56
  repeat' (first
    | with_reducible exact pp_some (by assumption)
    | with_reducible refine j_J_X10_deeper_61 (by decide) (by assumption)
    | with_reducible (refine pp_B (pp_put (by assumption) (by decide) (by decide)) ?_; intro _ _)
    | with_reducible (refine pp_B (pp_ast (by assumption)) ?_; intro _ _)
    | with_reducible (refine pp_B (pp_putL (by assumption)) ?_; intro _ _)
    | with_reducible refine pp_if ?_ ?_
    | with_reducible refine pp_xIf ?_
    | with_reducible (refine pp_B pp_any ?_; intro _ _)
    | with_reducible assumption
    | with_reducible (intro _))
theorem j_L_X10_deeper {w0 : wS} {w : wS} (h_w : jJ 13 14 w0 w) : pp (L_X10_deeper w) (fun r : wS => jJ 13 14 w0 r) := by
  unfold L_X10_deeper
  repeat' (first
    | with_reducible exact pp_some (by assumption)
    | with_reducible refine j_J_X10_deeper_56 (by assumption)
    | with_reducible (refine pp_B2 (j_L_X10_isSign (by assumption)) ?_; intro _ _ _)
    | with_reducible exact j_L_X10_isSign (by assumption)
    | with_reducible refine j_J_X10_deeper_61 (by decide) (by assumption)
    | with_reducible (refine pp_B (pp_put (by assumption) (by decide) (by decide)) ?_; intro _ _)
    | with_reducible (refine pp_B (pp_ast (by assumption)) ?_; intro _ _)
    | with_reducible (refine pp_B (pp_putL (by assumption)) ?_; intro _ _)
    | with_reducible refine pp_if ?_ ?_
    | with_reducible refine pp_xIf ?_
    | with_reducible (refine pp_B pp_any ?_; intro _ _)
    | with_reducible assumption
    | with_reducible (intro _))
theorem j_L_X10_waitsFor {w0 : wS} {a1 : Int32} {w : wS} (h_w : jJ 13 14 w0 w) : pp (L_X10_waitsFor a1 w) (fun r : wS => jJ 13 14 w0 r) := by
  unfold L_X10_waitsFor
  repeat' (first
    | with_reducible exact pp_some (by assumption)
    | with_reducible (refine pp_B (pp_put (by assumption) (by decide) (by decide)) ?_; intro _ _)
    | with_reducible (refine pp_B (pp_ast (by assumption)) ?_; intro _ _)
    | with_reducible (refine pp_B (pp_putL (by assumption)) ?_; intro _ _)
    | with_reducible refine pp_if ?_ ?_
    | with_reducible refine pp_xIf ?_
    | with_reducible (refine pp_B pp_any ?_; intro _ _)
    | with_reducible assumption
    | with_reducible (intro _))
theorem j_J_X10_operand_50 {w0 : wS} {kh18 : Int32 → Int32 → wS → Option (wS)} {ke75 : Int32 → wS → Option (wS)} {x2 : Int32} {x4 : Int32} {w : wS} (h_kh18 : ∀ (c0 : Int32) (c1 : Int32) (c2 : wS), jJ 13 14 w0 c2 → pp (kh18 c0 c1 c2) (fun r : wS => jJ 13 14 w0 r)) (h_ke75 : ∀ (c0 : Int32) (c1 : wS), jJ 13 14 w0 c1 → pp (ke75 c0 c1) (fun r : wS => jJ 13 14 w0 r)) (h_w : jJ 13 14 w0 w) : pp (J_X10_operand_50 kh18 ke75 x2 x4 w) (fun r : wS => jJ 13 14 w0 r) := by
  unfold J_X10_operand_50
  repeat' (first
    | with_reducible exact pp_some (by assumption)
    | with_reducible exact h_kh18 _ _ _ (by assumption)
    | with_reducible exact h_ke75 _ _ (by assumption)
    | with_reducible (refine pp_B2 (j_L_X10_isGood (by assumption)) ?_; intro _ _ _)
    | with_reducible exact j_L_X10_isGood (by assumption)
    | with_reducible (refine pp_B (j_L_X10_waitsFor (by assumption)) ?_; intro _ _)
    | with_reducible exact j_L_X10_waitsFor (by assumption)
    | with_reducible (refine pp_B (j_L_X10_goes (by assumption)) ?_; intro _ _)
    | with_reducible exact j_L_X10_goes (by assumption)
    | with_reducible (refine pp_B (pp_put (by assumption) (by decide) (by decide)) ?_; intro _ _)
    | with_reducible (refine pp_B (pp_ast (by assumption)) ?_; intro _ _)
    | with_reducible (refine pp_B (pp_putL (by assumption)) ?_; intro _ _)
    | with_reducible refine pp_if ?_ ?_
    | with_reducible refine pp_xIf ?_
    | with_reducible (refine pp_B pp_any ?_; intro _ _)
    | with_reducible assumption
    | with_reducible (intro _))
theorem j_B_X10_operand_18 {w0 : wS} {kh18 : Int32 → Int32 → wS → Option (wS)} {ke75 : Int32 → wS → Option (wS)} {x2 : Int32} {x4 : Int32} {w : wS} (h_kh18 : ∀ (c0 : Int32) (c1 : Int32) (c2 : wS), jJ 13 14 w0 c2 → pp (kh18 c0 c1 c2) (fun r : wS => jJ 13 14 w0 r)) (h_ke75 : ∀ (c0 : Int32) (c1 : wS), jJ 13 14 w0 c1 → pp (ke75 c0 c1) (fun r : wS => jJ 13 14 w0 r)) (h_w : jJ 13 14 w0 w) : pp (B_X10_operand_18 kh18 ke75 x2 x4 w) (fun r : wS => jJ 13 14 w0 r) := by
  unfold B_X10_operand_18
  repeat' (first
    | with_reducible exact pp_some (by assumption)
    | with_reducible exact h_kh18 _ _ _ (by assumption)
    | with_reducible exact h_ke75 _ _ (by assumption)
    | with_reducible (refine pp_B2 (j_L_X10_isGood (by assumption)) ?_; intro _ _ _)
    | with_reducible exact j_L_X10_isGood (by assumption)
    | with_reducible (refine pp_B2 (j_L_X10_knownWord (by assumption)) ?_; intro _ _ _)
    | with_reducible exact j_L_X10_knownWord (by assumption)
    | with_reducible (refine pp_B (j_L_X10_wrong (by decide) (by assumption)) ?_; intro _ _)
    | with_reducible exact j_L_X10_wrong (by decide) (by assumption)
    | with_reducible refine j_J_X10_operand_50 ?_ ?_ (by assumption)
    | with_reducible (refine pp_B (pp_put (by assumption) (by decide) (by decide)) ?_; intro _ _)
    | with_reducible (refine pp_B (pp_ast (by assumption)) ?_; intro _ _)
    | with_reducible (refine pp_B (pp_putL (by assumption)) ?_; intro _ _)
    | with_reducible refine pp_if ?_ ?_
    | with_reducible refine pp_xIf ?_
    | with_reducible (refine pp_B pp_any ?_; intro _ _)
    | with_reducible assumption
    | with_reducible (intro _))
theorem j_P_X10_operand_18 {w0 : wS} {ke75 : Int32 → wS → Option (wS)} {n : Nat} {x2 : Int32} {x4 : Int32} {w : wS} (h_ke75 : ∀ (c0 : Int32) (c1 : wS), jJ 13 14 w0 c1 → pp (ke75 c0 c1) (fun r : wS => jJ 13 14 w0 r)) (h_w : jJ 13 14 w0 w) : pp (P_X10_operand_18 ke75 n x2 x4 w) (fun r : wS => jJ 13 14 w0 r) := by
  unfold P_X10_operand_18
  refine pp_loop (I := fun σ => jJ 13 14 w0 σ.2.2) (fun kk hkk σ hσ => ?_) _ _ h_w
  refine j_B_X10_operand_18 ?_ ?_ hσ
  · exact fun c0 c1 c2 hc => hkk (c0, c1, c2) hc
  · exact h_ke75
theorem j_J_X10_operand_117 {w0 : wS} {kh4 : Int32 → Int32 → wS → Option (wS)} {ke120 : wS → Option (wS)} {x2 : Int32} {x3 : Int32} {w : wS} (h_kh4 : ∀ (c0 : Int32) (c1 : Int32) (c2 : wS), jJ 13 14 w0 c2 → pp (kh4 c0 c1 c2) (fun r : wS => jJ 13 14 w0 r)) (h_ke120 : ∀ (c0 : wS), jJ 13 14 w0 c0 → pp (ke120 c0) (fun r : wS => jJ 13 14 w0 r)) (h_w : jJ 13 14 w0 w) : pp (J_X10_operand_117 kh4 ke120 x2 x3 w) (fun r : wS => jJ 13 14 w0 r) := by
  unfold J_X10_operand_117
  repeat' (first
    | with_reducible exact pp_some (by assumption)
    | with_reducible exact h_kh4 _ _ _ (by assumption)
    | with_reducible exact h_ke120 _ (by assumption)
    | with_reducible (refine pp_B (pp_put (by assumption) (by decide) (by decide)) ?_; intro _ _)
    | with_reducible (refine pp_B (pp_ast (by assumption)) ?_; intro _ _)
    | with_reducible (refine pp_B (pp_putL (by assumption)) ?_; intro _ _)
    | with_reducible refine pp_if ?_ ?_
    | with_reducible refine pp_xIf ?_
    | with_reducible (refine pp_B pp_any ?_; intro _ _)
    | with_reducible assumption
    | with_reducible (intro _))
theorem j_J_X10_operand_96 {w0 : wS} {kh4 : Int32 → Int32 → wS → Option (wS)} {ke120 : wS → Option (wS)} {x2 : Int32} {y0 : Int32} {w : wS} (h_kh4 : ∀ (c0 : Int32) (c1 : Int32) (c2 : wS), jJ 13 14 w0 c2 → pp (kh4 c0 c1 c2) (fun r : wS => jJ 13 14 w0 r)) (h_ke120 : ∀ (c0 : wS), jJ 13 14 w0 c0 → pp (ke120 c0) (fun r : wS => jJ 13 14 w0 r)) (h_w : jJ 13 14 w0 w) : pp (J_X10_operand_96 kh4 ke120 x2 y0 w) (fun r : wS => jJ 13 14 w0 r) := by
  unfold J_X10_operand_96
  repeat' (first
    | with_reducible exact pp_some (by assumption)
    | with_reducible exact h_kh4 _ _ _ (by assumption)
    | with_reducible exact h_ke120 _ (by assumption)
    | with_reducible refine j_J_X10_operand_117 ?_ ?_ (by assumption)
    | with_reducible (refine pp_B (j_L_X10_waitsFor (by assumption)) ?_; intro _ _)
    | with_reducible exact j_L_X10_waitsFor (by assumption)
    | with_reducible (refine pp_B (j_L_X10_goes (by assumption)) ?_; intro _ _)
    | with_reducible exact j_L_X10_goes (by assumption)
    | with_reducible (refine pp_B (j_L_X10_deeper (by assumption)) ?_; intro _ _)
    | with_reducible exact j_L_X10_deeper (by assumption)
    | with_reducible (refine pp_B (pp_put (by assumption) (by decide) (by decide)) ?_; intro _ _)
    | with_reducible (refine pp_B (pp_ast (by assumption)) ?_; intro _ _)
    | with_reducible (refine pp_B (pp_putL (by assumption)) ?_; intro _ _)
    | with_reducible refine pp_if ?_ ?_
    | with_reducible refine pp_xIf ?_
    | with_reducible (refine pp_B pp_any ?_; intro _ _)
    | with_reducible assumption
    | with_reducible (intro _))
theorem j_J_X10_operand_95 {w0 : wS} {kh4 : Int32 → Int32 → wS → Option (wS)} {ke120 : wS → Option (wS)} {x2 : Int32} {w : wS} (h_kh4 : ∀ (c0 : Int32) (c1 : Int32) (c2 : wS), jJ 13 14 w0 c2 → pp (kh4 c0 c1 c2) (fun r : wS => jJ 13 14 w0 r)) (h_ke120 : ∀ (c0 : wS), jJ 13 14 w0 c0 → pp (ke120 c0) (fun r : wS => jJ 13 14 w0 r)) (h_w : jJ 13 14 w0 w) : pp (J_X10_operand_95 kh4 ke120 x2 w) (fun r : wS => jJ 13 14 w0 r) := by
  unfold J_X10_operand_95
  repeat' (first
    | with_reducible exact pp_some (by assumption)
    | with_reducible exact h_kh4 _ _ _ (by assumption)
    | with_reducible exact h_ke120 _ (by assumption)
    | with_reducible refine j_J_X10_operand_96 ?_ ?_ (by assumption)
    | with_reducible (refine pp_B (pp_put (by assumption) (by decide) (by decide)) ?_; intro _ _)
    | with_reducible (refine pp_B (pp_ast (by assumption)) ?_; intro _ _)
    | with_reducible (refine pp_B (pp_putL (by assumption)) ?_; intro _ _)
    | with_reducible refine pp_if ?_ ?_
    | with_reducible refine pp_xIf ?_
    | with_reducible (refine pp_B pp_any ?_; intro _ _)
    | with_reducible assumption
    | with_reducible (intro _))
theorem j_J_X10_operand_75 {w0 : wS} {kh4 : Int32 → Int32 → wS → Option (wS)} {ke120 : wS → Option (wS)} {x2 : Int32} {w : wS} (h_kh4 : ∀ (c0 : Int32) (c1 : Int32) (c2 : wS), jJ 13 14 w0 c2 → pp (kh4 c0 c1 c2) (fun r : wS => jJ 13 14 w0 r)) (h_ke120 : ∀ (c0 : wS), jJ 13 14 w0 c0 → pp (ke120 c0) (fun r : wS => jJ 13 14 w0 r)) (h_w : jJ 13 14 w0 w) : pp (J_X10_operand_75 kh4 ke120 x2 w) (fun r : wS => jJ 13 14 w0 r) := by
  unfold J_X10_operand_75
  repeat' (first
    | with_reducible exact pp_some (by assumption)
    | with_reducible exact h_kh4 _ _ _ (by assumption)
    | with_reducible exact h_ke120 _ (by assumption)
    | with_reducible (refine pp_B2 (j_L_X10_isGood (by assumption)) ?_; intro _ _ _)
    | with_reducible exact j_L_X10_isGood (by assumption)
    | with_reducible refine j_J_X10_operand_95 ?_ ?_ (by assumption)
    | with_reducible (refine pp_B2 (j_L_X10_isSign (by assumption)) ?_; intro _ _ _)
    | with_reducible exact j_L_X10_isSign (by assumption)
    | with_reducible refine j_J_X10_operand_96 ?_ ?_ (by assumption)
    | with_reducible (refine pp_B (pp_put (by assumption) (by decide) (by decide)) ?_; intro _ _)
    | with_reducible (refine pp_B (pp_ast (by assumption)) ?_; intro _ _)
    | with_reducible (refine pp_B (pp_putL (by assumption)) ?_; intro _ _)
    | with_reducible refine pp_if ?_ ?_
    | with_reducible refine pp_xIf ?_
    | with_reducible (refine pp_B pp_any ?_; intro _ _)
    | with_reducible assumption
    | with_reducible (intro _))
theorem j_B_X10_operand_4 {w0 : wS} {kh4 : Int32 → Int32 → wS → Option (wS)} {ke120 : wS → Option (wS)} {x2 : Int32} {x3 : Int32} {w : wS} (h_kh4 : ∀ (c0 : Int32) (c1 : Int32) (c2 : wS), jJ 13 14 w0 c2 → pp (kh4 c0 c1 c2) (fun r : wS => jJ 13 14 w0 r)) (h_ke120 : ∀ (c0 : wS), jJ 13 14 w0 c0 → pp (ke120 c0) (fun r : wS => jJ 13 14 w0 r)) (h_w : jJ 13 14 w0 w) : pp (B_X10_operand_4 kh4 ke120 x2 x3 w) (fun r : wS => jJ 13 14 w0 r) := by
  unfold B_X10_operand_4
  repeat' (first
    | with_reducible exact pp_some (by assumption)
    | with_reducible exact h_kh4 _ _ _ (by assumption)
    | with_reducible exact h_ke120 _ (by assumption)
    | with_reducible (refine pp_B2 (j_L_X10_isGood (by assumption)) ?_; intro _ _ _)
    | with_reducible exact j_L_X10_isGood (by assumption)
    | with_reducible refine j_P_X10_operand_18 ?_ (by assumption)
    | with_reducible refine j_J_X10_operand_75 ?_ ?_ (by assumption)
    | with_reducible (refine pp_B (pp_put (by assumption) (by decide) (by decide)) ?_; intro _ _)
    | with_reducible (refine pp_B (pp_ast (by assumption)) ?_; intro _ _)
    | with_reducible (refine pp_B (pp_putL (by assumption)) ?_; intro _ _)
    | with_reducible refine pp_if ?_ ?_
    | with_reducible refine pp_xIf ?_
    | with_reducible (refine pp_B pp_any ?_; intro _ _)
    | with_reducible assumption
    | with_reducible (intro _))
theorem j_P_X10_operand_4 {w0 : wS} {ke120 : wS → Option (wS)} {n : Nat} {x2 : Int32} {x3 : Int32} {w : wS} (h_ke120 : ∀ (c0 : wS), jJ 13 14 w0 c0 → pp (ke120 c0) (fun r : wS => jJ 13 14 w0 r)) (h_w : jJ 13 14 w0 w) : pp (P_X10_operand_4 ke120 n x2 x3 w) (fun r : wS => jJ 13 14 w0 r) := by
  unfold P_X10_operand_4
  refine pp_loop (I := fun σ => jJ 13 14 w0 σ.2.2) (fun kk hkk σ hσ => ?_) _ _ h_w
  refine j_B_X10_operand_4 ?_ ?_ hσ
  · exact fun c0 c1 c2 hc => hkk (c0, c1, c2) hc
  · exact h_ke120
theorem j_L_X10_puts {w0 : wS} {a1 : Int32} {w : wS} (h_w : jJ 13 14 w0 w) : pp (L_X10_puts a1 w) (fun r : wS => jJ 13 14 w0 r) := by
  unfold L_X10_puts
  repeat' (first
    | with_reducible exact pp_some (by assumption)
    | with_reducible (refine pp_B (pp_put (by assumption) (by decide) (by decide)) ?_; intro _ _)
    | with_reducible (refine pp_B (pp_ast (by assumption)) ?_; intro _ _)
    | with_reducible (refine pp_B (pp_putL (by assumption)) ?_; intro _ _)
    | with_reducible refine pp_if ?_ ?_
    | with_reducible refine pp_xIf ?_
    | with_reducible (refine pp_B pp_any ?_; intro _ _)
    | with_reducible assumption
    | with_reducible (intro _))
theorem j_J_X10_part_104 {w0 : wS} {w : wS} (h_w : jJ 13 14 w0 w) : pp (J_X10_part_104 w) (fun r : wS => jJ 13 14 w0 r) := by
  unfold J_X10_part_104
  repeat' (first
    | with_reducible exact pp_some (by assumption)
    | with_reducible (refine pp_B (pp_put (by assumption) (by decide) (by decide)) ?_; intro _ _)
    | with_reducible (refine pp_B (pp_ast (by assumption)) ?_; intro _ _)
    | with_reducible (refine pp_B (pp_putL (by assumption)) ?_; intro _ _)
    | with_reducible refine pp_if ?_ ?_
    | with_reducible refine pp_xIf ?_
    | with_reducible (refine pp_B pp_any ?_; intro _ _)
    | with_reducible assumption
    | with_reducible (intro _))
theorem j_J_X10_part_93 {w0 : wS} {w : wS} (h_w : jJ 13 14 w0 w) : pp (J_X10_part_93 w) (fun r : wS => jJ 13 14 w0 r) := by
  unfold J_X10_part_93
  repeat' (first
    | with_reducible exact pp_some (by assumption)
    | with_reducible (refine pp_B2 (j_L_X10_isGood (by assumption)) ?_; intro _ _ _)
    | with_reducible exact j_L_X10_isGood (by assumption)
    | with_reducible refine j_J_X10_part_104 (by assumption)
    | with_reducible (refine pp_B (j_L_X10_goes (by assumption)) ?_; intro _ _)
    | with_reducible exact j_L_X10_goes (by assumption)
    | with_reducible (refine pp_B (pp_put (by assumption) (by decide) (by decide)) ?_; intro _ _)
    | with_reducible (refine pp_B (pp_ast (by assumption)) ?_; intro _ _)
    | with_reducible (refine pp_B (pp_putL (by assumption)) ?_; intro _ _)
    | with_reducible refine pp_if ?_ ?_
    | with_reducible refine pp_xIf ?_
    | with_reducible (refine pp_B pp_any ?_; intro _ _)
    | with_reducible assumption
    | with_reducible (intro _))
theorem j_J_X10_part_29 {w0 : wS} {w : wS} (h_w : jJ 13 14 w0 w) : pp (J_X10_part_29 w) (fun r : wS => jJ 13 14 w0 r) := by
  unfold J_X10_part_29
  repeat' (first
    | with_reducible exact pp_some (by assumption)
    | with_reducible (refine pp_B (j_L_X10_puts (by assumption)) ?_; intro _ _)
    | with_reducible exact j_L_X10_puts (by assumption)
    | with_reducible refine j_J_X10_part_93 (by assumption)
    | with_reducible (refine pp_B (pp_put (by assumption) (by decide) (by decide)) ?_; intro _ _)
    | with_reducible (refine pp_B (pp_ast (by assumption)) ?_; intro _ _)
    | with_reducible (refine pp_B (pp_putL (by assumption)) ?_; intro _ _)
    | with_reducible refine pp_if ?_ ?_
    | with_reducible refine pp_xIf ?_
    | with_reducible (refine pp_B pp_any ?_; intro _ _)
    | with_reducible assumption
    | with_reducible (intro _))
theorem j_J_X10_part_75 {w0 : wS} {x1 : Int32} {w : wS} (h_w : jJ 13 14 w0 w) : pp (J_X10_part_75 x1 w) (fun r : wS => jJ 13 14 w0 r) := by
  unfold J_X10_part_75
  repeat' (first
    | with_reducible exact pp_some (by assumption)
    | with_reducible (refine pp_B (j_L_X10_puts (by assumption)) ?_; intro _ _)
    | with_reducible exact j_L_X10_puts (by assumption)
    | with_reducible refine j_J_X10_part_93 (by assumption)
    | with_reducible (refine pp_B (pp_put (by assumption) (by decide) (by decide)) ?_; intro _ _)
    | with_reducible (refine pp_B (pp_ast (by assumption)) ?_; intro _ _)
    | with_reducible (refine pp_B (pp_putL (by assumption)) ?_; intro _ _)
    | with_reducible refine pp_if ?_ ?_
    | with_reducible refine pp_xIf ?_
    | with_reducible (refine pp_B pp_any ?_; intro _ _)
    | with_reducible assumption
    | with_reducible (intro _))
theorem j_J_X10_part_70 {w0 : wS} {x1 : Int32} {w : wS} (h_w : jJ 13 14 w0 w) : pp (J_X10_part_70 x1 w) (fun r : wS => jJ 13 14 w0 r) := by
  unfold J_X10_part_70
  repeat' (first
    | with_reducible exact pp_some (by assumption)
    | with_reducible (refine pp_B (j_L_X10_wrong (by decide) (by assumption)) ?_; intro _ _)
    | with_reducible exact j_L_X10_wrong (by decide) (by assumption)
    | with_reducible refine j_J_X10_part_75 (by assumption)
    | with_reducible (refine pp_B (pp_put (by assumption) (by decide) (by decide)) ?_; intro _ _)
    | with_reducible (refine pp_B (pp_ast (by assumption)) ?_; intro _ _)
    | with_reducible (refine pp_B (pp_putL (by assumption)) ?_; intro _ _)
    | with_reducible refine pp_if ?_ ?_
    | with_reducible refine pp_xIf ?_
    | with_reducible (refine pp_B pp_any ?_; intro _ _)
    | with_reducible assumption
    | with_reducible (intro _))
theorem j_L_X10_part {w0 : wS} {w : wS} (h_w : jJ 13 14 w0 w) : pp (L_X10_part w) (fun r : wS => jJ 13 14 w0 r) := by
  unfold L_X10_part
  repeat' (first
    | with_reducible exact pp_some (by assumption)
    | with_reducible (refine pp_B2 (j_L_X10_isGood (by assumption)) ?_; intro _ _ _)
    | with_reducible exact j_L_X10_isGood (by assumption)
    | with_reducible refine j_J_X10_part_29 (by assumption)
    | with_reducible (refine pp_B (j_L_X10_wrong (by decide) (by assumption)) ?_; intro _ _)
    | with_reducible exact j_L_X10_wrong (by decide) (by assumption)
    | with_reducible (refine pp_B2 (j_L_X10_knownWord (by assumption)) ?_; intro _ _ _)
    | with_reducible exact j_L_X10_knownWord (by assumption)
    | with_reducible refine j_J_X10_part_70 (by assumption)
    | with_reducible refine j_J_X10_part_75 (by assumption)
    | with_reducible refine j_J_X10_part_93 (by assumption)
    | with_reducible (refine pp_B (pp_put (by assumption) (by decide) (by decide)) ?_; intro _ _)
    | with_reducible (refine pp_B (pp_ast (by assumption)) ?_; intro _ _)
    | with_reducible (refine pp_B (pp_putL (by assumption)) ?_; intro _ _)
    | with_reducible refine pp_if ?_ ?_
    | with_reducible refine pp_xIf ?_
    | with_reducible (refine pp_B pp_any ?_; intro _ _)
    | with_reducible assumption
    | with_reducible (intro _))
theorem j_J_X10_operand_120 {w0 : wS} {w : wS} (h_w : jJ 13 14 w0 w) : pp (J_X10_operand_120 w) (fun r : wS => jJ 13 14 w0 r) := by
  unfold J_X10_operand_120
  repeat' (first
    | with_reducible exact pp_some (by assumption)
    | with_reducible (refine pp_B (j_L_X10_part (by assumption)) ?_; intro _ _)
    | with_reducible exact j_L_X10_part (by assumption)
    | with_reducible (refine pp_B (pp_put (by assumption) (by decide) (by decide)) ?_; intro _ _)
    | with_reducible (refine pp_B (pp_ast (by assumption)) ?_; intro _ _)
    | with_reducible (refine pp_B (pp_putL (by assumption)) ?_; intro _ _)
    | with_reducible refine pp_if ?_ ?_
    | with_reducible refine pp_xIf ?_
    | with_reducible (refine pp_B pp_any ?_; intro _ _)
    | with_reducible assumption
    | with_reducible (intro _))
theorem j_L_X10_operand {w0 : wS} {a1 : Int32} {w : wS} (h_w : jJ 13 14 w0 w) : pp (L_X10_operand a1 w) (fun r : wS => jJ 13 14 w0 r) := by
  unfold L_X10_operand
  repeat' (first
    | with_reducible exact pp_some (by assumption)
    | with_reducible refine j_P_X10_operand_4 ?_ (by assumption)
    | with_reducible refine j_J_X10_operand_120 (by assumption)
    | with_reducible (refine pp_B (pp_put (by assumption) (by decide) (by decide)) ?_; intro _ _)
    | with_reducible (refine pp_B (pp_ast (by assumption)) ?_; intro _ _)
    | with_reducible (refine pp_B (pp_putL (by assumption)) ?_; intro _ _)
    | with_reducible refine pp_if ?_ ?_
    | with_reducible refine pp_xIf ?_
    | with_reducible (refine pp_B pp_any ?_; intro _ _)
    | with_reducible assumption
    | with_reducible (intro _))
theorem j_B_X10_drops_0 {w0 : wS} {kh0 : Int32 → wS → Option (wS)} {ke68 : wS → Option (wS)} {x1 : Int32} {w : wS} (h_kh0 : ∀ (c0 : Int32) (c1 : wS), jJ 13 14 w0 c1 → pp (kh0 c0 c1) (fun r : wS => jJ 13 14 w0 r)) (h_ke68 : ∀ (c0 : wS), jJ 13 14 w0 c0 → pp (ke68 c0) (fun r : wS => jJ 13 14 w0 r)) (h_w : jJ 13 14 w0 w) : pp (B_X10_drops_0 kh0 ke68 x1 w) (fun r : wS => jJ 13 14 w0 r) := by
  unfold B_X10_drops_0
  repeat' (first
    | with_reducible exact pp_some (by assumption)
    | with_reducible exact h_kh0 _ _ (by assumption)
    | with_reducible exact h_ke68 _ (by assumption)
    | with_reducible (refine pp_B (j_L_X10_puts (by assumption)) ?_; intro _ _)
    | with_reducible exact j_L_X10_puts (by assumption)
    | with_reducible (refine pp_B (pp_put (by assumption) (by decide) (by decide)) ?_; intro _ _)
    | with_reducible (refine pp_B (pp_ast (by assumption)) ?_; intro _ _)
    | with_reducible (refine pp_B (pp_putL (by assumption)) ?_; intro _ _)
    | with_reducible refine pp_if ?_ ?_
    | with_reducible refine pp_xIf ?_
    | with_reducible (refine pp_B pp_any ?_; intro _ _)
    | with_reducible assumption
    | with_reducible (intro _))
theorem j_P_X10_drops_0 {w0 : wS} {ke68 : wS → Option (wS)} {n : Nat} {x1 : Int32} {w : wS} (h_ke68 : ∀ (c0 : wS), jJ 13 14 w0 c0 → pp (ke68 c0) (fun r : wS => jJ 13 14 w0 r)) (h_w : jJ 13 14 w0 w) : pp (P_X10_drops_0 ke68 n x1 w) (fun r : wS => jJ 13 14 w0 r) := by
  unfold P_X10_drops_0
  refine pp_loop (I := fun σ => jJ 13 14 w0 σ.2) (fun kk hkk σ hσ => ?_) _ _ h_w
  refine j_B_X10_drops_0 ?_ ?_ hσ
  · exact fun c0 c1 hc => hkk (c0, c1) hc
  · exact h_ke68
theorem j_J_X10_drops_68 {w0 : wS} {w : wS} (h_w : jJ 13 14 w0 w) : pp (J_X10_drops_68 w) (fun r : wS => jJ 13 14 w0 r) := by
  unfold J_X10_drops_68
  repeat' (first
    | with_reducible exact pp_some (by assumption)
    | with_reducible (refine pp_B (pp_put (by assumption) (by decide) (by decide)) ?_; intro _ _)
    | with_reducible (refine pp_B (pp_ast (by assumption)) ?_; intro _ _)
    | with_reducible (refine pp_B (pp_putL (by assumption)) ?_; intro _ _)
    | with_reducible refine pp_if ?_ ?_
    | with_reducible refine pp_xIf ?_
    | with_reducible (refine pp_B pp_any ?_; intro _ _)
    | with_reducible assumption
    | with_reducible (intro _))
theorem j_L_X10_drops {w0 : wS} {a1 : Int32} {w : wS} (h_w : jJ 13 14 w0 w) : pp (L_X10_drops a1 w) (fun r : wS => jJ 13 14 w0 r) := by
  unfold L_X10_drops
  repeat' (first
    | with_reducible exact pp_some (by assumption)
    | with_reducible refine j_P_X10_drops_0 ?_ (by assumption)
    | with_reducible refine j_J_X10_drops_68 (by assumption)
    | with_reducible (refine pp_B (pp_put (by assumption) (by decide) (by decide)) ?_; intro _ _)
    | with_reducible (refine pp_B (pp_ast (by assumption)) ?_; intro _ _)
    | with_reducible (refine pp_B (pp_putL (by assumption)) ?_; intro _ _)
    | with_reducible refine pp_if ?_ ?_
    | with_reducible refine pp_xIf ?_
    | with_reducible (refine pp_B pp_any ?_; intro _ _)
    | with_reducible assumption
    | with_reducible (intro _))
theorem j_J_X10_expression_327 {w0 : wS} {kh34 : Int32 → wS → Option (wS)} {ke330 : wS → Option (wS)} {x2 : Int32} {w : wS} (h_kh34 : ∀ (c0 : Int32) (c1 : wS), jJ 13 14 w0 c1 → pp (kh34 c0 c1) (fun r : wS => jJ 13 14 w0 r)) (h_ke330 : ∀ (c0 : wS), jJ 13 14 w0 c0 → pp (ke330 c0) (fun r : wS => jJ 13 14 w0 r)) (h_w : jJ 13 14 w0 w) : pp (J_X10_expression_327 kh34 ke330 x2 w) (fun r : wS => jJ 13 14 w0 r) := by
  unfold J_X10_expression_327
  repeat' (first
    | with_reducible exact pp_some (by assumption)
    | with_reducible exact h_kh34 _ _ (by assumption)
    | with_reducible exact h_ke330 _ (by assumption)
    | with_reducible (refine pp_B (pp_put (by assumption) (by decide) (by decide)) ?_; intro _ _)
    | with_reducible (refine pp_B (pp_ast (by assumption)) ?_; intro _ _)
    | with_reducible (refine pp_B (pp_putL (by assumption)) ?_; intro _ _)
    | with_reducible refine pp_if ?_ ?_
    | with_reducible refine pp_xIf ?_
    | with_reducible (refine pp_B pp_any ?_; intro _ _)
    | with_reducible assumption
    | with_reducible (intro _))
theorem j_J_X10_expression_89 {w0 : wS} {kh34 : Int32 → wS → Option (wS)} {ke330 : wS → Option (wS)} {x2 : Int32} {y1 : Int32} {w : wS} (h_kh34 : ∀ (c0 : Int32) (c1 : wS), jJ 13 14 w0 c1 → pp (kh34 c0 c1) (fun r : wS => jJ 13 14 w0 r)) (h_ke330 : ∀ (c0 : wS), jJ 13 14 w0 c0 → pp (ke330 c0) (fun r : wS => jJ 13 14 w0 r)) (h_w : jJ 13 14 w0 w) : pp (J_X10_expression_89 kh34 ke330 x2 y1 w) (fun r : wS => jJ 13 14 w0 r) := by
  unfold J_X10_expression_89
  repeat' (first
    | with_reducible exact pp_some (by assumption)
    | with_reducible exact h_kh34 _ _ (by assumption)
    | with_reducible exact h_ke330 _ (by assumption)
    | with_reducible (refine pp_B (j_L_X10_waitsFor (by assumption)) ?_; intro _ _)
    | with_reducible exact j_L_X10_waitsFor (by assumption)
    | with_reducible (refine pp_B (j_L_X10_goes (by assumption)) ?_; intro _ _)
    | with_reducible exact j_L_X10_goes (by assumption)
    | with_reducible (refine pp_B (j_L_X10_operand (by assumption)) ?_; intro _ _)
    | with_reducible exact j_L_X10_operand (by assumption)
    | with_reducible refine j_J_X10_expression_327 ?_ ?_ (by assumption)
    | with_reducible (refine pp_B (pp_put (by assumption) (by decide) (by decide)) ?_; intro _ _)
    | with_reducible (refine pp_B (pp_ast (by assumption)) ?_; intro _ _)
    | with_reducible (refine pp_B (pp_putL (by assumption)) ?_; intro _ _)
    | with_reducible refine pp_if ?_ ?_
    | with_reducible refine pp_xIf ?_
    | with_reducible (refine pp_B pp_any ?_; intro _ _)
    | with_reducible assumption
    | with_reducible (intro _))
theorem j_J_X10_expression_74 {w0 : wS} {kh34 : Int32 → wS → Option (wS)} {ke330 : wS → Option (wS)} {x2 : Int32} {x3 : Int32} {y1 : Int32} {w : wS} (h_kh34 : ∀ (c0 : Int32) (c1 : wS), jJ 13 14 w0 c1 → pp (kh34 c0 c1) (fun r : wS => jJ 13 14 w0 r)) (h_ke330 : ∀ (c0 : wS), jJ 13 14 w0 c0 → pp (ke330 c0) (fun r : wS => jJ 13 14 w0 r)) (h_w : jJ 13 14 w0 w) : pp (J_X10_expression_74 kh34 ke330 x2 x3 y1 w) (fun r : wS => jJ 13 14 w0 r) := by
  unfold J_X10_expression_74
  repeat' (first
    | with_reducible exact pp_some (by assumption)
    | with_reducible exact h_kh34 _ _ (by assumption)
    | with_reducible exact h_ke330 _ (by assumption)
    | with_reducible (refine pp_B (j_L_X10_drops (by assumption)) ?_; intro _ _)
    | with_reducible exact j_L_X10_drops (by assumption)
    | with_reducible refine j_J_X10_expression_89 ?_ ?_ (by assumption)
    | with_reducible (refine pp_B (pp_put (by assumption) (by decide) (by decide)) ?_; intro _ _)
    | with_reducible (refine pp_B (pp_ast (by assumption)) ?_; intro _ _)
    | with_reducible (refine pp_B (pp_putL (by assumption)) ?_; intro _ _)
    | with_reducible refine pp_if ?_ ?_
    | with_reducible refine pp_xIf ?_
    | with_reducible (refine pp_B pp_any ?_; intro _ _)
    | with_reducible assumption
    | with_reducible (intro _))
theorem j_J_X10_expression_62 {w0 : wS} {kh34 : Int32 → wS → Option (wS)} {ke330 : wS → Option (wS)} {x2 : Int32} {x3 : Int32} {w : wS} (h_kh34 : ∀ (c0 : Int32) (c1 : wS), jJ 13 14 w0 c1 → pp (kh34 c0 c1) (fun r : wS => jJ 13 14 w0 r)) (h_ke330 : ∀ (c0 : wS), jJ 13 14 w0 c0 → pp (ke330 c0) (fun r : wS => jJ 13 14 w0 r)) (h_w : jJ 13 14 w0 w) : pp (J_X10_expression_62 kh34 ke330 x2 x3 w) (fun r : wS => jJ 13 14 w0 r) := by
  unfold J_X10_expression_62
  repeat' (first
    | with_reducible exact pp_some (by assumption)
    | with_reducible exact h_kh34 _ _ (by assumption)
    | with_reducible exact h_ke330 _ (by assumption)
    | with_reducible refine j_J_X10_expression_74 ?_ ?_ (by assumption)
    | with_reducible (refine pp_B (pp_put (by assumption) (by decide) (by decide)) ?_; intro _ _)
    | with_reducible (refine pp_B (pp_ast (by assumption)) ?_; intro _ _)
    | with_reducible (refine pp_B (pp_putL (by assumption)) ?_; intro _ _)
    | with_reducible refine pp_if ?_ ?_
    | with_reducible refine pp_xIf ?_
    | with_reducible (refine pp_B pp_any ?_; intro _ _)
    | with_reducible assumption
    | with_reducible (intro _))
theorem j_J_X10_expression_325 {w0 : wS} {kh34 : Int32 → wS → Option (wS)} {ke330 : wS → Option (wS)} {w : wS} (h_kh34 : ∀ (c0 : Int32) (c1 : wS), jJ 13 14 w0 c1 → pp (kh34 c0 c1) (fun r : wS => jJ 13 14 w0 r)) (h_ke330 : ∀ (c0 : wS), jJ 13 14 w0 c0 → pp (ke330 c0) (fun r : wS => jJ 13 14 w0 r)) (h_w : jJ 13 14 w0 w) : pp (J_X10_expression_325 kh34 ke330 w) (fun r : wS => jJ 13 14 w0 r) := by
  unfold J_X10_expression_325
  repeat' (first
    | with_reducible exact pp_some (by assumption)
    | with_reducible exact h_kh34 _ _ (by assumption)
    | with_reducible exact h_ke330 _ (by assumption)
    | with_reducible refine j_J_X10_expression_327 ?_ ?_ (by assumption)
    | with_reducible (refine pp_B (pp_put (by assumption) (by decide) (by decide)) ?_; intro _ _)
    | with_reducible (refine pp_B (pp_ast (by assumption)) ?_; intro _ _)
    | with_reducible (refine pp_B (pp_putL (by assumption)) ?_; intro _ _)
    | with_reducible refine pp_if ?_ ?_
    | with_reducible refine pp_xIf ?_
    | with_reducible (refine pp_B pp_any ?_; intro _ _)
    | with_reducible assumption
    | with_reducible (intro _))
theorem j_B_X10_isOpened_7 {w0 : wS} {kh7 : Int32 → wS → Option (Int32 × wS)} {ke29 : Int32 → wS → Option (Int32 × wS)} {x1 : Int32} {w : wS} (h_kh7 : ∀ (c0 : Int32) (c1 : wS), jJ 13 14 w0 c1 → pp (kh7 c0 c1) (fun r : Int32 × wS => jJ 13 14 w0 r.2)) (h_ke29 : ∀ (c0 : Int32) (c1 : wS), jJ 13 14 w0 c1 → pp (ke29 c0 c1) (fun r : Int32 × wS => jJ 13 14 w0 r.2)) (h_w : jJ 13 14 w0 w) : pp (B_X10_isOpened_7 kh7 ke29 x1 w) (fun r : Int32 × wS => jJ 13 14 w0 r.2) := by
  unfold B_X10_isOpened_7
  repeat' (first
    | with_reducible exact pp_some (by assumption)
    | with_reducible exact h_kh7 _ _ (by assumption)
    | with_reducible exact h_ke29 _ _ (by assumption)
    | with_reducible (refine pp_B (pp_put (by assumption) (by decide) (by decide)) ?_; intro _ _)
    | with_reducible (refine pp_B (pp_ast (by assumption)) ?_; intro _ _)
    | with_reducible (refine pp_B (pp_putL (by assumption)) ?_; intro _ _)
    | with_reducible refine pp_if ?_ ?_
    | with_reducible refine pp_xIf ?_
    | with_reducible (refine pp_B pp_any ?_; intro _ _)
    | with_reducible assumption
    | with_reducible (intro _))
theorem j_P_X10_isOpened_7 {w0 : wS} {ke29 : Int32 → wS → Option (Int32 × wS)} {n : Nat} {x1 : Int32} {w : wS} (h_ke29 : ∀ (c0 : Int32) (c1 : wS), jJ 13 14 w0 c1 → pp (ke29 c0 c1) (fun r : Int32 × wS => jJ 13 14 w0 r.2)) (h_w : jJ 13 14 w0 w) : pp (P_X10_isOpened_7 ke29 n x1 w) (fun r : Int32 × wS => jJ 13 14 w0 r.2) := by
  unfold P_X10_isOpened_7
  refine pp_loop (I := fun σ => jJ 13 14 w0 σ.2) (fun kk hkk σ hσ => ?_) _ _ h_w
  refine j_B_X10_isOpened_7 ?_ ?_ hσ
  · exact fun c0 c1 hc => hkk (c0, c1) hc
  · exact h_ke29
theorem j_J_X10_isOpened_38 {w0 : wS} {y0 : Int32} {w : wS} (h_w : jJ 13 14 w0 w) : pp (J_X10_isOpened_38 y0 w) (fun r : Int32 × wS => jJ 13 14 w0 r.2) := by
  unfold J_X10_isOpened_38
  repeat' (first
    | with_reducible exact pp_some (by assumption)
    | with_reducible (refine pp_B (pp_put (by assumption) (by decide) (by decide)) ?_; intro _ _)
    | with_reducible (refine pp_B (pp_ast (by assumption)) ?_; intro _ _)
    | with_reducible (refine pp_B (pp_putL (by assumption)) ?_; intro _ _)
    | with_reducible refine pp_if ?_ ?_
    | with_reducible refine pp_xIf ?_
    | with_reducible (refine pp_B pp_any ?_; intro _ _)
    | with_reducible assumption
    | with_reducible (intro _))
theorem j_J_X10_isOpened_29 {w0 : wS} {x1 : Int32} {w : wS} (h_w : jJ 13 14 w0 w) : pp (J_X10_isOpened_29 x1 w) (fun r : Int32 × wS => jJ 13 14 w0 r.2) := by
  unfold J_X10_isOpened_29
  repeat' (first
    | with_reducible exact pp_some (by assumption)
    | with_reducible refine j_J_X10_isOpened_38 (by assumption)
    | with_reducible (refine pp_B (pp_put (by assumption) (by decide) (by decide)) ?_; intro _ _)
    | with_reducible (refine pp_B (pp_ast (by assumption)) ?_; intro _ _)
    | with_reducible (refine pp_B (pp_putL (by assumption)) ?_; intro _ _)
    | with_reducible refine pp_if ?_ ?_
    | with_reducible refine pp_xIf ?_
    | with_reducible (refine pp_B pp_any ?_; intro _ _)
    | with_reducible assumption
    | with_reducible (intro _))
theorem j_L_X10_isOpened {w0 : wS} {w : wS} (h_w : jJ 13 14 w0 w) : pp (L_X10_isOpened w) (fun r : Int32 × wS => jJ 13 14 w0 r.2) := by
  unfold L_X10_isOpened
  repeat' (first
    | with_reducible exact pp_some (by assumption)
    | with_reducible refine j_P_X10_isOpened_7 ?_ (by assumption)
    | with_reducible refine j_J_X10_isOpened_29 (by assumption)
    | with_reducible (refine pp_B (pp_put (by assumption) (by decide) (by decide)) ?_; intro _ _)
    | with_reducible (refine pp_B (pp_ast (by assumption)) ?_; intro _ _)
    | with_reducible (refine pp_B (pp_putL (by assumption)) ?_; intro _ _)
    | with_reducible refine pp_if ?_ ?_
    | with_reducible refine pp_xIf ?_
    | with_reducible (refine pp_B pp_any ?_; intro _ _)
    | with_reducible assumption
    | with_reducible (intro _))
theorem j_L_X10_closes {w0 : wS} {w : wS} (h_w : jJ 13 14 w0 w) : pp (L_X10_closes w) (fun r : wS => jJ 13 14 w0 r) := by
  unfold L_X10_closes
  repeat' (first
    | with_reducible exact pp_some (by assumption)
    | with_reducible (refine pp_B (j_L_X10_drops (by assumption)) ?_; intro _ _)
    | with_reducible exact j_L_X10_drops (by assumption)
    | with_reducible (refine pp_B (j_L_X10_goes (by assumption)) ?_; intro _ _)
    | with_reducible exact j_L_X10_goes (by assumption)
    | with_reducible (refine pp_B (pp_put (by assumption) (by decide) (by decide)) ?_; intro _ _)
    | with_reducible (refine pp_B (pp_ast (by assumption)) ?_; intro _ _)
    | with_reducible (refine pp_B (pp_putL (by assumption)) ?_; intro _ _)
    | with_reducible refine pp_if ?_ ?_
    | with_reducible refine pp_xIf ?_
    | with_reducible (refine pp_B pp_any ?_; intro _ _)
    | with_reducible assumption
    | with_reducible (intro _))
theorem j_J_X10_expression_287 {w0 : wS} {kh34 : Int32 → wS → Option (wS)} {ke330 : wS → Option (wS)} {x2 : Int32} {y1 : Int32} {w : wS} (h_kh34 : ∀ (c0 : Int32) (c1 : wS), jJ 13 14 w0 c1 → pp (kh34 c0 c1) (fun r : wS => jJ 13 14 w0 r)) (h_ke330 : ∀ (c0 : wS), jJ 13 14 w0 c0 → pp (ke330 c0) (fun r : wS => jJ 13 14 w0 r)) (h_w : jJ 13 14 w0 w) : pp (J_X10_expression_287 kh34 ke330 x2 y1 w) (fun r : wS => jJ 13 14 w0 r) := by
  unfold J_X10_expression_287
  repeat' (first
    | with_reducible exact pp_some (by assumption)
    | with_reducible exact h_kh34 _ _ (by assumption)
    | with_reducible exact h_ke330 _ (by assumption)
    | with_reducible (refine pp_B (j_L_X10_waitsFor (by assumption)) ?_; intro _ _)
    | with_reducible exact j_L_X10_waitsFor (by assumption)
    | with_reducible (refine pp_B (j_L_X10_goes (by assumption)) ?_; intro _ _)
    | with_reducible exact j_L_X10_goes (by assumption)
    | with_reducible (refine pp_B (j_L_X10_operand (by assumption)) ?_; intro _ _)
    | with_reducible exact j_L_X10_operand (by assumption)
    | with_reducible refine j_J_X10_expression_327 ?_ ?_ (by assumption)
    | with_reducible (refine pp_B (pp_put (by assumption) (by decide) (by decide)) ?_; intro _ _)
    | with_reducible (refine pp_B (pp_ast (by assumption)) ?_; intro _ _)
    | with_reducible (refine pp_B (pp_putL (by assumption)) ?_; intro _ _)
    | with_reducible refine pp_if ?_ ?_
    | with_reducible refine pp_xIf ?_
    | with_reducible (refine pp_B pp_any ?_; intro _ _)
    | with_reducible assumption
    | with_reducible (intro _))
theorem j_J_X10_expression_264 {w0 : wS} {kh34 : Int32 → wS → Option (wS)} {ke330 : wS → Option (wS)} {x2 : Int32} {w : wS} (h_kh34 : ∀ (c0 : Int32) (c1 : wS), jJ 13 14 w0 c1 → pp (kh34 c0 c1) (fun r : wS => jJ 13 14 w0 r)) (h_ke330 : ∀ (c0 : wS), jJ 13 14 w0 c0 → pp (ke330 c0) (fun r : wS => jJ 13 14 w0 r)) (h_w : jJ 13 14 w0 w) : pp (J_X10_expression_264 kh34 ke330 x2 w) (fun r : wS => jJ 13 14 w0 r) := by
  unfold J_X10_expression_264
  repeat' (first
    | with_reducible exact pp_some (by assumption)
    | with_reducible exact h_kh34 _ _ (by assumption)
    | with_reducible exact h_ke330 _ (by assumption)
    | with_reducible (refine pp_B (j_L_X10_drops (by assumption)) ?_; intro _ _)
    | with_reducible exact j_L_X10_drops (by assumption)
    | with_reducible (refine pp_B2 (j_L_X10_isSign (by assumption)) ?_; intro _ _ _)
    | with_reducible exact j_L_X10_isSign (by assumption)
    | with_reducible refine j_J_X10_expression_287 ?_ ?_ (by assumption)
    | with_reducible (refine pp_B (pp_put (by assumption) (by decide) (by decide)) ?_; intro _ _)
    | with_reducible (refine pp_B (pp_ast (by assumption)) ?_; intro _ _)
    | with_reducible (refine pp_B (pp_putL (by assumption)) ?_; intro _ _)
    | with_reducible refine pp_if ?_ ?_
    | with_reducible refine pp_xIf ?_
    | with_reducible (refine pp_B pp_any ?_; intro _ _)
    | with_reducible assumption
    | with_reducible (intro _))
theorem j_J_X10_expression_231 {w0 : wS} {kh34 : Int32 → wS → Option (wS)} {ke330 : wS → Option (wS)} {x2 : Int32} {y1 : Int32} {w : wS} (h_kh34 : ∀ (c0 : Int32) (c1 : wS), jJ 13 14 w0 c1 → pp (kh34 c0 c1) (fun r : wS => jJ 13 14 w0 r)) (h_ke330 : ∀ (c0 : wS), jJ 13 14 w0 c0 → pp (ke330 c0) (fun r : wS => jJ 13 14 w0 r)) (h_w : jJ 13 14 w0 w) : pp (J_X10_expression_231 kh34 ke330 x2 y1 w) (fun r : wS => jJ 13 14 w0 r) := by
  unfold J_X10_expression_231
  repeat' (first
    | with_reducible exact pp_some (by assumption)
    | with_reducible exact h_kh34 _ _ (by assumption)
    | with_reducible exact h_ke330 _ (by assumption)
    | with_reducible (refine pp_B (j_L_X10_waitsFor (by assumption)) ?_; intro _ _)
    | with_reducible exact j_L_X10_waitsFor (by assumption)
    | with_reducible (refine pp_B (j_L_X10_goes (by assumption)) ?_; intro _ _)
    | with_reducible exact j_L_X10_goes (by assumption)
    | with_reducible (refine pp_B (j_L_X10_operand (by assumption)) ?_; intro _ _)
    | with_reducible exact j_L_X10_operand (by assumption)
    | with_reducible refine j_J_X10_expression_327 ?_ ?_ (by assumption)
    | with_reducible (refine pp_B (pp_put (by assumption) (by decide) (by decide)) ?_; intro _ _)
    | with_reducible (refine pp_B (pp_ast (by assumption)) ?_; intro _ _)
    | with_reducible (refine pp_B (pp_putL (by assumption)) ?_; intro _ _)
    | with_reducible refine pp_if ?_ ?_
    | with_reducible refine pp_xIf ?_
    | with_reducible (refine pp_B pp_any ?_; intro _ _)
    | with_reducible assumption
    | with_reducible (intro _))
theorem j_J_X10_expression_209 {w0 : wS} {kh34 : Int32 → wS → Option (wS)} {ke330 : wS → Option (wS)} {x2 : Int32} {w : wS} (h_kh34 : ∀ (c0 : Int32) (c1 : wS), jJ 13 14 w0 c1 → pp (kh34 c0 c1) (fun r : wS => jJ 13 14 w0 r)) (h_ke330 : ∀ (c0 : wS), jJ 13 14 w0 c0 → pp (ke330 c0) (fun r : wS => jJ 13 14 w0 r)) (h_w : jJ 13 14 w0 w) : pp (J_X10_expression_209 kh34 ke330 x2 w) (fun r : wS => jJ 13 14 w0 r) := by
  unfold J_X10_expression_209
  repeat' (first
    | with_reducible exact pp_some (by assumption)
    | with_reducible exact h_kh34 _ _ (by assumption)
    | with_reducible exact h_ke330 _ (by assumption)
    | with_reducible (refine pp_B (j_L_X10_drops (by assumption)) ?_; intro _ _)
    | with_reducible exact j_L_X10_drops (by assumption)
    | with_reducible (refine pp_B2 (j_L_X10_isSign (by assumption)) ?_; intro _ _ _)
    | with_reducible exact j_L_X10_isSign (by assumption)
    | with_reducible refine j_J_X10_expression_231 ?_ ?_ (by assumption)
    | with_reducible (refine pp_B (pp_put (by assumption) (by decide) (by decide)) ?_; intro _ _)
    | with_reducible (refine pp_B (pp_ast (by assumption)) ?_; intro _ _)
    | with_reducible (refine pp_B (pp_putL (by assumption)) ?_; intro _ _)
    | with_reducible refine pp_if ?_ ?_
    | with_reducible refine pp_xIf ?_
    | with_reducible (refine pp_B pp_any ?_; intro _ _)
    | with_reducible assumption
    | with_reducible (intro _))
theorem j_J_X10_expression_191 {w0 : wS} {kh34 : Int32 → wS → Option (wS)} {ke330 : wS → Option (wS)} {x2 : Int32} {w : wS} (h_kh34 : ∀ (c0 : Int32) (c1 : wS), jJ 13 14 w0 c1 → pp (kh34 c0 c1) (fun r : wS => jJ 13 14 w0 r)) (h_ke330 : ∀ (c0 : wS), jJ 13 14 w0 c0 → pp (ke330 c0) (fun r : wS => jJ 13 14 w0 r)) (h_w : jJ 13 14 w0 w) : pp (J_X10_expression_191 kh34 ke330 x2 w) (fun r : wS => jJ 13 14 w0 r) := by
  unfold J_X10_expression_191
  repeat' (first
    | with_reducible exact pp_some (by assumption)
    | with_reducible exact h_kh34 _ _ (by assumption)
    | with_reducible exact h_ke330 _ (by assumption)
    | with_reducible (refine pp_B2 (j_L_X10_isSign (by assumption)) ?_; intro _ _ _)
    | with_reducible exact j_L_X10_isSign (by assumption)
    | with_reducible refine j_J_X10_expression_325 ?_ ?_ (by assumption)
    | with_reducible (refine pp_B2 (j_L_X10_isOpened (by assumption)) ?_; intro _ _ _)
    | with_reducible exact j_L_X10_isOpened (by assumption)
    | with_reducible (refine pp_B (j_L_X10_closes (by assumption)) ?_; intro _ _)
    | with_reducible exact j_L_X10_closes (by assumption)
    | with_reducible refine j_J_X10_expression_327 ?_ ?_ (by assumption)
    | with_reducible refine j_J_X10_expression_264 ?_ ?_ (by assumption)
    | with_reducible refine j_J_X10_expression_209 ?_ ?_ (by assumption)
    | with_reducible (refine pp_B (pp_put (by assumption) (by decide) (by decide)) ?_; intro _ _)
    | with_reducible (refine pp_B (pp_ast (by assumption)) ?_; intro _ _)
    | with_reducible (refine pp_B (pp_putL (by assumption)) ?_; intro _ _)
    | with_reducible refine pp_if ?_ ?_
    | with_reducible refine pp_xIf ?_
    | with_reducible (refine pp_B pp_any ?_; intro _ _)
    | with_reducible assumption
    | with_reducible (intro _))
theorem j_J_X10_expression_166 {w0 : wS} {kh34 : Int32 → wS → Option (wS)} {ke330 : wS → Option (wS)} {x2 : Int32} {y1 : Int32} {w : wS} (h_kh34 : ∀ (c0 : Int32) (c1 : wS), jJ 13 14 w0 c1 → pp (kh34 c0 c1) (fun r : wS => jJ 13 14 w0 r)) (h_ke330 : ∀ (c0 : wS), jJ 13 14 w0 c0 → pp (ke330 c0) (fun r : wS => jJ 13 14 w0 r)) (h_w : jJ 13 14 w0 w) : pp (J_X10_expression_166 kh34 ke330 x2 y1 w) (fun r : wS => jJ 13 14 w0 r) := by
  unfold J_X10_expression_166
  repeat' (first
    | with_reducible exact pp_some (by assumption)
    | with_reducible exact h_kh34 _ _ (by assumption)
    | with_reducible exact h_ke330 _ (by assumption)
    | with_reducible (refine pp_B (j_L_X10_waitsFor (by assumption)) ?_; intro _ _)
    | with_reducible exact j_L_X10_waitsFor (by assumption)
    | with_reducible (refine pp_B (j_L_X10_goes (by assumption)) ?_; intro _ _)
    | with_reducible exact j_L_X10_goes (by assumption)
    | with_reducible (refine pp_B (j_L_X10_operand (by assumption)) ?_; intro _ _)
    | with_reducible exact j_L_X10_operand (by assumption)
    | with_reducible refine j_J_X10_expression_327 ?_ ?_ (by assumption)
    | with_reducible (refine pp_B (pp_put (by assumption) (by decide) (by decide)) ?_; intro _ _)
    | with_reducible (refine pp_B (pp_ast (by assumption)) ?_; intro _ _)
    | with_reducible (refine pp_B (pp_putL (by assumption)) ?_; intro _ _)
    | with_reducible refine pp_if ?_ ?_
    | with_reducible refine pp_xIf ?_
    | with_reducible (refine pp_B pp_any ?_; intro _ _)
    | with_reducible assumption
    | with_reducible (intro _))
theorem j_J_X10_expression_132 {w0 : wS} {kh34 : Int32 → wS → Option (wS)} {ke330 : wS → Option (wS)} {x2 : Int32} {w : wS} (h_kh34 : ∀ (c0 : Int32) (c1 : wS), jJ 13 14 w0 c1 → pp (kh34 c0 c1) (fun r : wS => jJ 13 14 w0 r)) (h_ke330 : ∀ (c0 : wS), jJ 13 14 w0 c0 → pp (ke330 c0) (fun r : wS => jJ 13 14 w0 r)) (h_w : jJ 13 14 w0 w) : pp (J_X10_expression_132 kh34 ke330 x2 w) (fun r : wS => jJ 13 14 w0 r) := by
  unfold J_X10_expression_132
  repeat' (first
    | with_reducible exact pp_some (by assumption)
    | with_reducible exact h_kh34 _ _ (by assumption)
    | with_reducible exact h_ke330 _ (by assumption)
    | with_reducible (refine pp_B (j_L_X10_drops (by assumption)) ?_; intro _ _)
    | with_reducible exact j_L_X10_drops (by assumption)
    | with_reducible (refine pp_B2 (j_L_X10_isSign (by assumption)) ?_; intro _ _ _)
    | with_reducible exact j_L_X10_isSign (by assumption)
    | with_reducible refine j_J_X10_expression_166 ?_ ?_ (by assumption)
    | with_reducible refine j_J_X10_expression_191 ?_ ?_ (by assumption)
    | with_reducible (refine pp_B (pp_put (by assumption) (by decide) (by decide)) ?_; intro _ _)
    | with_reducible (refine pp_B (pp_ast (by assumption)) ?_; intro _ _)
    | with_reducible (refine pp_B (pp_putL (by assumption)) ?_; intro _ _)
    | with_reducible refine pp_if ?_ ?_
    | with_reducible refine pp_xIf ?_
    | with_reducible (refine pp_B pp_any ?_; intro _ _)
    | with_reducible assumption
    | with_reducible (intro _))
theorem j_B_X10_expression_34 {w0 : wS} {kh34 : Int32 → wS → Option (wS)} {ke330 : wS → Option (wS)} {x2 : Int32} {w : wS} (h_kh34 : ∀ (c0 : Int32) (c1 : wS), jJ 13 14 w0 c1 → pp (kh34 c0 c1) (fun r : wS => jJ 13 14 w0 r)) (h_ke330 : ∀ (c0 : wS), jJ 13 14 w0 c0 → pp (ke330 c0) (fun r : wS => jJ 13 14 w0 r)) (h_w : jJ 13 14 w0 w) : pp (B_X10_expression_34 kh34 ke330 x2 w) (fun r : wS => jJ 13 14 w0 r) := by
  unfold B_X10_expression_34
  repeat' (first
    | with_reducible exact pp_some (by assumption)
    | with_reducible exact h_kh34 _ _ (by assumption)
    | with_reducible exact h_ke330 _ (by assumption)
    | with_reducible (refine pp_B2 (j_L_X10_isGood (by assumption)) ?_; intro _ _ _)
    | with_reducible exact j_L_X10_isGood (by assumption)
    | with_reducible (refine pp_B2 (j_L_X10_knownWord (by assumption)) ?_; intro _ _ _)
    | with_reducible exact j_L_X10_knownWord (by assumption)
    | with_reducible refine j_J_X10_expression_62 ?_ ?_ (by assumption)
    | with_reducible (refine pp_B2 (j_L_X10_isSign (by assumption)) ?_; intro _ _ _)
    | with_reducible exact j_L_X10_isSign (by assumption)
    | with_reducible refine j_J_X10_expression_191 ?_ ?_ (by assumption)
    | with_reducible refine j_J_X10_expression_132 ?_ ?_ (by assumption)
    | with_reducible (refine pp_B (pp_put (by assumption) (by decide) (by decide)) ?_; intro _ _)
    | with_reducible (refine pp_B (pp_ast (by assumption)) ?_; intro _ _)
    | with_reducible (refine pp_B (pp_putL (by assumption)) ?_; intro _ _)
    | with_reducible refine pp_if ?_ ?_
    | with_reducible refine pp_xIf ?_
    | with_reducible (refine pp_B pp_any ?_; intro _ _)
    | with_reducible assumption
    | with_reducible (intro _))
theorem j_P_X10_expression_34 {w0 : wS} {ke330 : wS → Option (wS)} {n : Nat} {x2 : Int32} {w : wS} (h_ke330 : ∀ (c0 : wS), jJ 13 14 w0 c0 → pp (ke330 c0) (fun r : wS => jJ 13 14 w0 r)) (h_w : jJ 13 14 w0 w) : pp (P_X10_expression_34 ke330 n x2 w) (fun r : wS => jJ 13 14 w0 r) := by
  unfold P_X10_expression_34
  refine pp_loop (I := fun σ => jJ 13 14 w0 σ.2) (fun kk hkk σ hσ => ?_) _ _ h_w
  refine j_B_X10_expression_34 ?_ ?_ hσ
  · exact fun c0 c1 hc => hkk (c0, c1) hc
  · exact h_ke330
theorem j_J_X10_expression_350 {w0 : wS} {w : wS} (h_w : jJ 13 14 w0 w) : pp (J_X10_expression_350 w) (fun r : wS => jJ 13 14 w0 r) := by
  unfold J_X10_expression_350
  repeat' (first
    | with_reducible exact pp_some (by assumption)
    | with_reducible (refine pp_B (j_L_X10_drops (by assumption)) ?_; intro _ _)
    | with_reducible exact j_L_X10_drops (by assumption)
    | with_reducible (refine pp_B (j_L_X10_puts (by assumption)) ?_; intro _ _)
    | with_reducible exact j_L_X10_puts (by assumption)
    | with_reducible (refine pp_B (pp_put (by assumption) (by decide) (by decide)) ?_; intro _ _)
    | with_reducible (refine pp_B (pp_ast (by assumption)) ?_; intro _ _)
    | with_reducible (refine pp_B (pp_putL (by assumption)) ?_; intro _ _)
    | with_reducible refine pp_if ?_ ?_
    | with_reducible refine pp_xIf ?_
    | with_reducible (refine pp_B pp_any ?_; intro _ _)
    | with_reducible assumption
    | with_reducible (intro _))
theorem j_J_X10_expression_330 {w0 : wS} {w : wS} (h_w : jJ 13 14 w0 w) : pp (J_X10_expression_330 w) (fun r : wS => jJ 13 14 w0 r) := by
  unfold J_X10_expression_330
  repeat' (first
    | with_reducible exact pp_some (by assumption)
    | with_reducible (refine pp_B2 (j_L_X10_isGood (by assumption)) ?_; intro _ _ _)
    | with_reducible exact j_L_X10_isGood (by assumption)
    | with_reducible refine j_J_X10_expression_350 (by assumption)
    | with_reducible (refine pp_B (j_L_X10_wrong (by decide) (by assumption)) ?_; intro _ _)
    | with_reducible exact j_L_X10_wrong (by decide) (by assumption)
    | with_reducible (refine pp_B (pp_put (by assumption) (by decide) (by decide)) ?_; intro _ _)
    | with_reducible (refine pp_B (pp_ast (by assumption)) ?_; intro _ _)
    | with_reducible (refine pp_B (pp_putL (by assumption)) ?_; intro _ _)
    | with_reducible refine pp_if ?_ ?_
    | with_reducible refine pp_xIf ?_
    | with_reducible (refine pp_B pp_any ?_; intro _ _)
    | with_reducible assumption
    | with_reducible (intro _))
theorem j_L_X10_expression {w0 : wS} {a1 : Int32} {w : wS} (h_w : jJ 13 14 w0 w) : pp (L_X10_expression a1 w) (fun r : wS => jJ 13 14 w0 r) := by
  unfold L_X10_expression
  repeat' (first
    | with_reducible exact pp_some (by assumption)
    | with_reducible (refine pp_B2 (j_L_X10_isGood (by assumption)) ?_; intro _ _ _)
    | with_reducible exact j_L_X10_isGood (by assumption)
    | with_reducible (refine pp_B (j_L_X10_deeper (by assumption)) ?_; intro _ _)
    | with_reducible exact j_L_X10_deeper (by assumption)
    | with_reducible (refine pp_B (j_L_X10_operand (by assumption)) ?_; intro _ _)
    | with_reducible exact j_L_X10_operand (by assumption)
    | with_reducible refine j_P_X10_expression_34 ?_ (by assumption)
    | with_reducible refine j_J_X10_expression_330 (by assumption)
    | with_reducible (refine pp_B (pp_put (by assumption) (by decide) (by decide)) ?_; intro _ _)
    | with_reducible (refine pp_B (pp_ast (by assumption)) ?_; intro _ _)
    | with_reducible (refine pp_B (pp_putL (by assumption)) ?_; intro _ _)
    | with_reducible refine pp_if ?_ ?_
    | with_reducible refine pp_xIf ?_
    | with_reducible (refine pp_B pp_any ?_; intro _ _)
    | with_reducible assumption
    | with_reducible (intro _))
theorem j_J_X10_line_201 {w0 : wS} {y1 : Int32} {y2 : Int32} {w : wS} (h_w : jJ 13 14 w0 w) : pp (J_X10_line_201 y1 y2 w) (fun r : wS => jJ 13 14 w0 r) := by
  unfold J_X10_line_201
  repeat' (first
    | with_reducible exact pp_some (by assumption)
    | with_reducible (refine pp_B2 (j_L_X10_begins (by assumption)) ?_; intro _ _ _)
    | with_reducible exact j_L_X10_begins (by assumption)
    | with_reducible refine j_J_X10_line_272 (by assumption)
    | with_reducible (refine pp_B (j_L_X10_expression (by assumption)) ?_; intro _ _)
    | with_reducible exact j_L_X10_expression (by assumption)
    | with_reducible (refine pp_B (pp_put (by assumption) (by decide) (by decide)) ?_; intro _ _)
    | with_reducible (refine pp_B (pp_ast (by assumption)) ?_; intro _ _)
    | with_reducible (refine pp_B (pp_putL (by assumption)) ?_; intro _ _)
    | with_reducible refine pp_if ?_ ?_
    | with_reducible refine pp_xIf ?_
    | with_reducible (refine pp_B pp_any ?_; intro _ _)
    | with_reducible assumption
    | with_reducible (intro _))
theorem j_J_X10_line_244 {w0 : wS} {y1 : Int32} {y2 : Int32} {w : wS} (h_w : jJ 13 14 w0 w) : pp (J_X10_line_244 y1 y2 w) (fun r : wS => jJ 13 14 w0 r) := by
  unfold J_X10_line_244
  repeat' (first
    | with_reducible exact pp_some (by assumption)
    | with_reducible (refine pp_B2 (j_L_X10_begins (by assumption)) ?_; intro _ _ _)
    | with_reducible exact j_L_X10_begins (by assumption)
    | with_reducible refine j_J_X10_line_272 (by assumption)
    | with_reducible (refine pp_B (j_L_X10_expression (by assumption)) ?_; intro _ _)
    | with_reducible exact j_L_X10_expression (by assumption)
    | with_reducible (refine pp_B (pp_put (by assumption) (by decide) (by decide)) ?_; intro _ _)
    | with_reducible (refine pp_B (pp_ast (by assumption)) ?_; intro _ _)
    | with_reducible (refine pp_B (pp_putL (by assumption)) ?_; intro _ _)
    | with_reducible refine pp_if ?_ ?_
    | with_reducible refine pp_xIf ?_
    | with_reducible (refine pp_B pp_any ?_; intro _ _)
    | with_reducible assumption
    | with_reducible (intro _))
theorem j_L_X10_line {w0 : wS} {w : wS} (h_w : jJ 13 14 w0 w) : pp (L_X10_line w) (fun r : wS => jJ 13 14 w0 r) := by
  unfold L_X10_line
  repeat' (first
    | with_reducible exact pp_some (by assumption)
    | with_reducible (refine pp_B2 (j_L_X10_knownWord (by assumption)) ?_; intro _ _ _)
    | with_reducible exact j_L_X10_knownWord (by assumption)
    | with_reducible refine j_J_X10_line_23 (by assumption)
    | with_reducible refine j_J_X10_line_76 (by assumption)
    | with_reducible refine j_J_X10_line_160 (by assumption)
    | with_reducible refine j_J_X10_line_201 (by assumption)
    | with_reducible refine j_J_X10_line_244 (by assumption)
    | with_reducible (refine pp_B (j_L_X10_wrong (by decide) (by assumption)) ?_; intro _ _)
    | with_reducible exact j_L_X10_wrong (by decide) (by assumption)
    | with_reducible refine j_J_X10_line_272 (by assumption)
    | with_reducible (refine pp_B (pp_put (by assumption) (by decide) (by decide)) ?_; intro _ _)
    | with_reducible (refine pp_B (pp_ast (by assumption)) ?_; intro _ _)
    | with_reducible (refine pp_B (pp_putL (by assumption)) ?_; intro _ _)
    | with_reducible refine pp_if ?_ ?_
    | with_reducible refine pp_xIf ?_
    | with_reducible (refine pp_B pp_any ?_; intro _ _)
    | with_reducible assumption
    | with_reducible (intro _))
end
