section
/-! where a level ends -/
theorem pLoop_e {b : Nat → Nat} {n : Nat} {op : Nat → Option Nat} {sub : Nat → Res} {P : Nat → Prop} (hop : ∀ s a, op s = some a → s < n) (hsub : ∀ s F s3, s ≤ n → sub s = .inr (F, s3) → P s3 ∧ s ≤ s3 ∧ s3 ≤ n) : ∀ (k : Nat) (E : List Op) (s : Nat) (E' : List Op) (s' : Nat), s ≤ n → P s → n < s + k → pLoop op (nxT b n) sub k E s = .inr (E', s') → P s' ∧ op s' = none
  | 0, E, s, E', s', hs, _, hk, _ => by omega
  | k + 1, E, s, E', s', hs, hP, hk, h => by
    cases ho : op s with
    | none =>
      rw [pLoop_n ho] at h
      obtain ⟨rfl, rfl⟩ := Prod.mk.inj (Sum.inr.inj h)
      exact ⟨hP, ho⟩
    | some a =>
      rw [pLoop_s ho] at h
      have hlt := hop s a ho
      have h1 := nxT_lt (b := b) hlt
      have h2 := (nxT_le (b := b) hs).2
      cases e : sub (nxT b n s) with
      | inl f => rw [e, rB_l] at h; cases h
      | inr p =>
        obtain ⟨F, s3⟩ := p
        rw [e, rB_r] at h
        obtain ⟨p1, p2, p3⟩ := hsub _ F s3 h2 e
        exact pLoop_e hop hsub k _ s3 E' s' p3 p1 (by omega) h
theorem rB_i {r : Res} {k : List Op → Nat → Res} {E : List Op} {s' : Nat} (h : rB r k = .inr (E, s')) : ∃ F s1, r = .inr (F, s1) ∧ k F s1 = .inr (E, s') := by
  cases r with
  | inl f => rw [rB_l] at h; cases h
  | inr p => obtain ⟨F, s1⟩ := p; exact ⟨F, s1, rfl, h⟩
section
variable {b : Nat → Nat} {n mn B d : Nat} {pr : Nat → Nat → Res} (hm : mn ≤ 6) (hB : 1 ≤ B) (hg : ∀ s, s ≤ n → gR b n s B (pr (d + 1) s))
theorem gR_pos {s : Nat} {r : Res} {B' : Nat} {E : List Op} {s' : Nat} (h : gR b n s B' r) (e : r = .inr (E, s')) : s ≤ s' ∧ s' ≤ n := by
  rw [e] at h
  obtain ⟨_, h1, h2, _⟩ := h
  exact ⟨by omega, h2⟩
theorem pPart_p (hm : mn ≤ 6) (hB : 1 ≤ B) (hg : ∀ s, s ≤ n → gR b n s B (pr (d + 1) s)) {s : Nat} {E : List Op} {s' : Nat} (hs : s ≤ n) (h : pPart b n mn pr d s = .inr (E, s')) : s ≤ s' ∧ s' ≤ n := gR_pos (pPart_g hm hB hg hs) h
theorem pProd_e (hm : mn ≤ 6) (hB : 1 ≤ B) (hg : ∀ s, s ≤ n → gR b n s B (pr (d + 1) s)) {s : Nat} {E : List Op} {s' : Nat} (hs : s ≤ n) (h : pProd b n mn pr d s = .inr (E, s')) : opM b n s' = none ∧ s ≤ s' ∧ s' ≤ n := by
  have hp := gR_pos (pProd_g hm hB hg hs) h
  unfold pProd at h
  obtain ⟨F, s1, e1, e2⟩ := rB_i h
  have h1 := pPart_p hm hB hg hs e1
  have := pLoop_e (P := fun _ => True) (fun s a ho => (opM_in ho).1) (fun s F s3 hs e => ⟨trivial, pPart_p hm hB hg hs e⟩) (n + 1) F s1 E s' h1.2 trivial (by omega) e2
  exact ⟨this.2, hp⟩
theorem pSum_e (hm : mn ≤ 6) (hB : 1 ≤ B) (hg : ∀ s, s ≤ n → gR b n s B (pr (d + 1) s)) {s : Nat} {E : List Op} {s' : Nat} (hs : s ≤ n) (h : pSum b n mn pr d s = .inr (E, s')) : (opM b n s' = none ∧ opS b n s' = none) ∧ s ≤ s' ∧ s' ≤ n := by
  have hp := gR_pos (pSum_g hm hB hg hs) h
  unfold pSum at h
  obtain ⟨F, s1, e1, e2⟩ := rB_i h
  have h1 := pProd_e hm hB hg hs e1
  have := pLoop_e (P := fun s => opM b n s = none) (fun s a ho => (opS_in ho).1) (fun s F s3 hs e => pProd_e hm hB hg hs e) (n + 1) F s1 E s' h1.2.2 h1.1 (by omega) e2
  exact ⟨this, hp⟩
theorem pCmp_e (hm : mn ≤ 6) (hB : 1 ≤ B) (hg : ∀ s, s ≤ n → gR b n s B (pr (d + 1) s)) {s : Nat} {E : List Op} {s' : Nat} (hs : s ≤ n) (h : pCmp b n mn pr d s = .inr (E, s')) : (opM b n s' = none ∧ opS b n s' = none) ∧ s ≤ s' ∧ s' ≤ n := by
  have hp := gR_pos (pCmp_g hm hB hg hs) h
  unfold pCmp at h
  obtain ⟨F, s1, e1, e2⟩ := rB_i h
  have h1 := pSum_e hm hB hg hs e1
  cases ho : opC b n s1 with
  | none =>
    rw [ho] at e2
    obtain ⟨rfl, rfl⟩ := Prod.mk.inj (Sum.inr.inj e2)
    exact ⟨h1.1, hp⟩
  | some a =>
    rw [ho] at e2
    obtain ⟨F2, s2, e3, e4⟩ := rB_i e2
    obtain ⟨_, rfl⟩ := Prod.mk.inj (Sum.inr.inj e4)
    exact ⟨(pSum_e hm hB hg (nxT_le (b := b) h1.2.2).2 e3).1, hp⟩
theorem pNots_e (hm : mn ≤ 6) (hB : 1 ≤ B) (hg : ∀ s, s ≤ n → gR b n s B (pr (d + 1) s)) : ∀ {k j s : Nat} {E : List Op} {s' : Nat}, s ≤ n → pNots b n mn pr d k j s = .inr (E, s') → (opM b n s' = none ∧ opS b n s' = none) ∧ s ≤ s' ∧ s' ≤ n
  | 0, j, s, E, s', _, h => by unfold pNots at h; cases h
  | k + 1, j, s, E, s', hs, h => by
    by_cases hw : kw b n s = some 15
    · by_cases hj : j = 6
      · rw [pNots_6 hw hj] at h; cases h
      · rw [pNots_y hw hj] at h
        have := pNots_e hm hB hg (nxT_le (b := b) hs).2 h
        have h2 := (nxT_le (b := b) hs).1
        exact ⟨this.1, by omega, this.2.2⟩
    · rw [pNots_n hw] at h
      obtain ⟨F, s1, e1, e2⟩ := rB_i h
      obtain ⟨_, rfl⟩ := Prod.mk.inj (Sum.inr.inj e2)
      exact pCmp_e hm hB hg hs e1
theorem pNot_e (hm : mn ≤ 6) (hB : 1 ≤ B) (hg : ∀ s, s ≤ n → gR b n s B (pr (d + 1) s)) {s : Nat} {E : List Op} {s' : Nat} (hs : s ≤ n) (h : pNot b n mn pr d s = .inr (E, s')) : (opM b n s' = none ∧ opS b n s' = none) ∧ s ≤ s' ∧ s' ≤ n := pNots_e hm hB hg hs h
theorem pAnd_e (hm : mn ≤ 6) (hB : 1 ≤ B) (hg : ∀ s, s ≤ n → gR b n s B (pr (d + 1) s)) {s : Nat} {E : List Op} {s' : Nat} (hs : s ≤ n) (h : pAnd b n mn pr d s = .inr (E, s')) : ((opM b n s' = none ∧ opS b n s' = none) ∧ opA b n s' = none) ∧ s ≤ s' ∧ s' ≤ n := by
  have hp := gR_pos (pAnd_g hm hB hg hs) h
  unfold pAnd at h
  obtain ⟨F, s1, e1, e2⟩ := rB_i h
  have h1 := pNot_e hm hB hg hs e1
  have := pLoop_e (P := fun s => opM b n s = none ∧ opS b n s = none) (fun s a ho => (opA_in ho).1) (fun s F s3 hs e => pNot_e hm hB hg hs e) (n + 1) F s1 E s' h1.2.2 h1.1 (by omega) e2
  exact ⟨this, hp⟩
theorem pOr_e (hm : mn ≤ 6) (hB : 1 ≤ B) (hg : ∀ s, s ≤ n → gR b n s B (pr (d + 1) s)) {s : Nat} {E : List Op} {s' : Nat} (hs : s ≤ n) (h : pOr b n mn pr d s = .inr (E, s')) : (((opM b n s' = none ∧ opS b n s' = none) ∧ opA b n s' = none) ∧ opO b n s' = none) ∧ s ≤ s' ∧ s' ≤ n := by
  have hp := gR_pos (pOr_g hm hB hg hs) h
  unfold pOr at h
  obtain ⟨F, s1, e1, e2⟩ := rB_i h
  have h1 := pAnd_e hm hB hg hs e1
  have := pLoop_e (P := fun s => (opM b n s = none ∧ opS b n s = none) ∧ opA b n s = none) (fun s a ho => (opO_in ho).1) (fun s F s3 hs e => pAnd_e hm hB hg hs e) (n + 1) F s1 E s' h1.2.2 h1.1 (by omega) e2
  exact ⟨this, hp⟩
end
theorem opM_s {b : Nat → Nat} {n s a : Nat} (h : opM b n s = some a) : s < n ∧ a < 8 ∧ str (4 + a) = 6 := by
  refine ⟨(opM_in h).1, (opM_in h).2, ?_⟩
  unfold opM at h
  split at h
  · obtain rfl := Option.some.inj h; rfl
  · split at h
    · obtain rfl := Option.some.inj h; rfl
    · cases h
theorem opS_s {b : Nat → Nat} {n s a : Nat} (h : opS b n s = some a) : s < n ∧ a < 8 ∧ str (4 + a) = 5 := by
  refine ⟨(opS_in h).1, (opS_in h).2, ?_⟩
  unfold opS at h
  split at h
  · obtain rfl := Option.some.inj h; rfl
  · split at h
    · obtain rfl := Option.some.inj h; rfl
    · cases h
theorem opC_s {b : Nat → Nat} {n s a : Nat} (h : opC b n s = some a) : s < n ∧ a < 8 ∧ str (4 + a) = 4 := by
  refine ⟨(opC_in h).1, (opC_in h).2, ?_⟩
  unfold opC at h
  split at h
  · obtain rfl := Option.some.inj h; rfl
  · split at h
    · obtain rfl := Option.some.inj h; rfl
    · cases h
theorem opA_s {b : Nat → Nat} {n s a : Nat} (h : opA b n s = some a) : s < n ∧ a < 8 ∧ str (4 + a) = 2 := by
  refine ⟨(opA_in h).1, (opA_in h).2, ?_⟩
  unfold opA at h
  split at h
  · obtain rfl := Option.some.inj h; rfl
  · cases h
theorem opO_s {b : Nat → Nat} {n s a : Nat} (h : opO b n s = some a) : s < n ∧ a < 8 ∧ str (4 + a) = 1 := by
  refine ⟨(opO_in h).1, (opO_in h).2, ?_⟩
  unfold opO at h
  split at h
  · obtain rfl := Option.some.inj h; rfl
  · cases h
section
variable {b : Nat → Nat} {n mn m : Nat} {w0 : wS} {pr : Nat → Nat → Res} {d B : Nat}
theorem simProd (hmn : mn = 5 ∨ mn = 6) (hB1 : 1 ≤ B) (hgr : ∀ s, s ≤ n → gR b n s B (pr (d + 1) s)) (hI : hIn b n mn m w0 pr d) {Q : wS → Prop} {s : Nat} {C T : List Nat} {tb : Nat → Nat} {w : wS} {g : Nat} {v : Int32} {f : Nat} (h : MS b n mn m w0 s C T d tb w) (hT : eTT 6 T) (hB : eBO m s C T) (hg : 702 ≤ g + s) (hf : 702 ≤ f + s) (hK : eKO b n mn m w0 Q (pProd b n mn pr d s) 6 C T d tb) : wpO (eO2 g v f w) Q := by
  have h7 := h.n7
  have hTl : T.length ≤ 700 := by have := hB.2; omega
  refine simPart hmn hI h hB hg hf ?_
  unfold pProd at hK
  cases e : pPart b n mn pr d s with
  | inl ft => rw [e, rB_l] at hK; exact hK
  | inr p =>
    obtain ⟨E, s1⟩ := p
    rw [e, rB_r] at hK
    intro C' D w' f' tb' g' hC hD hB' hf' ht' htc'
    exact simL (ls := 7) (ent := fun f w => eO2 4999 (nI 0) f w) (Or.inl ⟨by omega, by omega⟩) (fun s a ho => opM_s ho) (fun s F s3 hs e => (pPart_p (by omega) hB1 hgr hs e).1) (fun s a C' D w f tb' h hD ho hb hk => st_M h hD hT ho hb hTl (fun w2 g2 => hk w2 tb' g2 (fun _ _ => rfl) (fun _ => rfl) (fun z => by omega))) (fun s C T tb w f h _ hT hB hf hK => simPart hmn hI h hB (by omega) hf hK) (n + 1) E s1 C' D w' f' tb' g' hC (fun x hx => ⟨(hD x hx).1, by have := (hD x hx).2; omega⟩) hB' hf' (by omega) ht' ⟨fun _ => htc'.1 (by omega), fun z => by omega⟩ hK
theorem simSum (hmn : mn = 5 ∨ mn = 6) (hB1 : 1 ≤ B) (hgr : ∀ s, s ≤ n → gR b n s B (pr (d + 1) s)) (hI : hIn b n mn m w0 pr d) {Q : wS → Prop} {s : Nat} {C T : List Nat} {tb : Nat → Nat} {w : wS} {g : Nat} {v : Int32} {f : Nat} (h : MS b n mn m w0 s C T d tb w) (hT : eTT 5 T) (hB : eBO m s C T) (hg : 702 ≤ g + s) (hf : 702 ≤ f + s) (hK : eKO b n mn m w0 Q (pSum b n mn pr d s) 5 C T d tb) : wpO (eO2 g v f w) Q := by
  have h7 := h.n7
  have hTl : T.length ≤ 700 := by have := hB.2; omega
  refine simProd hmn hB1 hgr hI h (fun x hx => (hT x hx).imp_right (by omega)) hB hg hf ?_
  unfold pSum at hK
  cases e : pProd b n mn pr d s with
  | inl ft => rw [e, rB_l] at hK; exact hK
  | inr p =>
    obtain ⟨E, s1⟩ := p
    rw [e, rB_r] at hK
    intro C' D w' f' tb' g' hC hD hB' hf' ht' htc'
    exact simL (ls := 6) (ent := fun f w => eO2 4999 (nI 0) f w) (Or.inl ⟨by omega, by omega⟩) (fun s a ho => opS_s ho) (fun s F s3 hs e => (pProd_e (by omega) hB1 hgr hs e).2.1) (fun s a C' D w f tb' h hD ho hb hk => st_S h hD hT ho hb hTl (fun w2 g2 => hk w2 tb' g2 (fun _ _ => rfl) (fun _ => rfl) (fun z => by omega))) (fun s C T tb w f h _ hT hB hf hK => simProd hmn hB1 hgr hI h hT hB (by omega) hf hK) (n + 1) E s1 C' D w' f' tb' g' hC (fun x hx => ⟨(hD x hx).1, by have := (hD x hx).2; omega⟩) hB' hf' (by omega) ht' ⟨fun _ => htc'.1 (by omega), fun z => by omega⟩ hK
theorem simCmp (hmn : mn = 5 ∨ mn = 6) (hB1 : 1 ≤ B) (hgr : ∀ s, s ≤ n → gR b n s B (pr (d + 1) s)) (hI : hIn b n mn m w0 pr d) {Q : wS → Prop} {s : Nat} {C T : List Nat} {tb : Nat → Nat} {w : wS} {g : Nat} {v : Int32} {f : Nat} (h : MS b n mn m w0 s C T d tb w) (ht0 : tb (d + 1) = 0) (hT : eTT 4 T) (hB : eBO m s C T) (hg : 702 ≤ g + s) (hf : 702 ≤ f + s) (hK : eKO b n mn m w0 Q (pCmp b n mn pr d s) 4 C T d tb) : wpO (eO2 g v f w) Q := by
  have h7 := h.n7
  have hTl : T.length ≤ 700 := by have := hB.2; omega
  refine simSum hmn hB1 hgr hI h (fun x hx => (hT x hx).imp_right (by omega)) hB hg hf ?_
  unfold pCmp at hK
  cases e : pSum b n mn pr d s with
  | inl ft => rw [e, rB_l] at hK; exact hK
  | inr p =>
    obtain ⟨E, s1⟩ := p
    rw [e, rB_r] at hK
    intro C' D w' f' tb' g' hC hD hB' hf' ht' htc'
    have h17 := g'.n7
    have hDT : (D ++ T).length = D.length + T.length := List.length_append
    cases ho : opC b n s1 with
    | none =>
      rw [ho] at hK
      exact hK C' D w' f' tb' g' hC (fun x hx => ⟨(hD x hx).1, by have := (hD x hx).2; omega⟩) hB' hf' ht' ⟨fun z => by omega, fun _ => Or.inr ho⟩
    | some a =>
      rw [ho] at hK
      have hK : eKO b n mn m w0 Q (rB (pSum b n mn pr d (nxT b n s1)) fun F s2 => .inr (E ++ (F ++ [(3, a)]), s2)) 4 C T d tb := hK
      obtain ⟨o1, o2, o3⟩ := opC_s ho
      have hnx := nxT_lt (b := b) o1
      have hnx2 := (nxT_le (b := b) h17.1).2
      obtain ⟨f', rfl⟩ : ∃ k, f' = k + 1 := ⟨f' - 1, by omega⟩
      refine st_C g' (fun x hx => ⟨(hD x hx).1, by have := (hD x hx).2; omega⟩) hT ho (by rw [htc'.1 (by omega)]; exact ht0) (by omega) hTl ?_
      intro w2 g2
      refine simSum hmn hB1 hgr hI g2 (fun x hx => Or.inr (by have hx : some (4 + a) = some x := hx; obtain rfl := Option.some.inj hx; omega)) ⟨by rw [List.length_append, List.length_cons]; omega, by rw [List.length_cons]; omega⟩ (by omega) (by omega) ?_
      cases e2 : pSum b n mn pr d (nxT b n s1) with
      | inl ft => rw [e2, rB_l] at hK; exact hK
      | inr p =>
        obtain ⟨F, s2⟩ := p
        rw [e2, rB_r] at hK
        intro C1 D1 w3 f3 tb3 g3 hC3 hD3 hB3 hf3 ht3 htc3
        have hass : D1 ++ (4 + a) :: T = (D1 ++ [4 + a]) ++ T := by simp
        rw [hass] at g3 hB3
        refine hK C1 (D1 ++ [4 + a]) w3 f3 tb3 g3 ?_ ?_ hB3 hf3 (fun i hi => ?_) ⟨fun z => by omega, fun _ => Or.inl ?_⟩
        · rw [cML_app, cML_app, cML_op, ← List.append_assoc, hC, ← List.append_assoc, hC3, List.append_assoc]
        · intro x hx
          rcases List.mem_append.mp hx with q | q
          · have := hD3 x q
            exact ⟨this.1, by omega⟩
          · have : x = 4 + a := by simpa using q
            rw [this]
            exact ⟨by omega, by omega⟩
        · rw [ht3 i hi, fu_s, if_neg (by omega)]; exact ht' i hi
        · rw [htc3.1 (by omega), fu_s, if_pos rfl]
end
end
