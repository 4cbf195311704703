section
/-! ===== expressions, by their tokens ===== -/
abbrev Res : Type := (Nat × Nat) ⊕ (List Op × Nat)
def rB (r : Res) (k : List Op → Nat → Res) : Res := match r with
  | .inl f => .inl f
  | .inr (E, s) => k E s
theorem rB_l (f : Nat × Nat) (k : List Op → Nat → Res) : rB (.inl f) k = .inl f := rfl
theorem rB_r (E : List Op) (s : Nat) (k : List Op → Nat → Res) : rB (.inr (E, s)) k = k E s := rfl
def pLoop (op : Nat → Option Nat) (nx : Nat → Nat) (sub : Nat → Res) : Nat → List Op → Nat → Res
  | 0, E, s => .inr (E, s)
  | k + 1, E, s => match op s with
    | none => .inr (E, s)
    | some a => rB (sub (nx s)) fun F s2 => pLoop op nx sub k (E ++ (F ++ [(3, a)])) s2
theorem pLoop_n {op : Nat → Option Nat} {nx : Nat → Nat} {sub : Nat → Res} {k s : Nat} {E : List Op} (h : op s = none) : pLoop op nx sub k E s = .inr (E, s) := by
  cases k with
  | zero => rfl
  | succ k =>
    show (match op s with
      | none => _
      | some a => _) = _
    rw [h]
theorem pLoop_s {op : Nat → Option Nat} {nx : Nat → Nat} {sub : Nat → Res} {k s a : Nat} {E : List Op} (h : op s = some a) : pLoop op nx sub (k + 1) E s = rB (sub (nx s)) fun F s2 => pLoop op nx sub k (E ++ (F ++ [(3, a)])) s2 := by
  show (match op s with
    | none => _
    | some a => _) = _
  rw [h]
section
variable (b : Nat → Nat) (n : Nat) (mn : Nat)
def opM (s : Nat) : Option Nat := if kd b n s = 42 then some 6 else if kd b n s = 47 then some 7 else none
def opS (s : Nat) : Option Nat := if kd b n s = 43 then some 4 else if kd b n s = 45 then some 5 else none
def opC (s : Nat) : Option Nat := if kd b n s = 60 then some 2 else if kd b n s = 61 then some 3 else none
def opA (s : Nat) : Option Nat := if kw b n s = some 13 then some 0 else none
def opO (s : Nat) : Option Nat := if kw b n s = some 14 then some 1 else none
/-- mn: the last value that counts -/
def pVal (s : Nat) : Option Nat := match kw b n s with
  | none => none
  | some k => if k ≤ mn then some k else none
def pPart (rec : Nat → Nat → Res) (d s : Nat) : Res :=
  if kd b n s = 40 then rB (rec (d + 1) (nxT b n s)) fun E s' => if kd b n s' = 41 then .inr (E, nxT b n s') else .inl (1, s')
  else if kd b n s = 48 then (if szT b n s ≤ 4 then .inr ([(0, vlA b s (szT b n s))], nxT b n s) else .inl (2, s))
  else if kd b n s = 97 then (match pVal b n mn s with
    | none => .inl (3, s)
    | some k => .inr ([(1, k)], nxT b n s))
  else .inl (1, s)
def pProd (rec : Nat → Nat → Res) (d s : Nat) : Res := rB (pPart b n mn rec d s) fun E s1 => pLoop (opM b n) (nxT b n) (pPart b n mn rec d) (n + 1) E s1
def pSum (rec : Nat → Nat → Res) (d s : Nat) : Res := rB (pProd b n mn rec d s) fun E s1 => pLoop (opS b n) (nxT b n) (pProd b n mn rec d) (n + 1) E s1
def pCmp (rec : Nat → Nat → Res) (d s : Nat) : Res := rB (pSum b n mn rec d s) fun E s1 => match opC b n s1 with
  | none => .inr (E, s1)
  | some a => rB (pSum b n mn rec d (nxT b n s1)) fun F s2 => .inr (E ++ (F ++ [(3, a)]), s2)
/-- j nots stand ahead -/
def pNots (rec : Nat → Nat → Res) (d : Nat) : Nat → Nat → Nat → Res
  | 0, _, _ => .inl (0, 0)
  | k + 1, j, s => if kw b n s = some 15 then (if j = 6 then .inl (2, s) else pNots rec d k (j + 1) (nxT b n s)) else rB (pCmp b n mn rec d s) fun E s1 => .inr (E ++ List.replicate j (2, 0), s1)
def pNot (rec : Nat → Nat → Res) (d s : Nat) : Res := pNots b n mn rec d 8 0 s
def pAnd (rec : Nat → Nat → Res) (d s : Nat) : Res := rB (pNot b n mn rec d s) fun E s1 => pLoop (opA b n) (nxT b n) (pNot b n mn rec d) (n + 1) E s1
def pOr (rec : Nat → Nat → Res) (d s : Nat) : Res := rB (pAnd b n mn rec d s) fun E s1 => pLoop (opO b n) (nxT b n) (pAnd b n mn rec d) (n + 1) E s1
def bgn (s : Nat) : Prop := kd b n s = 48 ∨ kd b n s = 97 ∨ kd b n s = 40
def pEx (rec : Nat → Nat → Res) (d s : Nat) : Res := if 6 ≤ d ∧ (kd b n s = 48 ∨ kd b n s = 97 ∨ kd b n s = 40) then .inl (2, s) else pOr b n mn rec d s
def pExN : Nat → Nat → Nat → Res
  | 0 => fun _ _ => .inl (1, 0)
  | k + 1 => fun d s => pEx b n mn (pExN k) d s
end
/-! what it gives -/
/-- steps are no more than bytes; the code is well formed above heights up to 64 less B -/
def gR (b : Nat → Nat) (n s B : Nat) (r : Res) : Prop := match r with
  | .inl f => f.2 ≤ n ∧ (f.1 = 1 ∨ f.1 = 2 ∨ f.1 = 3)
  | .inr (E, s') => 1 ≤ E.length ∧ E.length + s ≤ s' ∧ s' ≤ n ∧ ∀ h r, h + B ≤ 64 → wfR (h + 1) r → wfR h (E ++ r)
theorem gR_l {b : Nat → Nat} {n s B : Nat} {f : Nat × Nat} (h1 : f.2 ≤ n) (h2 : f.1 = 1 ∨ f.1 = 2 ∨ f.1 = 3) : gR b n s B (.inl f) := ⟨h1, h2⟩
theorem gR.up {b : Nat → Nat} {n s B B' : Nat} {r : Res} (h : gR b n s B r) (hB : B ≤ B') : gR b n s B' r := by
  cases r with
  | inl f => exact h
  | inr p => exact ⟨h.1, h.2.1, h.2.2.1, fun k r hk => h.2.2.2 k r (by omega)⟩
theorem wfR_op {h a : Nat} {r : List Op} (h2 : 2 ≤ h) (ha : a < 8) (hr : wfR (h - 1) r) : wfR h ((3, a) :: r) := by
  unfold wfR
  rw [if_neg (show ¬ (3 : Nat) = 0 by omega), if_neg (show ¬ (3 : Nat) = 1 by omega), if_neg (show ¬ (3 : Nat) = 2 by omega)]
  exact ⟨h2, ha, hr⟩
theorem wfR_not {h : Nat} {r : List Op} (h2 : 1 ≤ h) (hr : wfR h r) : wfR h ((2, 0) :: r) := by
  unfold wfR
  rw [if_neg (by decide), if_neg (by decide), if_pos (by decide)]
  exact ⟨h2, hr⟩
theorem pLoop_g {b : Nat → Nat} {n B s0 : Nat} {op : Nat → Option Nat} {sub : Nat → Res} (hop : ∀ s a, op s = some a → s < n ∧ a < 8) (hsub : ∀ s, s ≤ n → gR b n s B (sub s)) : ∀ (k : Nat) (E : List Op) (s : Nat), gR b n s0 (B + 1) (.inr (E, s)) → gR b n s0 (B + 1) (pLoop op (nxT b n) sub k E s)
  | 0, E, s, h => h
  | k + 1, E, s, h => by
    cases ho : op s with
    | none => rw [pLoop_n ho]; exact h
    | some a =>
      obtain ⟨h1, h2⟩ := hop s a ho
      have hn := nxT_lt (b := b) h1
      have hn2 := (nxT_le (b := b) (Nat.le_of_lt h1)).2
      have hs := hsub (nxT b n s) hn2
      rw [pLoop_s ho]
      cases hr : sub (nxT b n s) with
      | inl f => rw [rB_l]; rw [hr] at hs; exact hs
      | inr p =>
        obtain ⟨F, s2⟩ := p
        rw [rB_r]
        rw [hr] at hs
        obtain ⟨g0, g1, g2, g3⟩ := h
        obtain ⟨f0, f1, f2, f3⟩ := hs
        refine pLoop_g hop hsub k _ s2 ⟨?_, ?_, f2, fun hh r hB hw => ?_⟩
        · rw [List.length_append]; omega
        · rw [List.length_append, List.length_append]
          show E.length + (F.length + 1) + s0 ≤ s2
          omega
        · rw [List.append_assoc, List.append_assoc]
          refine g3 hh _ hB (f3 (hh + 1) _ (by omega) ?_)
          exact wfR_op (by omega) h2 (by rw [show hh + 1 + 1 - 1 = hh + 1 by omega]; exact hw)
theorem kd_in {b : Nat → Nat} {n s c : Nat} (h : kd b n s = c) (hc : c ≠ 0) : s < n := by
  rcases Nat.lt_or_ge s n with e | e
  · exact e
  · exfalso
    unfold kd at h
    rw [if_pos e] at h
    omega
theorem kw_in {b : Nat → Nat} {n s k : Nat} (h : kw b n s = some k) : s < n := kd_in (kwA_is h).2.1 (by omega)
theorem opM_in {b : Nat → Nat} {n s a : Nat} (h : opM b n s = some a) : s < n ∧ a < 8 := by
  unfold opM at h
  by_cases h1 : kd b n s = 42
  · rw [if_pos h1] at h; obtain rfl := Option.some.inj h; exact ⟨kd_in h1 (by omega), by omega⟩
  · rw [if_neg h1] at h
    by_cases h2 : kd b n s = 47
    · rw [if_pos h2] at h; obtain rfl := Option.some.inj h; exact ⟨kd_in h2 (by omega), by omega⟩
    · rw [if_neg h2] at h; cases h
theorem opS_in {b : Nat → Nat} {n s a : Nat} (h : opS b n s = some a) : s < n ∧ a < 8 := by
  unfold opS at h
  by_cases h1 : kd b n s = 43
  · rw [if_pos h1] at h; obtain rfl := Option.some.inj h; exact ⟨kd_in h1 (by omega), by omega⟩
  · rw [if_neg h1] at h
    by_cases h2 : kd b n s = 45
    · rw [if_pos h2] at h; obtain rfl := Option.some.inj h; exact ⟨kd_in h2 (by omega), by omega⟩
    · rw [if_neg h2] at h; cases h
theorem opC_in {b : Nat → Nat} {n s a : Nat} (h : opC b n s = some a) : s < n ∧ a < 8 := by
  unfold opC at h
  by_cases h1 : kd b n s = 60
  · rw [if_pos h1] at h; obtain rfl := Option.some.inj h; exact ⟨kd_in h1 (by omega), by omega⟩
  · rw [if_neg h1] at h
    by_cases h2 : kd b n s = 61
    · rw [if_pos h2] at h; obtain rfl := Option.some.inj h; exact ⟨kd_in h2 (by omega), by omega⟩
    · rw [if_neg h2] at h; cases h
theorem opA_in {b : Nat → Nat} {n s a : Nat} (h : opA b n s = some a) : s < n ∧ a < 8 := by
  unfold opA at h
  by_cases h1 : kw b n s = some 13
  · rw [if_pos h1] at h; obtain rfl := Option.some.inj h; exact ⟨kw_in h1, by omega⟩
  · rw [if_neg h1] at h; cases h
theorem opO_in {b : Nat → Nat} {n s a : Nat} (h : opO b n s = some a) : s < n ∧ a < 8 := by
  unfold opO at h
  by_cases h1 : kw b n s = some 14
  · rw [if_pos h1] at h; obtain rfl := Option.some.inj h; exact ⟨kw_in h1, by omega⟩
  · rw [if_neg h1] at h; cases h
theorem rB_g {b : Nat → Nat} {n s B B' : Nat} {r : Res} {k : List Op → Nat → Res} (h : gR b n s B r) (hk : ∀ E s', r = .inr (E, s') → gR b n s B (.inr (E, s')) → gR b n s B' (k E s')) : gR b n s B' (rB r k) := by
  cases r with
  | inl f => exact h
  | inr p =>
    obtain ⟨E, s'⟩ := p
    exact hk E s' rfl h
theorem vl_lt {b : Nat → Nat} {n s : Nat} (h : kd b n s = 48) (h4 : szT b n s ≤ 4) : vlA b s (szT b n s) < 10000 ∧ szT b n s = rn dgB b n s ∧ dgB (b s) = true := by
  have hs := kd_in h (by omega)
  have hd : ltB (b s) = false ∧ dgB (b s) = true := by
    unfold kd at h
    rw [if_neg (by omega)] at h
    cases q1 : ltB (b s) with
    | true => rw [q1, if_pos rfl] at h; omega
    | false =>
      cases q2 : dgB (b s) with
      | true => exact ⟨rfl, rfl⟩
      | false =>
        rw [q1, q2] at h
        cases q3 : sgnB (b s) with
        | true =>
          rw [q3] at h
          have h : b s = 48 := h
          rw [h] at q3
          exact absurd q3 (by decide)
        | false =>
          rw [q3] at h
          have h : (1 : Nat) = 48 := h
          omega
  have e : szT b n s = rn dgB b n s := by unfold szT; rw [if_neg (by omega), hd.1, hd.2]; rfl
  refine ⟨?_, e, hd.2⟩
  have hv : vlA b s (szT b n s) < 10 ^ (min (szT b n s) 4) := vlA_lt (fun i hi => by
    have := rn_in (P := dgB) (b := b) (n := n) (k := szT b n s) (s := s) (by omega) i hi
    unfold dgB at this
    have : 48 ≤ b (s + i) ∧ b (s + i) ≤ 57 := by simpa using this
    exact this.2)
  exact Nat.lt_of_lt_of_le hv (Nat.le_trans (Nat.pow_le_pow_right (by omega) (Nat.min_le_right _ 4)) (by decide))
theorem pPart_g {b : Nat → Nat} {n mn B d : Nat} {rec : Nat → Nat → Res} (hm : mn ≤ 6) (hB : 1 ≤ B) (hr : ∀ s, s ≤ n → gR b n s B (rec (d + 1) s)) {s : Nat} (hs : s ≤ n) : gR b n s B (pPart b n mn rec d s) := by
  unfold pPart
  by_cases h1 : kd b n s = 40
  · rw [if_pos h1]
    have hsn := kd_in h1 (by omega)
    have a1 := nxT_lt (b := b) hsn
    have a2 := nxT_le (b := b) hs
    have := hr (nxT b n s) a2.2
    cases e : rec (d + 1) (nxT b n s) with
    | inl f => rw [rB_l]; rw [e] at this; exact this
    | inr p =>
      obtain ⟨E, s'⟩ := p
      rw [rB_r]
      rw [e] at this
      obtain ⟨g0, g1, g2, g3⟩ := this
      by_cases h2 : kd b n s' = 41
      · rw [if_pos h2]
        have c1 := nxT_le (b := b) g2
        exact ⟨g0, by omega, c1.2, g3⟩
      · rw [if_neg h2]
        exact gR_l g2 (Or.inl rfl)
  · rw [if_neg h1]
    by_cases h2 : kd b n s = 48
    · rw [if_pos h2]
      have hsn := kd_in h2 (by omega)
      have a1 := nxT_lt (b := b) hsn
      have a2 := nxT_le (b := b) hs
      by_cases h3 : szT b n s ≤ 4
      · rw [if_pos h3]
        refine ⟨Nat.le_refl _, by show 1 + s ≤ _; omega, a2.2, fun h r hb hw => ?_⟩
        show wfR h ((0, _) :: r)
        unfold wfR
        rw [if_pos (show (0 : Nat) = 0 from rfl)]
        exact ⟨by omega, (vl_lt h2 h3).1, hw⟩
      · rw [if_neg h3]
        exact gR_l hs (Or.inr (Or.inl rfl))
    · rw [if_neg h2]
      by_cases h3 : kd b n s = 97
      · rw [if_pos h3]
        have hsn := kd_in h3 (by omega)
        have a1 := nxT_lt (b := b) hsn
        have a2 := nxT_le (b := b) hs
        cases e : pVal b n mn s with
        | none => exact gR_l hs (Or.inr (Or.inr rfl))
        | some k =>
          have hk : k ≤ 6 := by
            unfold pVal at e
            cases e2 : kw b n s with
            | none => rw [e2] at e; cases e
            | some j =>
              rw [e2] at e
              by_cases q : j ≤ mn
              · have e : (if j ≤ mn then some j else none) = some k := e
                rw [if_pos q] at e
                obtain rfl := Option.some.inj e
                omega
              · have e : (if j ≤ mn then some j else none) = some k := e
                rw [if_neg q] at e; cases e
          refine ⟨Nat.le_refl _, by show 1 + s ≤ _; omega, a2.2, fun h r hb hw => ?_⟩
          show wfR h ((1, k) :: r)
          unfold wfR
          rw [if_neg (show ¬ (1 : Nat) = 0 by omega), if_pos (show (1 : Nat) = 1 from rfl)]
          exact ⟨by omega, by show k < 7; omega, hw⟩
      · rw [if_neg h3]
        exact gR_l hs (Or.inl rfl)
theorem pProd_g {b : Nat → Nat} {n mn B d : Nat} {rec : Nat → Nat → Res} (hm : mn ≤ 6) (hB : 1 ≤ B) (hr : ∀ s, s ≤ n → gR b n s B (rec (d + 1) s)) {s : Nat} (hs : s ≤ n) : gR b n s (B + 1) (pProd b n mn rec d s) := by
  unfold pProd
  refine rB_g (pPart_g hm hB hr hs) (fun E s' _ h => pLoop_g (fun s a => opM_in) (fun s hs => pPart_g hm hB hr hs) _ _ _ (h.up (by omega)))
theorem pSum_g {b : Nat → Nat} {n mn B d : Nat} {rec : Nat → Nat → Res} (hm : mn ≤ 6) (hB : 1 ≤ B) (hr : ∀ s, s ≤ n → gR b n s B (rec (d + 1) s)) {s : Nat} (hs : s ≤ n) : gR b n s (B + 2) (pSum b n mn rec d s) := by
  unfold pSum
  refine rB_g (pProd_g hm hB hr hs) (fun E s' _ h => pLoop_g (fun s a => opS_in) (fun s hs => pProd_g hm hB hr hs) _ _ _ (h.up (by omega)))
theorem pCmp_g {b : Nat → Nat} {n mn B d : Nat} {rec : Nat → Nat → Res} (hm : mn ≤ 6) (hB : 1 ≤ B) (hr : ∀ s, s ≤ n → gR b n s B (rec (d + 1) s)) {s : Nat} (hs : s ≤ n) : gR b n s (B + 3) (pCmp b n mn rec d s) := by
  unfold pCmp
  refine rB_g (pSum_g hm hB hr hs) (fun E s1 _ h => ?_)
  cases ho : opC b n s1 with
  | none => exact h.up (by omega)
  | some a =>
    have := pLoop_g (op := opC b n) (fun s a => opC_in) (fun s hs => pSum_g (d := d) hm hB hr hs) 1 E s1 (h.up (by omega))
    rw [pLoop_s ho] at this
    exact this
theorem wf_nots {h : Nat} (h1 : 1 ≤ h) : ∀ {j : Nat} {r : List Op}, wfR h r → wfR h (List.replicate j (2, 0) ++ r)
  | 0, r, hr => hr
  | j + 1, r, hr => wfR_not h1 (wf_nots h1 hr)
theorem pNots_g {b : Nat → Nat} {n mn B d s0 : Nat} {rec : Nat → Nat → Res} (hm : mn ≤ 6) (hB : 1 ≤ B) (hr : ∀ s, s ≤ n → gR b n s B (rec (d + 1) s)) : ∀ {k j s : Nat}, s ≤ n → s0 + j ≤ s → 7 ≤ k + j → j ≤ 6 → gR b n s0 (B + 3) (pNots b n mn rec d k j s)
  | 0, j, s, _, _, hk, hj => by omega
  | k + 1, j, s, hs, h0, hk, hj => by
    unfold pNots
    by_cases h1 : kw b n s = some 15
    · rw [if_pos h1]
      by_cases h2 : j = 6
      · rw [if_pos h2]; exact gR_l hs (Or.inr (Or.inl rfl))
      · rw [if_neg h2]
        have a1 := nxT_lt (b := b) (kw_in h1)
        have a2 := nxT_le (b := b) hs
        exact pNots_g hm hB hr a2.2 (by omega) (by omega) (by omega)
    · rw [if_neg h1]
      have hc := pCmp_g (d := d) hm hB hr hs
      cases e : pCmp b n mn rec d s with
      | inl f => rw [rB_l]; rw [e] at hc; exact hc
      | inr p =>
        obtain ⟨E, s'⟩ := p
        rw [rB_r]
        rw [e] at hc
        obtain ⟨g0, g1, g2, g3⟩ := hc
        refine ⟨by rw [List.length_append]; omega, by rw [List.length_append, List.length_replicate]; omega, g2, fun h r hb hw => ?_⟩
        rw [List.append_assoc]
        exact g3 h _ hb (wf_nots (by omega) hw)
theorem pNot_g {b : Nat → Nat} {n mn B d : Nat} {rec : Nat → Nat → Res} (hm : mn ≤ 6) (hB : 1 ≤ B) (hr : ∀ s, s ≤ n → gR b n s B (rec (d + 1) s)) {s : Nat} (hs : s ≤ n) : gR b n s (B + 3) (pNot b n mn rec d s) := pNots_g hm hB hr hs (by omega) (by omega) (by omega)
theorem pAnd_g {b : Nat → Nat} {n mn B d : Nat} {rec : Nat → Nat → Res} (hm : mn ≤ 6) (hB : 1 ≤ B) (hr : ∀ s, s ≤ n → gR b n s B (rec (d + 1) s)) {s : Nat} (hs : s ≤ n) : gR b n s (B + 4) (pAnd b n mn rec d s) := by
  unfold pAnd
  refine rB_g (pNot_g hm hB hr hs) (fun E s' _ h => pLoop_g (fun s a => opA_in) (fun s hs => pNot_g hm hB hr hs) _ _ _ (h.up (by omega)))
theorem pOr_g {b : Nat → Nat} {n mn B d : Nat} {rec : Nat → Nat → Res} (hm : mn ≤ 6) (hB : 1 ≤ B) (hr : ∀ s, s ≤ n → gR b n s B (rec (d + 1) s)) {s : Nat} (hs : s ≤ n) : gR b n s (B + 5) (pOr b n mn rec d s) := by
  unfold pOr
  refine rB_g (pAnd_g hm hB hr hs) (fun E s' _ h => pLoop_g (fun s a => opO_in) (fun s hs => pAnd_g hm hB hr hs) _ _ _ (h.up (by omega)))
theorem pExN_g {b : Nat → Nat} {n mn : Nat} (hm : mn ≤ 6) : ∀ {k d s : Nat}, s ≤ n → gR b n s (5 * k + 1) (pExN b n mn k d s)
  | 0, d, s, hs => gR_l (Nat.zero_le _) (Or.inl rfl)
  | k + 1, d, s, hs => by
    show gR b n s _ (pEx b n mn (pExN b n mn k) d s)
    unfold pEx
    by_cases h : 6 ≤ d ∧ (kd b n s = 48 ∨ kd b n s = 97 ∨ kd b n s = 40)
    · rw [if_pos h]; exact gR_l hs (Or.inr (Or.inl rfl))
    · rw [if_neg h]
      exact (pOr_g (B := 5 * k + 1) hm (by omega) (fun s hs => pExN_g hm hs) hs).up (by omega)
end
