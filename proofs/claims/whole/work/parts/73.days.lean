section
/-- days that go by on both sides -/
def DR (t : Tn) (sn : Nat) (y : Yw) (o : wO) (wx wm : wS) : Prop := XC t o wx ∧ wx.1 3008 = nI sn ∧ XY y (wx.2.1 32) ∧ TM t wm ∧ EM (exC sn) wm ∧ YM y (wm.2.1 16) 33
/-- since the question began -/
def DI (t : Tn) (sn : Nat) (y : Yw) (o : wO) (wx wm wx' wm' : wS) : Prop := QX wx wx' ∧ QM wm wm' ∧ wm'.1 0 = nI 0 ∧ DR t sn y o wx' wm' ∧ tOk t ∧ yOk t y
theorem d_begin {γ δ : Type} {t : Tn} {y : Yw} {o : wO} {wx wm wm1 : wS} {kx : wS → Option γ} {km : wS → Option δ} {Q : γ → δ → Prop} (h : PQ t y o wx wm) (q : QM wm wm1) (h0 : wm1.1 0 = nI 0) (hk : ∀ wx' wm', DI t 0 y o wx wm wx' wm' → wx'.1 3011 = nI 0 → (∀ p, p < 8 → wx'.2.1 34 p = nI 0) → (∀ k, wm'.1 k = wm1.1 k) → (∀ c, c ≠ 16 → wm'.2.1 c = wm1.2.1 c) → R2 (kx wx') (km wm') Q) : R2 (xB (L_X9_fromNow o wx) kx) (xB (L_X10_tries wm1) km) Q := by
  have h1 := h.q QX.refl q
  have em := h1.em
  obtain ⟨⟨ho, hy, hD⟩, ⟨hT, hY⟩, hTm, hYm, _⟩ := h1
  refine R2.x (x_fromNow hT ho hY) ?_
  rintro wx' ⟨a1, a2, a3, a4, a5, a6⟩
  refine R2.m (m_tries hYm) ?_
  rintro wm' ⟨b1, b2, b3, b4⟩
  exact hk wx' wm' ⟨a1, q.trans (QM.f b1), (b2 0).trans h0, ⟨a2, a3, a5, b1.T hTm, b1.X em, b4⟩, ho, hy⟩ a4 a6 b2 b3
theorem d_day {γ δ : Type} {t : Tn} {sn : Nat} {y : Yw} {o : wO} {wx wm wx1 wm1 : wS} {kx : wS → Option γ} {km : wS → Option δ} {Q : γ → δ → Prop} (h : DI t sn y o wx wm wx1 wm1) (hs : sn ≤ 15) (hD : yD y < 2000) (hk : ∀ wx' wm', DI t sn (dayY t (exC sn) y) o wx wm wx' wm' → xO t (exC sn) y (tD t) (wx1.2.1 34) wx' → mO t (exC sn) y (tD t) wm' → Fr xKs xAs wx1 wx' → mF 33 wm1 wm' → R2 (kx wx') (km wm') Q) : R2 (xB (L_X1_oneDay o wx1) kx) (xB (L_X10_dayGoes (nI 33) wm1) km) Q := by
  obtain ⟨q1, q2, q3, ⟨r1, r2, r3, r4, r5, r6⟩, ho, hy⟩ := h
  refine R2.x (x_oneDay r1 ho hy hs r2 r3) ?_
  rintro wx' ⟨a1, a2, a3, a4⟩
  refine R2.m (m_dayGoes r4 r5 ho hy (by omega) r6) ?_
  rintro wm' ⟨b1, b2, b3⟩
  exact hk wx' wm' ⟨q1.trans (QX.fr2 a1), q2.trans (QM.f b1), (b1.1.1 0 (by decide)).trans q3, ⟨r1.fr a1, a2, a3, b1.T r4, b1.X r5, b2⟩, ho, dayY_ok hy hD⟩ a4 b3 a1 b1
theorem d_many {γ δ : Type} {t : Tn} {y : Yw} {o : wO} {wx wm wm1 : wS} {n : Nat} {kx : wS → Option γ} {km : wS → Option δ} {Q : γ → δ → Prop} (h : PQ t y o wx wm) (q : QM wm wm1) (h0 : wm1.1 0 = nI 0) (hn : n ≤ 40) (hk : ∀ wx' wm', DI t 0 (daysY t (exC 0) y n) o wx wm wx' wm' → (∀ m, n = m + 1 → ∃ A, xO t (exC 0) (daysY t (exC 0) y m) (tD t) A wx') → (∀ m, n = m + 1 → mO t (exC 0) (daysY t (exC 0) y m) (tD t) wm') → (∃ A : Nat → Int32, (∀ p, p < 8 → A p = nI 0) ∧ wx'.2.1 34 = rgD t (exC 0) y n A) → R2 (kx wx') (km wm') Q) : R2 (xB (L_X9_fromNow o wx) fun w => xB (L_X1_manyDays o (nI n) w) kx) (xB (L_X10_goesTo (nI n) wm1) km) Q := by
  have h1 := h.q QX.refl q
  have em := h1.em
  obtain ⟨⟨ho, hy, hD⟩, ⟨hT, hY⟩, hTm, hYm, _⟩ := h1
  refine R2.x (x_fromNow hT ho hY) ?_
  rintro wx1 ⟨a1, a2, a3, a4, a5, a6⟩
  refine R2.x (x_manyDays a2 ho hy (by omega) a3 hn (by omega) a5) ?_
  rintro wx' ⟨c1, k8, c2, c3, c4⟩
  refine R2.m (m_goesTo hTm em ho hy hn (by omega) hYm) ?_
  rintro wm' ⟨b1, b2, b3⟩
  exact hk wx' wm' ⟨a1.trans (QX.fr2 c1), q.trans (QM.f b1), (b1.1.1 0 (by decide)).trans h0, ⟨a2.fr c1, k8, c2, b1.T hTm, b1.X em, b2⟩, ho, daysY_ok hy n (by omega)⟩ (fun m hm => ⟨_, c3 m hm⟩) b3 ⟨_, a6, c4⟩
end
