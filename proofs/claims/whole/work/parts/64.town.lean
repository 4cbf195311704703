/-! ===== towns and rows ===== -/
abbrev Tn : Type := (Nat × Nat × Nat) × ((Nat → Nat) × (Nat → Nat) × (Nat → Nat) × (Nat → Nat)) × Option (List Op) × Option (List Op)
abbrev tP (t : Tn) : Nat := t.1.1
abbrev tD (t : Tn) : Nat := t.1.2.1
abbrev tC (t : Tn) : Nat := t.1.2.2
abbrev tK (t : Tn) : Nat → Nat := t.2.1.1
abbrev tH (t : Tn) : Nat → Nat := t.2.1.2.1
abbrev tO (t : Tn) : Nat → Nat := t.2.1.2.2.1
abbrev tW (t : Tn) : Nat → Nat := t.2.1.2.2.2
abbrev tR (t : Tn) : Option (List Op) := t.2.2.1
abbrev tS (t : Tn) : Option (List Op) := t.2.2.2
/-- the town, if one's habit were another -/
def tH' (t : Tn) (h : Nat → Nat) : Tn := (t.1, (t.2.1.1, h, t.2.1.2.2), t.2.2)
def tOk (t : Tn) : Prop := tP t ≤ 8 ∧ tD t ≤ 6 ∧ tC t ≤ 9 ∧ (∀ p, tK t p ≤ 2) ∧ (∀ p, tH t p ≤ 60) ∧ (∀ p, tO t p ≤ 30) ∧ (∀ d, tW t d ≤ 30) ∧ (∀ s, tR t = some s → wfR 0 s ∧ s.length ≤ 700) ∧ ∀ s, tS t = some s → wfR 0 s ∧ s.length ≤ 700
/-- day, ringer, ill; haste, late, rung, due -/
abbrev Yw : Type := (Nat × Option Nat × Int32) × (Nat → Nat) × (Nat → Nat) × (Nat → Nat) × (Nat → Nat)
abbrev yD (y : Yw) : Nat := y.1.1
abbrev yR (y : Yw) : Option Nat := y.1.2.1
abbrev yI (y : Yw) : Int32 := y.1.2.2
abbrev yH (y : Yw) : Nat → Nat := y.2.1
abbrev yL (y : Yw) : Nat → Nat := y.2.2.1
abbrev yU (y : Yw) : Nat → Nat := y.2.2.2.1
abbrev yE (y : Yw) : Nat → Nat := y.2.2.2.2
def yOk (t : Tn) (y : Yw) : Prop := yD y ≤ 2000 ∧ (∀ r, yR y = some r → r < tP t) ∧ (∀ p, yH y p ≤ 60) ∧ (∀ p, yL y p ≤ 999) ∧ (∀ p, yU y p ≤ 999) ∧ ∀ d, yE y d ≤ 999
def oI (r : Option Nat) : Int32 := match r with
  | none => mI
  | some p => nI p
theorem oI_n : oI none = mI := Eq.trans rfl rfl
theorem oI_s (p : Nat) : oI (some p) = nI p := Eq.trans rfl rfl
theorem oI_eqI {a b : Option Nat} (ha : ∀ p, a = some p → p < 2 ^ 31) (hb : ∀ p, b = some p → p < 2 ^ 31) : oI a = oI b ↔ a = b := by
  cases a with
  | none => cases b with
    | none => exact ⟨fun _ => rfl, fun _ => rfl⟩
    | some q => rw [oI_n, oI_s, m1_nI (hb q rfl)]; exact ⟨fun h => h.elim, fun h => by cases h⟩
  | some p => cases b with
    | none => rw [oI_n, oI_s, nI_m1 (ha p rfl)]; exact ⟨fun h => h.elim, fun h => by cases h⟩
    | some q => rw [oI_s, oI_s, nI_eq (ha p rfl) (hb q rfl)]; exact ⟨fun h => by rw [h], fun h => Option.some.inj h⟩
def fu (f : Nat → Nat) (k v : Nat) : Nat → Nat := fun i => if i = k then v else f i
theorem fu_s (f : Nat → Nat) (k v i : Nat) : fu f k v i = if i = k then v else f i := Eq.trans rfl rfl
def dist (a b : Nat) : Nat := if b ≤ a then a - b else b - a
def far (t : Tn) (p d : Nat) : Nat := dist (tO t p) (tW t d)
def way (t : Tn) (y : Yw) (p d : Nat) : Nat := tC t * far t p d + tH t p - yH y p
def cmB (t : Tn) (y : Yw) (p : Nat) : Bool := decide (tK t p ≠ 2) && decide (bN (yI y) p = 0)
def val (t : Tn) (y : Yw) (p d k : Nat) : Int32 := if k = 0 then nI (yL y p) else if k = 1 then nI (tH t p) else if k = 2 then nI (yH y p) else if k = 3 then nI (yU y p) else if k = 4 then nI d else if k = 5 then nI (yD y) else nI (far t p d)
/-- between 0 and n -/
def clN (v : Int32) (n : Nat) : Nat := min v.toInt.toNat n
def beh (t : Tn) (y : Yw) (d : Nat) : Nat := match yR y with
  | none => 0
  | some r => match tR t with
    | none => min (yL y r / 2) 120
    | some s => clN (evR (val t y r d) s []) 120
def rgU (y : Yw) : Nat → Nat := match yR y with
  | none => yU y
  | some r => fu (yU y) r (min 999 (yU y r + 1))
abbrev Ex : Type := Nat → Nat → Nat
def mins (t : Tn) (ex : Ex) (y : Yw) (d p : Nat) : Nat := (if tK t p = 1 then 0 else beh t y d + way t y p d) + ex d p
def cam (t : Tn) (ex : Ex) (y : Yw) (d p : Nat) : Option Nat := if cmB t y p = true then some (yE y d + mins t ex y d p) else none
def cmN (t : Tn) (ex : Ex) (y : Yw) (d p : Nat) : Nat := yE y d + mins t ex y d p
def ltr (c f : Nat → Nat) (p q : Nat) : Bool := decide (c q < c p) || (decide (c p = c q) && (decide (f p < f q) || (decide (f p = f q) && decide (p < q))))
def lstW (can : Nat → Bool) (c f : Nat → Nat) : Nat → Option Nat
  | 0 => none
  | p + 1 => if can p = true then (match lstW can c f p with
      | none => some p
      | some q => if ltr c f p q = true then some p else some q) else lstW can c f p
def canL (t : Tn) (y : Yw) (p : Nat) : Bool := cmB t y p && decide (tK t p ≠ 1)
def lst (t : Tn) (ex : Ex) (y : Yw) (d : Nat) : Option Nat := lstW (canL t y) (cmN t ex y d) (fun p => far t p d) (tP t)
def ltL (t : Tn) (ex : Ex) (y : Yw) (d : Nat) : Nat → Nat → Nat
  | 0 => yL y
  | p + 1 => if cmB t y p = true then fu (ltL t ex y d p) p (min (mins t ex y d p) 999) else ltL t ex y d p
def mnd (t : Tn) (y : Yw) (l d : Nat) : Nat := match tS t with
  | none => 1
  | some s => clN (evR (val t y l d) s []) 9
/-- all have come -/
def yCome (t : Tn) (ex : Ex) (y : Yw) (d : Nat) : Yw := ((yD y, lst t ex y d, yI y), yH y, ltL t ex y d (tP t), rgU y, yE y)
def turn (t : Tn) (ex : Ex) (y : Yw) (d : Nat) : Yw := match lst t ex y d with
  | none => yCome t ex y d
  | some l => ((yD y, some l, yI y), fu (yH y) l (min 60 (yH y l + mnd t (yCome t ex y d) l d)), ltL t ex y d (tP t), rgU y, yE y)
def who1 (r : Option Nat) (v : Int32) : Int32 := match r with
  | none => v
  | some r => v ||| (nI 1 <<< (nI r &&& nI 31))
def turns (t : Tn) (ex : Ex) (y : Yw) : Nat → Yw
  | 0 => y
  | d + 1 => turn t ex (turns t ex y d) d
def whoS (t : Tn) (ex : Ex) (y : Yw) : Nat → Int32
  | 0 => nI 0
  | d + 1 => who1 (yR (turns t ex y d)) (whoS t ex y d)
def behS (t : Tn) (ex : Ex) (y : Yw) (d : Nat) : Nat := beh t (turns t ex y d) d
def lstS (t : Tn) (ex : Ex) (y : Yw) (d : Nat) : Option Nat := lst t ex (turns t ex y d) d
def camS (t : Tn) (ex : Ex) (y : Yw) (d p : Nat) : Option Nat := cam t ex (turns t ex y d) d p
def behT (t : Tn) (ex : Ex) (y : Yw) : Nat → Nat
  | 0 => 0
  | d + 1 => behT t ex y d + behS t ex y d
def hndT (t : Tn) (ex : Ex) (y : Yw) : Nat → Nat
  | 0 => 0
  | d + 1 => hndT t ex y d + if lstS t ex y d = yR (turns t ex y d) then 0 else 1
def endH (v : Int32) (h : Nat → Nat) : Nat → Nat → Nat
  | 0 => h
  | p + 1 => if bN v p = 0 then fu (endH v h p) p (h p - 1) else endH v h p
def dayY (t : Tn) (ex : Ex) (y : Yw) : Yw :=
  ((yD (turns t ex y (tD t)) + 1, yR (turns t ex y (tD t)), yI (turns t ex y (tD t))), endH (whoS t ex y (tD t)) (yH (turns t ex y (tD t))) (tP t), yL (turns t ex y (tD t)), yU (turns t ex y (tD t)), yE (turns t ex y (tD t)))
def daysY (t : Tn) (ex : Ex) (y : Yw) : Nat → Yw
  | 0 => y
  | n + 1 => dayY t ex (daysY t ex y n)
/-! what stays within its bounds -/
theorem endH_at (v : Int32) (h : Nat → Nat) (p : Nat) : ∀ n, endH v h n p = if p < n ∧ bN v p = 0 then h p - 1 else h p
  | 0 => by rw [if_neg (by omega)]; rfl
  | n + 1 => by
    unfold endH
    have ih := endH_at v h p n
    by_cases hb : bN v n = 0
    · rw [if_pos hb, fu_s]
      by_cases e : p = n
      · subst e; rw [if_pos rfl, if_pos ⟨by omega, hb⟩]
      · rw [if_neg e, ih]
        by_cases q : p < n ∧ bN v p = 0
        · rw [if_pos q, if_pos ⟨by omega, q.2⟩]
        · rw [if_neg q, if_neg (by rintro ⟨q1, q2⟩; exact q ⟨by omega, q2⟩)]
    · rw [if_neg hb, ih]
      by_cases q : p < n ∧ bN v p = 0
      · rw [if_pos q, if_pos ⟨by omega, q.2⟩]
      · rw [if_neg q, if_neg (by
          rintro ⟨q1, q2⟩
          by_cases e : p = n
          · subst e; exact hb q2
          · exact q ⟨by omega, q2⟩)]
theorem lstW_lt {can : Nat → Bool} {c f : Nat → Nat} : ∀ {n l : Nat}, lstW can c f n = some l → l < n ∧ can l = true
  | 0, l, h => by cases h
  | n + 1, l, h => by
    unfold lstW at h
    by_cases hc : can n = true
    · rw [if_pos hc] at h
      cases hq : lstW can c f n with
      | none =>
        rw [hq] at h
        obtain rfl := Option.some.inj h
        exact ⟨by omega, hc⟩
      | some q =>
        rw [hq] at h
        have := lstW_lt hq
        by_cases hl : ltr c f n q = true
        · have h : (if ltr c f n q = true then some n else some q) = some l := h
          rw [if_pos hl] at h
          obtain rfl := Option.some.inj h
          exact ⟨by omega, hc⟩
        · have h : (if ltr c f n q = true then some n else some q) = some l := h
          rw [if_neg hl] at h
          obtain rfl := Option.some.inj h
          exact ⟨by omega, this.2⟩
    · rw [if_neg hc] at h
      have := lstW_lt h
      exact ⟨by omega, this.2⟩
theorem dist_le {a b n : Nat} (ha : a ≤ n) (hb : b ≤ n) : dist a b ≤ n := by
  unfold dist
  split <;> omega
theorem far_le {t : Tn} (h : tOk t) (p d : Nat) : far t p d ≤ 30 := dist_le (h.2.2.2.2.2.1 p) (h.2.2.2.2.2.2.1 d)
theorem way_le {t : Tn} (h : tOk t) (y : Yw) (p d : Nat) : way t y p d ≤ 330 ∧ tC t * far t p d + tH t p ≤ 330 := by
  have h1 := far_le h p d
  have h2 := h.2.2.1
  have h3 := h.2.2.2.2.1 p
  have : tC t * far t p d ≤ 9 * 30 := Nat.mul_le_mul h2 h1
  unfold way
  omega
theorem clN_le (v : Int32) (n : Nat) : clN v n ≤ n := Nat.min_le_right _ _
theorem beh_le (t : Tn) (y : Yw) (d : Nat) : beh t y d ≤ 120 := by
  unfold beh
  split
  · omega
  · split
    · exact Nat.min_le_right _ _
    · exact clN_le _ _
theorem mnd_le (t : Tn) (y : Yw) (l d : Nat) : mnd t y l d ≤ 9 := by
  unfold mnd
  split
  · omega
  · exact clN_le _ _
theorem ltL_le {t : Tn} {ex : Ex} {y : Yw} {d : Nat} (h : ∀ p, yL y p ≤ 999) : ∀ n p, ltL t ex y d n p ≤ 999
  | 0, p => h p
  | n + 1, p => by
    unfold ltL
    split
    · rw [fu_s]
      split
      · exact Nat.min_le_right _ _
      · exact ltL_le h n p
    · exact ltL_le h n p
theorem rgU_le {y : Yw} (h : ∀ p, yU y p ≤ 999) (p : Nat) : rgU y p ≤ 999 := by
  unfold rgU
  cases yR y with
  | none => exact h p
  | some r =>
    show fu _ _ _ p ≤ 999
    rw [fu_s]
    split
    · exact Nat.min_le_left _ _
    · exact h p
theorem turn_ok {t : Tn} {ex : Ex} {y : Yw} {d : Nat} (h : yOk t y) : yOk t (turn t ex y d) := by
  obtain ⟨h1, h2, h3, h4, h5, h6⟩ := h
  unfold turn
  cases hl : lst t ex y d with
  | none => exact ⟨h1, fun r hr => by
      have hr : lst t ex y d = some r := hr
      exact absurd (hl.symm.trans hr) (by intro z; cases z), h3, fun p => ltL_le h4 _ p, fun p => rgU_le h5 p, h6⟩
  | some l => exact ⟨h1, fun r hr => by
      obtain rfl := Option.some.inj hr
      exact (lstW_lt hl).1, fun p => by
      show fu _ _ _ p ≤ 60
      rw [fu_s]
      split
      · exact Nat.min_le_left _ _
      · exact h3 p, fun p => ltL_le h4 _ p, fun p => rgU_le h5 p, h6⟩
theorem turn_same {t : Tn} {ex : Ex} {y : Yw} {d : Nat} : yD (turn t ex y d) = yD y ∧ yI (turn t ex y d) = yI y ∧ yE (turn t ex y d) = yE y := by
  unfold turn
  cases lst t ex y d <;> exact ⟨rfl, rfl, rfl⟩
theorem turn_yR {t : Tn} {ex : Ex} {y : Yw} {d : Nat} : yR (turn t ex y d) = lst t ex y d := by
  unfold turn
  cases hl : lst t ex y d with
  | none => exact hl
  | some l => rfl
theorem turns_ok {t : Tn} {ex : Ex} {y : Yw} (h : yOk t y) : ∀ d, yOk t (turns t ex y d)
  | 0 => h
  | d + 1 => turn_ok (turns_ok h d)
theorem turns_same {t : Tn} {ex : Ex} {y : Yw} : ∀ d, yD (turns t ex y d) = yD y ∧ yI (turns t ex y d) = yI y ∧ yE (turns t ex y d) = yE y
  | 0 => ⟨rfl, rfl, rfl⟩
  | d + 1 => by
    have h1 := turns_same (t := t) (ex := ex) (y := y) d
    have h2 := turn_same (t := t) (ex := ex) (y := turns t ex y d) (d := d)
    exact ⟨h2.1.trans h1.1, h2.2.1.trans h1.2.1, h2.2.2.trans h1.2.2⟩
theorem dayY_ok {t : Tn} {ex : Ex} {y : Yw} (h : yOk t y) (hd : yD y < 2000) : yOk t (dayY t ex y) := by
  have hk := turns_ok (ex := ex) h (tD t)
  have hs := turns_same (t := t) (ex := ex) (y := y) (tD t)
  refine ⟨?_, hk.2.1, fun p => ?_, hk.2.2.2.1, hk.2.2.2.2.1, hk.2.2.2.2.2⟩
  · show yD (turns t ex y (tD t)) + 1 ≤ 2000
    rw [hs.1]; omega
  · show endH _ _ _ p ≤ 60
    rw [endH_at]
    have := hk.2.2.1 p
    split <;> omega
theorem dayY_same {t : Tn} {ex : Ex} {y : Yw} : yD (dayY t ex y) = yD y + 1 ∧ yI (dayY t ex y) = yI y ∧ yE (dayY t ex y) = yE y := by
  have hs := turns_same (t := t) (ex := ex) (y := y) (tD t)
  exact ⟨by show yD (turns t ex y (tD t)) + 1 = _; rw [hs.1], hs.2.1, hs.2.2⟩
theorem daysY_same {t : Tn} {ex : Ex} {y : Yw} : ∀ n, yD (daysY t ex y n) = yD y + n ∧ yI (daysY t ex y n) = yI y ∧ yE (daysY t ex y n) = yE y
  | 0 => ⟨rfl, rfl, rfl⟩
  | n + 1 => by
    have h1 := daysY_same (t := t) (ex := ex) (y := y) n
    have h2 := dayY_same (t := t) (ex := ex) (y := daysY t ex y n)
    exact ⟨h2.1.trans (by rw [h1.1]; omega), h2.2.1.trans h1.2.1, h2.2.2.trans h1.2.2⟩
theorem daysY_ok {t : Tn} {ex : Ex} {y : Yw} (h : yOk t y) : ∀ n, yD y + n ≤ 2000 → yOk t (daysY t ex y n)
  | 0, _ => h
  | n + 1, hn => dayY_ok (daysY_ok h n (by omega)) (by rw [(daysY_same n).1]; omega)
/-! clamps, as both compute them -/
theorem bounded_sub {a b n : Nat} (ha : a < 2 ^ 30) (hb : b < 2 ^ 30) (hn : n < 2 ^ 30) : L_X10_bounded (nI a - nI b) (nI 0) (nI n) = some (nI (min (a - b) n)) := by
  unfold L_X10_bounded J_X10_bounded_19
  rcases Nat.lt_or_ge a b with h | h
  · rw [if_neg (by
      intro q
      have := Int32.le_iff_toInt_le.mp q
      rw [nI_toInt (by omega), pk_sub_toInt ha hb] at this
      omega), show a - b = 0 by omega, Nat.zero_min]
  · rw [pk_sub h, if_pos ((nI_leI (by omega) (by omega)).mpr (by omega))]
    by_cases q : a - b ≤ n
    · rw [if_pos ((nI_leI (by omega) (by omega)).mpr q), Nat.min_eq_left q]
    · rw [if_neg (fun z => q ((nI_leI (by omega) (by omega)).mp z)), Nat.min_eq_right (by omega)]
theorem bounded_n {a n : Nat} (ha : a < 2 ^ 30) (hn : n < 2 ^ 30) : L_X10_bounded (nI a) (nI 0) (nI n) = some (nI (min a n)) := by
  have := bounded_sub (a := a) (b := 0) ha (by omega) hn
  rw [pk_sub (Nat.zero_le a), Nat.sub_zero] at this
  exact this
theorem toInt_nn {v : Int32} (h : 0 ≤ v.toInt) : v = nI v.toInt.toNat := by
  apply Int32.toInt_inj.mp
  have h2 := v.toInt_lt
  rw [nI_toInt (by omega)]
  omega
theorem bounded_v {v : Int32} {n : Nat} (hn : n < 2 ^ 30) : L_X10_bounded v (nI 0) (nI n) = some (nI (clN v n)) := by
  unfold L_X10_bounded J_X10_bounded_19 clN
  have h2 := v.toInt_lt
  by_cases h : 0 ≤ v.toInt
  · have e := toInt_nn h
    rw [if_pos (Int32.le_iff_toInt_le.mpr (by rw [nI_toInt (by omega)]; exact h))]
    by_cases q : v.toInt.toNat ≤ n
    · rw [if_pos (Int32.le_iff_toInt_le.mpr (by rw [nI_toInt (by omega)]; omega)), Nat.min_eq_left q, ← e]
    · rw [if_neg (fun z => q (by
        have := Int32.le_iff_toInt_le.mp z
        rw [nI_toInt (by omega)] at this
        omega)), Nat.min_eq_right (by omega)]
  · rw [if_neg (fun z => h (by
      have := Int32.le_iff_toInt_le.mp z
      rw [nI_toInt (by omega)] at this
      omega)), show v.toInt.toNat = 0 by omega, Nat.zero_min]
theorem lesser_n {a b : Nat} (ha : a < 2 ^ 31) (hb : b < 2 ^ 31) : L_X10_lesser (nI a) (nI b) = some (nI (min a b)) := by
  unfold L_X10_lesser J_X10_lesser_10
  by_cases h : b ≤ a
  · rw [if_pos ((nI_leI hb ha).mpr h), Nat.min_eq_right h]
  · rw [if_neg (fun z => h ((nI_leI hb ha).mp z)), Nat.min_eq_left (by omega)]
theorem off_n {a b : Nat} (ha : a < 2 ^ 31) (hb : b < 2 ^ 31) : L_X10_off (nI a) (nI b) = some (nI (dist a b)) := by
  unfold L_X10_off J_X10_off_14 dist
  by_cases h : b ≤ a
  · rw [if_pos ((nI_leI hb ha).mpr h), if_pos h, pk_sub h]
  · rw [if_neg (fun z => h ((nI_leI hb ha).mp z)), if_neg h, pk_sub (by omega)]
theorem xMax_n {a b : Nat} (ha : a < 2 ^ 31) (hb : b < 2 ^ 31) : xMax (nI a) (nI b) = nI (max a b) := by
  show (if nI a < nI b then nI b else nI a) = _
  by_cases h : a < b
  · rw [if_pos ((nI_ltI ha hb).mpr h), Nat.max_eq_right (by omega)]
  · rw [if_neg (fun z => h ((nI_ltI ha hb).mp z)), Nat.max_eq_left (by omega)]
theorem xMin_n {a b : Nat} (ha : a < 2 ^ 31) (hb : b < 2 ^ 31) : xMin (nI a) (nI b) = nI (min a b) := by
  show (if nI b < nI a then nI b else nI a) = _
  by_cases h : b < a
  · rw [if_pos ((nI_ltI hb ha).mpr h), Nat.min_eq_right (by omega)]
  · rw [if_neg (fun z => h ((nI_ltI hb ha).mp z)), Nat.min_eq_left (by omega)]
theorem xMax_sub {a b : Nat} (ha : a < 2 ^ 30) (hb : b < 2 ^ 30) : xMax (nI 0) (nI a - nI b) = nI (a - b) := by
  show (if nI 0 < nI a - nI b then nI a - nI b else nI 0) = _
  rcases Nat.lt_or_ge a b with h | h
  · rw [if_neg (fun q => by
      have := Int32.lt_iff_toInt_lt.mp q
      rw [nI_toInt (by omega), pk_sub_toInt ha hb] at this
      omega), show a - b = 0 by omega]
  · rw [pk_sub h]
    by_cases q : 0 < a - b
    · rw [if_pos ((nI_ltI (by omega) (by omega)).mpr q)]
    · rw [if_neg (fun z => q ((nI_ltI (by omega) (by omega)).mp z)), show a - b = 0 by omega]
theorem xAbs_sub {a b : Nat} (ha : a < 2 ^ 30) (hb : b < 2 ^ 30) : xAbs (nI a - nI b) = nI (dist a b) := by
  show (if 0 ≤ nI a - nI b then nI a - nI b else 0 - (nI a - nI b)) = _
  unfold dist
  rcases Nat.lt_or_ge a b with h | h
  · rw [if_neg (fun q => by
      have := Int32.le_iff_toInt_le.mp q
      rw [show (0 : Int32).toInt = 0 by decide, pk_sub_toInt ha hb] at this
      omega), if_neg (by omega), ← pk_sub (by omega : a ≤ b), Int32.zero_sub, Int32.neg_sub]
  · rw [if_pos (Int32.le_iff_toInt_le.mpr (by rw [show (0 : Int32).toInt = 0 by decide, pk_sub_toInt ha hb]; omega)), if_pos h, pk_sub h]
theorem x_within {v : Int32} {n : Nat} (hn : n < 2 ^ 30) : xMax (nI 0) (xMin (nI n) v) = nI (clN v n) := by
  have h2 := v.toInt_lt
  have hi : (xMin (nI n) v).toInt = if v.toInt < n then v.toInt else n := by
    show (if v < nI n then v else nI n).toInt = _
    by_cases h : v < nI n
    · rw [if_pos h]
      have := Int32.lt_iff_toInt_lt.mp h
      rw [nI_toInt (by omega)] at this
      rw [if_pos this]
    · rw [if_neg h, if_neg (fun q => h (Int32.lt_iff_toInt_lt.mpr (by rw [nI_toInt (by omega)]; exact q))), nI_toInt (by omega)]
  show (if nI 0 < xMin (nI n) v then xMin (nI n) v else nI 0) = _
  unfold clN
  by_cases h : 0 < (xMin (nI n) v).toInt
  · rw [if_pos (Int32.lt_iff_toInt_lt.mpr (by rw [nI_toInt (by omega)]; exact h)), toInt_nn (Int.le_of_lt h), hi]
    rw [hi] at h
    congr 1
    split at h <;> rename_i q
    · rw [if_pos q]; omega
    · rw [if_neg q]; omega
  · rw [if_neg (fun q => h (by
      have := Int32.lt_iff_toInt_lt.mp q
      rw [nI_toInt (by omega)] at this
      exact this))]
    rw [hi] at h
    congr 1
    split at h <;> omega
