/-! ===== Int32 by its bits: bt x i ===== -/
def bt (x : Int32) (i : Nat) : Bool := x.toBitVec.getLsbD i
theorem b_ext {x y : Int32} (h : ∀ i, i < 32 → bt x i = bt y i) : x = y := Int32.toBitVec_inj.mp (BitVec.eq_of_getLsbD_eq (fun i hi => h i hi))
theorem b_or (x y : Int32) (i : Nat) : bt (x ||| y) i = (bt x i || bt y i) := by unfold bt; rw [Int32.toBitVec_or, BitVec.getLsbD_or]
theorem b_and (x y : Int32) (i : Nat) : bt (x &&& y) i = (bt x i && bt y i) := by unfold bt; rw [Int32.toBitVec_and, BitVec.getLsbD_and]
theorem b_xor (x y : Int32) (i : Nat) : bt (x ^^^ y) i = (bt x i ^^ bt y i) := by unfold bt; rw [Int32.toBitVec_xor, BitVec.getLsbD_xor]
theorem b_big {x : Int32} {i : Nat} (h : 32 ≤ i) : bt x i = false := BitVec.getLsbD_of_ge _ _ h
theorem b_255 (i : Nat) : bt 255 i = decide (i < 8) := by
  rcases Nat.lt_or_ge i 32 with h | h
  · exact (by decide +kernel : ∀ i, i < 32 → bt 255 i = decide (i < 8)) i h
  · rw [b_big h, decide_eq_false (by omega)]
theorem b_65535 (i : Nat) : bt 65535 i = decide (i < 16) := by
  rcases Nat.lt_or_ge i 32 with h | h
  · exact (by decide +kernel : ∀ i, i < 32 → bt 65535 i = decide (i < 16)) i h
  · rw [b_big h, decide_eq_false (by omega)]
theorem b_m1 : ∀ i, i < 32 → bt (-1) i = true := by decide +kernel
theorem b_0 (i : Nat) : bt 0 i = false := BitVec.getLsbD_zero
theorem s_l : ∀ n, n < 32 → ((nI n &&& 31).toBitVec.smod 32).toNat = n := by decide +kernel
theorem s_u : ∀ n, n < 32 → (((nI n).toUInt32 &&& Int32.toUInt32 31).toBitVec % 32).toNat = n := by decide +kernel
theorem b_shl (n : Nat) (hn : n < 32) (x : Int32) {i : Nat} (hi : i < 32) : bt (x <<< (nI n &&& 31)) i = (decide (n ≤ i) && bt x (i - n)) := by
  unfold bt
  rw [Int32.toBitVec_shiftLeft]
  show (x.toBitVec <<< ((nI n &&& 31).toBitVec.smod 32).toNat).getLsbD i = _
  rw [s_l n hn, BitVec.getLsbD_shiftLeft]
  rcases Nat.lt_or_ge i n with h | h
  · simp [h, Nat.not_le.mpr h]
  · simp [hi, h, Nat.not_lt.mpr h]
theorem b_ushr (n : Nat) (hn : n < 32) (x : Int32) (i : Nat) : bt ((x.toUInt32 >>> ((nI n).toUInt32 &&& Int32.toUInt32 31)).toInt32) i = bt x (n + i) := by
  show (x.toUInt32 >>> ((nI n).toUInt32 &&& Int32.toUInt32 31)).toBitVec.getLsbD i = x.toUInt32.toBitVec.getLsbD (n + i)
  rw [UInt32.toBitVec_shiftRight]
  show (x.toUInt32.toBitVec >>> (((nI n).toUInt32 &&& Int32.toUInt32 31).toBitVec % 32).toNat).getLsbD i = _
  rw [s_u n hn, BitVec.getLsbD_ushiftRight]
theorem b_sshr (n : Nat) (hn : n < 32) (x : Int32) {i : Nat} (hi : i < 32) : bt (x >>> (nI n &&& 31)) i = if n + i < 32 then bt x (n + i) else bt x 31 := by
  unfold bt
  rw [Int32.toBitVec_shiftRight]
  show (x.toBitVec.sshiftRight ((nI n &&& 31).toBitVec.smod 32).toNat).getLsbD i = _
  rw [s_l n hn, BitVec.getLsbD_sshiftRight, BitVec.msb_eq_getLsbD_last]
  simp [hi]
/-! ===== partial answers ===== -/
def wpO {α : Type} (o : Option α) (Q : α → Prop) : Prop := ∃ a, o = some a ∧ Q a
theorem wp_some {α : Type} {a : α} {Q : α → Prop} (h : Q a) : wpO (some a) Q := ⟨a, rfl, h⟩
theorem wp_eq {α : Type} {o : Option α} {a : α} {Q : α → Prop} (e : o = some a) (h : Q a) : wpO o Q := ⟨a, e, h⟩
theorem wp_B {α γ : Type} {o : Option α} {k : α → Option γ} {P : α → Prop} {Q : γ → Prop} (h : wpO o P) (hk : ∀ a, P a → wpO (k a) Q) : wpO (xB o k) Q := by
  obtain ⟨a, rfl, ha⟩ := h
  exact hk a ha
theorem wp_B2 {α β γ : Type} {o : Option (α × β)} {k : α → β → Option γ} {P : α × β → Prop} {Q : γ → Prop} (h : wpO o P) (hk : ∀ a b, P (a, b) → wpO (k a b) Q) : wpO (xB2 o k) Q := by
  obtain ⟨⟨a, b⟩, rfl, ha⟩ := h
  exact hk a b ha
theorem wp_mono {α : Type} {o : Option α} {P Q : α → Prop} (h : wpO o P) (hk : ∀ a, P a → Q a) : wpO o Q := by
  obtain ⟨a, e, ha⟩ := h
  exact ⟨a, e, hk a ha⟩
/-- a loop: Inv by what is left of it -/
theorem wp_loop {σ ρ : Type} {body : (σ → Option ρ) → σ → Option ρ} {Q : ρ → Prop} (Inv : Nat → σ → Prop)
    (h : ∀ (n : Nat) (s : σ) (kk : σ → Option ρ), Inv n s → (∀ (m : Nat) (s' : σ), m < n → Inv m s' → wpO (kk s') Q) → wpO (body kk s) Q) :
    ∀ (fuel n : Nat) (s : σ), n < fuel → Inv n s → wpO (xLoop body fuel s) Q
  | 0, n, s, hn, _ => absurd hn (Nat.not_lt_zero n)
  | f + 1, n, s, hn, hI => h n s (xLoop body f) hI (fun m s' hm hI' => wp_loop Inv h f m s' (by omega) hI')
/-- a loop that counts up to N -/
theorem wp_for {σ ρ : Type} {body : (σ → Option ρ) → σ → Option ρ} {Q : ρ → Prop} (N : Nat) (Inv : Nat → σ → Prop)
    (h : ∀ (i : Nat) (s : σ) (kk : σ → Option ρ), i ≤ N → Inv i s → (i < N → ∀ s' : σ, Inv (i + 1) s' → wpO (kk s') Q) → wpO (body kk s) Q)
    {fuel i : Nat} {s : σ} (hi : i ≤ N) (hf : N < fuel) (hI : Inv i s) : wpO (xLoop body fuel s) Q := by
  refine wp_loop (fun n s => n ≤ N ∧ Inv (N - n) s) ?_ fuel (N - i) s (by omega) ⟨by omega, by rw [show N - (N - i) = i by omega]; exact hI⟩
  intro n s kk hn hk
  refine h (N - n) s kk (by omega) hn.2 (fun hlt s' hs' => hk (n - 1) s' (by omega) ⟨by omega, ?_⟩)
  rw [show N - (n - 1) = N - n + 1 by omega]
  exact hs'
theorem xB_s {α γ : Type} (a : α) (k : α → Option γ) : xB (some a) k = k a := Eq.trans rfl rfl
theorem xB2_s {α β γ : Type} (a : α) (b : β) (k : α → β → Option γ) : xB2 (some (a, b)) k = k a b := Eq.trans rfl rfl
theorem xGet_s (w : wS) (k : Nat) : xGet w k = some (w.1 k) := Eq.trans rfl rfl
theorem xPut_s (w : wS) (k : Nat) (v : Int32) : xPut w k v = some (wuS w k v) := Eq.trans rfl rfl
theorem xAld_s {w : wS} {c n i : Nat} (h : i < n) (hn : n < 2 ^ 31) : xAld w c n (nI i) = some (w.2.1 c i) := by
  unfold xAld
  rw [if_pos (inB_nI h hn), nI_clamp (by omega)]
theorem xAst_s {w : wS} {c n i : Nat} {v : Int32} (h : i < n) (hn : n < 2 ^ 31) : xAst w c n (nI i) v = some (wuA w c (upd (w.2.1 c) i v)) := by
  unfold xAst
  rw [if_pos (inB_nI h hn), nI_clamp (by omega)]
theorem xIf_t {γ : Type} (k : Option γ) : xIf true k = k := Eq.trans rfl rfl
theorem wuS_1 (w : wS) (k j : Nat) (v : Int32) : (wuS w k v).1 j = if j = k then v else w.1 j := Eq.trans rfl rfl
theorem wuS_2 (w : wS) (k : Nat) (v : Int32) : (wuS w k v).2 = w.2 := Eq.trans rfl rfl
theorem wuA_1 (w : wS) (c : Nat) (f : Nat → Int32) : (wuA w c f).1 = w.1 := Eq.trans rfl rfl
theorem wuA_21 (w : wS) (c j : Nat) (f : Nat → Int32) : (wuA w c f).2.1 j = if j = c then f else w.2.1 j := Eq.trans rfl rfl
theorem wuA_22 (w : wS) (c : Nat) (f : Nat → Int32) : (wuA w c f).2.2 = w.2.2 := Eq.trans rfl rfl
theorem upd_s (f : Nat → Int32) (k j : Nat) (x : Int32) : upd f k x j = if j = k then x else f j := Eq.trans rfl rfl
def mI : Int32 := -1
theorem lm : -(nI 1) = mI := by decide
theorem l0 : (0 : Int32) = nI 0 := by decide
theorem l1 : (1 : Int32) = nI 1 := by decide
theorem l2 : (2 : Int32) = nI 2 := by decide
theorem l3 : (3 : Int32) = nI 3 := by decide
theorem l4 : (4 : Int32) = nI 4 := by decide
theorem l5 : (5 : Int32) = nI 5 := by decide
theorem l6 : (6 : Int32) = nI 6 := by decide
theorem l7 : (7 : Int32) = nI 7 := by decide
theorem l8 : (8 : Int32) = nI 8 := by decide
theorem l9 : (9 : Int32) = nI 9 := by decide
theorem l10 : (10 : Int32) = nI 10 := by decide
theorem l11 : (11 : Int32) = nI 11 := by decide
theorem l12 : (12 : Int32) = nI 12 := by decide
theorem l13 : (13 : Int32) = nI 13 := by decide
theorem l15 : (15 : Int32) = nI 15 := by decide
theorem l16 : (16 : Int32) = nI 16 := by decide
theorem l17 : (17 : Int32) = nI 17 := by decide
theorem l19 : (19 : Int32) = nI 19 := by decide
theorem l20 : (20 : Int32) = nI 20 := by decide
theorem l25 : (25 : Int32) = nI 25 := by decide
theorem l27 : (27 : Int32) = nI 27 := by decide
theorem l30 : (30 : Int32) = nI 30 := by decide
theorem l31 : (31 : Int32) = nI 31 := by decide
theorem l32 : (32 : Int32) = nI 32 := by decide
theorem l33 : (33 : Int32) = nI 33 := by decide
theorem l39 : (39 : Int32) = nI 39 := by decide
theorem l40 : (40 : Int32) = nI 40 := by decide
theorem l60 : (60 : Int32) = nI 60 := by decide
theorem l61 : (61 : Int32) = nI 61 := by decide
theorem l99 : (99 : Int32) = nI 99 := by decide
theorem l100 : (100 : Int32) = nI 100 := by decide
theorem l120 : (120 : Int32) = nI 120 := by decide
theorem l256 : (256 : Int32) = nI 256 := by decide
theorem l999 : (999 : Int32) = nI 999 := by decide
theorem l1999 : (1999 : Int32) = nI 1999 := by decide
theorem l99999 : (99999 : Int32) = nI 99999 := by decide
theorem mI_toInt : mI.toInt = -1 := by decide
theorem nI_m1 {n : Nat} (h : n < 2 ^ 31) : (nI n = mI) = False := by
  refine eq_false (fun e => ?_)
  have := congrArg Int32.toInt e
  rw [nI_toInt h, mI_toInt] at this
  omega
theorem m1_nI {n : Nat} (h : n < 2 ^ 31) : (mI = nI n) = False := by
  refine eq_false (fun e => ?_)
  have := congrArg Int32.toInt e
  rw [nI_toInt h, mI_toInt] at this
  omega
theorem nIlt_m1 {n : Nat} (h : n < 2 ^ 31) : (nI n ≤ mI) = False := by
  refine eq_false (fun e => ?_)
  have := Int32.le_iff_toInt_le.mp e
  rw [nI_toInt h, mI_toInt] at this
  omega
theorem m1lt_nI {n : Nat} (h : n < 2 ^ 31) : (mI < nI n) = True := by
  refine eq_true (Int32.lt_iff_toInt_lt.mpr ?_)
  rw [nI_toInt h, mI_toInt]
  omega
theorem xBool_s {n : Nat} (h : n ≤ 1) : xBool (nI n) = some (nI n) := by
  unfold xBool
  rw [if_pos]
  rcases Nat.lt_or_ge n 1 with q | q
  · left; rw [show n = 0 by omega]; rfl
  · right; rw [show n = 1 by omega]; rfl
/-! one bit -/
def bN (v : Int32) (p : Nat) : Nat := (bt v p).toNat
theorem bN_le (v : Int32) (p : Nat) : bN v p ≤ 1 := by unfold bN; cases bt v p <;> decide
theorem bt_1 (i : Nat) : bt 1 i = decide (i = 0) := by
  rcases Nat.lt_or_ge i 32 with h | h
  · exact (by decide +kernel : ∀ i, i < 32 → bt 1 i = decide (i = 0)) i h
  · rw [b_big h, decide_eq_false (by omega)]
theorem bt_b (b : Bool) (i : Nat) : bt (nI b.toNat) i = (decide (i = 0) && b) := by
  cases b
  · show bt 0 i = _
    rw [b_0, Bool.and_false]
  · show bt 1 i = _
    rw [bt_1, Bool.and_true]
theorem bit_s {v : Int32} {p : Nat} (hp : p < 32) : (v >>> (nI p &&& nI 31)) &&& nI 1 = nI (bN v p) := by
  apply b_ext
  intro i hi
  show bt ((v >>> (nI p &&& 31)) &&& 1) i = _
  rw [b_and, b_sshr p hp v hi, bt_1]
  unfold bN
  rw [bt_b]
  by_cases h : i = 0
  · subst h
    simp [hp]
  · simp [h]
theorem bit_or {v : Int32} {p r : Nat} (hp : p < 32) (hr : r < 32) : bN (v ||| (nI 1 <<< (nI r &&& nI 31))) p = if p = r then 1 else bN v p := by
  unfold bN
  show (bt (v ||| ((1 : Int32) <<< (nI r &&& 31))) p).toNat = _
  rw [b_or, b_shl r hr 1 hp, bt_1]
  by_cases h : p = r
  · subst h; simp
  · rw [if_neg h]
    have : (decide (r ≤ p) && decide (p - r = 0)) = false := by
      by_cases h2 : r ≤ p
      · have h3 : ¬ (p - r = 0) := by omega
        simp [h3]
      · simp [h2]
    rw [this, Bool.or_false]
theorem bit_xor {v : Int32} {p r : Nat} (hp : p < 32) (hr : r < 32) : bN (v ^^^ (nI 1 <<< (nI r &&& nI 31))) p = if p = r then 1 - bN v p else bN v p := by
  unfold bN
  show (bt (v ^^^ ((1 : Int32) <<< (nI r &&& 31))) p).toNat = _
  rw [b_xor, b_shl r hr 1 hp, bt_1]
  by_cases h : p = r
  · subst h; cases bt v p <;> simp
  · rw [if_neg h]
    have : (decide (r ≤ p) && decide (p - r = 0)) = false := by
      by_cases h2 : r ≤ p
      · have h3 : ¬ (p - r = 0) := by omega
        simp [h3]
      · simp [h2]
    rw [this, Bool.xor_false]
theorem bit_0 (p : Nat) : bN (nI 0) p = 0 := by
  unfold bN
  show (bt 0 p).toNat = 0
  rw [b_0]
  rfl
theorem bit_ext {v u : Int32} (h : ∀ i, i < 32 → bN v i = bN u i) : v = u := by
  apply b_ext
  intro i hi
  have := h i hi
  unfold bN at this
  cases h1 : bt v i <;> cases h2 : bt u i <;> rw [h1, h2] at this <;> simp_all
