section
/-! ===== bitCount ===== -/
def k5 : Nat → Nat
  | 0 => 0
  | k + 1 => 85 + 256 * k5 k
def k3 : Nat → Nat
  | 0 => 0
  | k + 1 => 51 + 256 * k3 k
def kF : Nat → Nat
  | 0 => 0
  | k + 1 => 15 + 256 * kF k
def sA (k n : Nat) : Nat := n - ((n / 2) &&& k5 k)
def sB (k n : Nat) : Nat := (n &&& k3 k) + ((n / 4) &&& k3 k)
def sC (k n : Nat) : Nat := (n + n / 16) &&& kF k
def bA (b : Nat) : Nat := b - ((b / 2) &&& 85)
def bB (b : Nat) : Nat := (b &&& 51) + ((b / 4) &&& 51)
def bC (b : Nat) : Nat := (b + b / 16) &&& 15
theorem and_sp {a b m n : Nat} (ha : a < 256) (hb : b < 256) : (a + 256 * m) &&& (b + 256 * n) = (a &&& b) + 256 * (m &&& n) := by
  have h1 : ((a + 256 * m) &&& (b + 256 * n)) % 2 ^ 8 = a &&& b := by
    rw [Nat.and_mod_two_pow, show (a + 256 * m) % 2 ^ 8 = a by omega, show (b + 256 * n) % 2 ^ 8 = b by omega]
  have h2 : ((a + 256 * m) &&& (b + 256 * n)) / 2 ^ 8 = m &&& n := by
    rw [Nat.and_div_two_pow, show (a + 256 * m) / 2 ^ 8 = m by omega, show (b + 256 * n) / 2 ^ 8 = n by omega]
  omega
theorem by_A : ∀ b, b < 256 → ∀ v, v < 2 → (b / 2 + 128 * v) &&& 85 = (b / 2) &&& 85 := by decide +kernel
theorem by_B : ∀ b, b < 256 → ∀ v, v < 4 → (b / 4 + 64 * v) &&& 51 = (b / 4) &&& 51 := by decide +kernel
theorem by_C : ∀ b, b < 69 → ∀ v, v < 5 → (b + b / 16 + 16 * v) &&& 15 = (b + b / 16) &&& 15 := by decide +kernel
theorem by_D : ∀ b, b < 256 → bA b < 256 ∧ bB (bA b) < 69 ∧ bB (bA b) % 16 < 5 ∧ bC (bB (bA b)) = cN (fun i => b.testBit i) 8 := by decide +kernel
theorem sA_s {k b m : Nat} (hb : b < 256) : sA (k + 1) (b + 256 * m) = bA b + 256 * sA k m := by
  have e : (b + 256 * m) / 2 = (b / 2 + 128 * (m % 2)) + 256 * (m / 2) := by omega
  have h1 := by_A b hb (m % 2) (by omega)
  have h2 : (b / 2) &&& 85 ≤ b / 2 := Nat.and_le_left
  have h3 : (m / 2) &&& k5 k ≤ m / 2 := Nat.and_le_left
  unfold sA bA
  show (b + 256 * m) - (((b + 256 * m) / 2) &&& (85 + 256 * k5 k)) = _
  rw [e, and_sp (by omega) (by omega), h1]
  omega
theorem sB_s {k b m : Nat} (hb : b < 256) : sB (k + 1) (b + 256 * m) = bB b + 256 * sB k m := by
  have e : (b + 256 * m) / 4 = (b / 4 + 64 * (m % 4)) + 256 * (m / 4) := by omega
  have h1 := by_B b hb (m % 4) (by omega)
  unfold sB bB
  show ((b + 256 * m) &&& (51 + 256 * k3 k)) + (((b + 256 * m) / 4) &&& (51 + 256 * k3 k)) = _
  rw [e, and_sp (by omega) (by omega), and_sp (by omega) (by omega), h1]
  omega
theorem sC_s {k b m : Nat} (hb : b < 69) (hm : m % 16 < 5) : sC (k + 1) (b + 256 * m) = bC b + 256 * sC k m := by
  have e : (b + 256 * m) + (b + 256 * m) / 16 = (b + b / 16 + 16 * (m % 16)) + 256 * (m + m / 16) := by omega
  have h1 := by_C b hb (m % 16) hm
  unfold sC bC
  show ((b + 256 * m) + (b + 256 * m) / 16) &&& (15 + 256 * kF k) = _
  rw [e, and_sp (by omega) (by omega), h1]
theorem sX_s {k b m : Nat} (hb : b < 256) : sB (k + 1) (sA (k + 1) (b + 256 * m)) = bB (bA b) + 256 * sB k (sA k m) := by
  rw [sA_s hb, sB_s (by_D b hb).1]
theorem sX_m (k m : Nat) : sB k (sA k m) % 16 < 5 := by
  cases k with
  | zero =>
    have h1 : sB 0 (sA 0 m) = 0 := by
      show (_ &&& 0) + (_ &&& 0) = 0
      rw [Nat.and_zero, Nat.and_zero]
    rw [h1]; decide
  | succ k =>
    have h := sX_s (k := k) (b := m % 256) (m := m / 256) (by omega)
    rw [show m % 256 + 256 * (m / 256) = m by omega] at h
    have := (by_D (m % 256) (by omega)).2.2.1
    rw [h]; omega
theorem sY_s {k b m : Nat} (hb : b < 256) : sC (k + 1) (sB (k + 1) (sA (k + 1) (b + 256 * m))) = cN (fun i => b.testBit i) 8 + 256 * sC k (sB k (sA k m)) := by
  obtain ⟨h1, h2, h3, h4⟩ := by_D b hb
  rw [sX_s hb, sC_s h2 (sX_m k m), h4]
theorem cN_split {p : Nat → Bool} {a : Nat} : ∀ n, cN p (a + n) = cN p a + cN (fun i => p (a + i)) n
  | 0 => rfl
  | n + 1 => by
    have := cN_split (p := p) (a := a) n
    show cN p (a + n) + (if p (a + n) = true then 1 else 0) = cN p a + (cN (fun i => p (a + i)) n + (if p (a + n) = true then 1 else 0))
    omega
theorem pN_s {b m n : Nat} (hb : b < 256) : cN (fun i => (b + 256 * m).testBit i) (8 + n) = cN (fun i => b.testBit i) 8 + cN (fun i => m.testBit i) n := by
  have e : ∀ j, (b + 256 * m).testBit j = if j < 8 then b.testBit j else m.testBit (j - 8) := fun j => by
    rw [Nat.add_comm]
    exact Nat.testBit_two_pow_mul_add m (i := 8) hb j
  rw [cN_split, cN_cong (p := fun i => (b + 256 * m).testBit i) (q := fun i => b.testBit i) (fun k hk => by show (b + 256 * m).testBit k = _; rw [e, if_pos hk]), cN_cong (p := fun i => (b + 256 * m).testBit (8 + i)) (q := fun i => m.testBit i) (fun k hk => by show (b + 256 * m).testBit (8 + k) = _; rw [e, if_neg (by omega), Nat.add_sub_cancel_left])]
/-! of an int -/
def tn (x : Int32) : Nat := x.toBitVec.toNat
theorem tn_lt (x : Int32) : tn x < 4294967296 := x.toBitVec.isLt
theorem tn_inj {x y : Int32} (h : tn x = tn y) : x = y := Int32.toBitVec_inj.mp (BitVec.eq_of_toNat_eq h)
theorem tn_and (x y : Int32) : tn (x &&& y) = tn x &&& tn y := by unfold tn; rw [Int32.toBitVec_and, BitVec.toNat_and]
theorem tn_add {x y : Int32} (h : tn x + tn y < 4294967296) : tn (x + y) = tn x + tn y := by
  unfold tn at *
  rw [Int32.toBitVec_add, BitVec.toNat_add]
  omega
theorem tn_sub {x y : Int32} (h : tn y ≤ tn x) : tn (x - y) = tn x - tn y := by
  have h1 := tn_lt x
  unfold tn at *
  rw [Int32.toBitVec_sub, BitVec.toNat_sub]
  omega
theorem tn_ushr (n : Nat) (hn : n < 32) (x : Int32) : tn ((x.toUInt32 >>> ((nI n).toUInt32 &&& Int32.toUInt32 31)).toInt32) = tn x / 2 ^ n := by
  show (x.toUInt32 >>> ((nI n).toUInt32 &&& Int32.toUInt32 31)).toBitVec.toNat = x.toUInt32.toBitVec.toNat / 2 ^ n
  rw [UInt32.toBitVec_shiftRight]
  show (x.toUInt32.toBitVec >>> (((nI n).toUInt32 &&& Int32.toUInt32 31).toBitVec % 32).toNat).toNat = _
  rw [s_u n hn, BitVec.toNat_ushiftRight, Nat.shiftRight_eq_div_pow]
theorem tn_nI {k : Nat} (h : k < 4294967296) : tn (nI k) = k := by
  show (BitVec.ofNat 32 k).toNat = k
  rw [BitVec.toNat_ofNat]
  omega
/-- how many bits -/
def pcI (x : Int32) : Nat := cN (fun i => decide (bN x i = 1)) 32
theorem pcI_tn (x : Int32) : pcI x = cN (fun i => (tn x).testBit i) 32 := by
  unfold pcI
  refine cN_cong (fun k _ => ?_)
  show decide ((bt x k).toNat = 1) = bt x k
  cases bt x k <;> rfl
set_option maxHeartbeats 100000 in
theorem by_4 {n : Nat} (h : n < 4294967296) : ∃ p0 p1 p2 p3 : Nat, p0 ≤ 8 ∧ p1 ≤ 8 ∧ p2 ≤ 8 ∧ p3 ≤ 8 ∧ sC 4 (sB 4 (sA 4 n)) = p0 + 256 * (p1 + 256 * (p2 + 256 * p3)) ∧ cN (fun i => n.testBit i) 32 = p0 + p1 + p2 + p3 := by
  refine ⟨_, _, _, _, cN_le (fun i => (n % 256).testBit i) 8, cN_le (fun i => (n / 256 % 256).testBit i) 8, cN_le (fun i => (n / 65536 % 256).testBit i) 8, cN_le (fun i => (n / 16777216 % 256).testBit i) 8, ?_, ?_⟩
  · have h0 := sY_s (k := 3) (b := n % 256) (m := n / 256) (by omega)
    have h1 := sY_s (k := 2) (b := n / 256 % 256) (m := n / 65536) (by omega)
    have h2 := sY_s (k := 1) (b := n / 65536 % 256) (m := n / 16777216) (by omega)
    have h3 := sY_s (k := 0) (b := n / 16777216 % 256) (m := 0) (by omega)
    rw [show n % 256 + 256 * (n / 256) = n by omega] at h0
    rw [show n / 256 % 256 + 256 * (n / 65536) = n / 256 by omega] at h1
    rw [show n / 65536 % 256 + 256 * (n / 16777216) = n / 65536 by omega] at h2
    rw [show n / 16777216 % 256 + 256 * 0 = n / 16777216 by omega] at h3
    rw [h0, h1, h2, h3, show sC 0 (sB 0 (sA 0 0)) = 0 by decide, Nat.mul_zero, Nat.add_zero]
  · have h0 := pN_s (b := n % 256) (m := n / 256) (n := 24) (by omega)
    have h1 := pN_s (b := n / 256 % 256) (m := n / 65536) (n := 16) (by omega)
    have h2 := pN_s (b := n / 65536 % 256) (m := n / 16777216) (n := 8) (by omega)
    have h3 : cN (fun i => (n / 16777216).testBit i) 8 = cN (fun i => (n / 16777216 % 256).testBit i) 8 := by rw [show n / 16777216 % 256 = n / 16777216 by omega]
    rw [show n % 256 + 256 * (n / 256) = n by omega] at h0
    rw [show n / 256 % 256 + 256 * (n / 65536) = n / 256 by omega] at h1
    rw [show n / 65536 % 256 + 256 * (n / 16777216) = n / 65536 by omega] at h2
    rw [h3] at h2
    rw [h2] at h1
    rw [h1] at h0
    exact h0.trans (by omega)
theorem dv {a m k : Nat} (h : a < k) : (a + k * m) / k = m := by
  rw [Nat.add_mul_div_left _ _ (by omega), Nat.div_eq_of_lt h, Nat.zero_add]
set_option maxHeartbeats 100000 in
theorem kc4 : k5 4 = 1431655765 ∧ k3 4 = 858993459 ∧ kF 4 = 252645135 ∧ tn 1431655765 = 1431655765 ∧ tn 858993459 = 858993459 ∧ tn 252645135 = 252645135 ∧ tn 63 = 63 ∧ tn 127 = 127 := by decide +kernel
theorem and63 (x : Nat) : x &&& 63 = x % 64 := Nat.and_two_pow_sub_one_eq_mod x 6
theorem and127 (x : Nat) : x &&& 127 = x % 128 := Nat.and_two_pow_sub_one_eq_mod x 7
set_option maxHeartbeats 100000 in
theorem bc_A (x : Int32) : tn (x - ((x.toUInt32 >>> ((nI 1).toUInt32 &&& Int32.toUInt32 31)).toInt32 &&& 1431655765)) = sA 4 (tn x) := by
  obtain ⟨c1, c2, c3, c4, c5, c6, c7, c8⟩ := kc4
  have a : tn ((x.toUInt32 >>> ((nI 1).toUInt32 &&& Int32.toUInt32 31)).toInt32 &&& 1431655765) = (tn x / 2) &&& k5 4 := by
    rw [tn_and, tn_ushr 1 (by omega), c1, c4, Nat.pow_one]
  have b : (tn x / 2) &&& k5 4 ≤ tn x / 2 := Nat.and_le_left
  unfold sA
  rw [tn_sub (by rw [a]; omega), a]
set_option maxHeartbeats 100000 in
theorem bc_B (y : Int32) : tn ((y &&& 858993459) + ((y.toUInt32 >>> ((nI 2).toUInt32 &&& Int32.toUInt32 31)).toInt32 &&& 858993459)) = sB 4 (tn y) := by
  obtain ⟨c1, c2, c3, c4, c5, c6, c7, c8⟩ := kc4
  have a : tn ((y.toUInt32 >>> ((nI 2).toUInt32 &&& Int32.toUInt32 31)).toInt32 &&& 858993459) = (tn y / 4) &&& k3 4 := by
    rw [tn_and, tn_ushr 2 (by omega), c2, c5]
  have b : tn (y &&& 858993459) = tn y &&& k3 4 := by rw [tn_and, c2, c5]
  have c : tn y &&& k3 4 ≤ k3 4 := Nat.and_le_right
  have d : (tn y / 4) &&& k3 4 ≤ k3 4 := Nat.and_le_right
  unfold sB
  rw [tn_add (by rw [a, b]; omega), a, b]
set_option maxHeartbeats 100000 in
theorem bc_C (y : Int32) (h : tn y ≤ 2 * k3 4) : tn ((y + (y.toUInt32 >>> ((nI 4).toUInt32 &&& Int32.toUInt32 31)).toInt32) &&& 252645135) = sC 4 (tn y) := by
  obtain ⟨c1, c2, c3, c4, c5, c6, c7, c8⟩ := kc4
  have a : tn ((y.toUInt32 >>> ((nI 4).toUInt32 &&& Int32.toUInt32 31)).toInt32) = tn y / 16 := tn_ushr 4 (by omega) y
  unfold sC
  rw [tn_and, tn_add (by rw [a]; omega), a, c3, c6]
theorem sB_le (k n : Nat) : sB k n ≤ 2 * k3 k := by
  have c : n &&& k3 k ≤ k3 k := Nat.and_le_right
  have d : (n / 4) &&& k3 k ≤ k3 k := Nat.and_le_right
  unfold sB; omega
set_option maxHeartbeats 100000 in
theorem bc32 (x : Int32) : L_J6_bitCount_0f7a4 x = some (nI (pcI x)) := by
  obtain ⟨p0, p1, p2, p3, g0, g1, g2, g3, e1, e2⟩ := by_4 (tn_lt x)
  have v1 := bc_A x
  unfold L_J6_bitCount_0f7a4
  simp only [xB_s]
  rw [l1, l2, l4, l8, l16]
  generalize x - ((x.toUInt32 >>> ((nI 1).toUInt32 &&& Int32.toUInt32 31)).toInt32 &&& 1431655765) = y1 at v1 ⊢
  have v2 := bc_B y1
  generalize (y1 &&& 858993459) + ((y1.toUInt32 >>> ((nI 2).toUInt32 &&& Int32.toUInt32 31)).toInt32 &&& 858993459) = y2 at v2 ⊢
  have v3 := bc_C y2 (by rw [v2]; exact sB_le _ _)
  generalize (y2 + (y2.toUInt32 >>> ((nI 4).toUInt32 &&& Int32.toUInt32 31)).toInt32) &&& 252645135 = y3 at v3 ⊢
  rw [v2, v1, e1] at v3
  have v4 : tn (y3 + (y3.toUInt32 >>> ((nI 8).toUInt32 &&& Int32.toUInt32 31)).toInt32) = (p0 + p1) + 256 * ((p1 + p2) + 256 * ((p2 + p3) + 256 * p3)) := by
    have a : tn ((y3.toUInt32 >>> ((nI 8).toUInt32 &&& Int32.toUInt32 31)).toInt32) = p1 + 256 * (p2 + 256 * p3) := by
      rw [tn_ushr 8 (by omega) y3, v3]; exact dv (by omega)
    rw [tn_add (by rw [a, v3]; omega), a, v3]; omega
  generalize y3 + (y3.toUInt32 >>> ((nI 8).toUInt32 &&& Int32.toUInt32 31)).toInt32 = y4 at v4 ⊢
  have v5 : tn ((y4 + (y4.toUInt32 >>> ((nI 16).toUInt32 &&& Int32.toUInt32 31)).toInt32) &&& 63) = p0 + p1 + p2 + p3 := by
    have a : tn ((y4.toUInt32 >>> ((nI 16).toUInt32 &&& Int32.toUInt32 31)).toInt32) = p2 + p3 + 256 * p3 := by
      rw [tn_ushr 16 (by omega) y4, v4, show p0 + p1 + 256 * (p1 + p2 + 256 * (p2 + p3 + 256 * p3)) = (p0 + p1 + 256 * (p1 + p2)) + 65536 * (p2 + p3 + 256 * p3) by omega]; exact dv (by omega)
    rw [tn_and, tn_add (by rw [a, v4]; omega), a, v4, kc4.2.2.2.2.2.2.1, and63]; omega
  congr 1
  apply tn_inj
  rw [v5, pcI_tn, e2, tn_nI (by omega)]
/-! of a long -/
def t6 (x : Int64) : Nat := x.toBitVec.toNat
theorem t6_lt (x : Int64) : t6 x < 18446744073709551616 := x.toBitVec.isLt
theorem t6_and (x y : Int64) : t6 (x &&& y) = t6 x &&& t6 y := by unfold t6; rw [Int64.toBitVec_and, BitVec.toNat_and]
theorem t6_add {x y : Int64} (h : t6 x + t6 y < 18446744073709551616) : t6 (x + y) = t6 x + t6 y := by
  unfold t6 at *
  rw [Int64.toBitVec_add, BitVec.toNat_add]
  omega
theorem t6_sub {x y : Int64} (h : t6 y ≤ t6 x) : t6 (x - y) = t6 x - t6 y := by
  have h1 := t6_lt x
  unfold t6 at *
  rw [Int64.toBitVec_sub, BitVec.toNat_sub]
  omega
theorem s_u6 : ∀ n, n < 64 → (((nI n).toInt64.toUInt64 &&& Int64.toUInt64 63).toBitVec % 64).toNat = n := by decide +kernel
theorem t6_ushr (n : Nat) (hn : n < 64) (x : Int64) : t6 ((x.toUInt64 >>> ((nI n).toInt64.toUInt64 &&& Int64.toUInt64 63)).toInt64) = t6 x / 2 ^ n := by
  show (x.toUInt64 >>> ((nI n).toInt64.toUInt64 &&& Int64.toUInt64 63)).toBitVec.toNat = x.toUInt64.toBitVec.toNat / 2 ^ n
  rw [UInt64.toBitVec_shiftRight]
  show (x.toUInt64.toBitVec >>> (((nI n).toInt64.toUInt64 &&& Int64.toUInt64 63).toBitVec % 64).toNat).toNat = _
  rw [s_u6 n hn, BitVec.toNat_ushiftRight, Nat.shiftRight_eq_div_pow]
def pcL (x : Int64) : Nat := cN (fun i => (t6 x).testBit i) 64
set_option maxHeartbeats 100000 in
theorem by_8 {n : Nat} (h : n < 18446744073709551616) : ∃ p0 p1 p2 p3 p4 p5 p6 p7 : Nat, (p0 ≤ 8 ∧ p1 ≤ 8 ∧ p2 ≤ 8 ∧ p3 ≤ 8 ∧ p4 ≤ 8 ∧ p5 ≤ 8 ∧ p6 ≤ 8 ∧ p7 ≤ 8) ∧ sC 8 (sB 8 (sA 8 n)) = p0 + 256 * (p1 + 256 * (p2 + 256 * (p3 + 256 * (p4 + 256 * (p5 + 256 * (p6 + 256 * p7)))))) ∧ cN (fun i => n.testBit i) 64 = p0 + p1 + p2 + p3 + p4 + p5 + p6 + p7 := by
  obtain ⟨q0, q1, q2, q3, g0, g1, g2, g3, e1, e2⟩ := by_4 (n := n / 4294967296) (by omega)
  refine ⟨_, _, _, _, q0, q1, q2, q3, ⟨cN_le (fun i => (n % 256).testBit i) 8, cN_le (fun i => (n / 256 % 256).testBit i) 8, cN_le (fun i => (n / 65536 % 256).testBit i) 8, cN_le (fun i => (n / 16777216 % 256).testBit i) 8, g0, g1, g2, g3⟩, ?_, ?_⟩
  · have h0 := sY_s (k := 7) (b := n % 256) (m := n / 256) (by omega)
    have h1 := sY_s (k := 6) (b := n / 256 % 256) (m := n / 65536) (by omega)
    have h2 := sY_s (k := 5) (b := n / 65536 % 256) (m := n / 16777216) (by omega)
    have h3 := sY_s (k := 4) (b := n / 16777216 % 256) (m := n / 4294967296) (by omega)
    rw [show n % 256 + 256 * (n / 256) = n by omega] at h0
    rw [show n / 256 % 256 + 256 * (n / 65536) = n / 256 by omega] at h1
    rw [show n / 65536 % 256 + 256 * (n / 16777216) = n / 65536 by omega] at h2
    rw [show n / 16777216 % 256 + 256 * (n / 4294967296) = n / 16777216 by omega] at h3
    rw [h0, h1, h2, h3, e1]
  · have h0 := pN_s (b := n % 256) (m := n / 256) (n := 56) (by omega)
    have h1 := pN_s (b := n / 256 % 256) (m := n / 65536) (n := 48) (by omega)
    have h2 := pN_s (b := n / 65536 % 256) (m := n / 16777216) (n := 40) (by omega)
    have h3 := pN_s (b := n / 16777216 % 256) (m := n / 4294967296) (n := 32) (by omega)
    rw [show n % 256 + 256 * (n / 256) = n by omega] at h0
    rw [show n / 256 % 256 + 256 * (n / 65536) = n / 256 by omega] at h1
    rw [show n / 65536 % 256 + 256 * (n / 16777216) = n / 65536 by omega] at h2
    rw [show n / 16777216 % 256 + 256 * (n / 4294967296) = n / 16777216 by omega] at h3
    rw [e2] at h3
    rw [h3] at h2
    rw [h2] at h1
    rw [h1] at h0
    exact h0.trans (by omega)
set_option maxHeartbeats 100000 in
theorem kc8 : k5 8 = 6148914691236517205 ∧ k3 8 = 3689348814741910323 ∧ kF 8 = 1085102592571150095 ∧ t6 6148914691236517205 = 6148914691236517205 ∧ t6 3689348814741910323 = 3689348814741910323 ∧ t6 1085102592571150095 = 1085102592571150095 := by decide +kernel
set_option maxHeartbeats 100000 in
theorem bd_A (x : Int64) : t6 (x - ((x.toUInt64 >>> ((nI 1).toInt64.toUInt64 &&& Int64.toUInt64 63)).toInt64 &&& 6148914691236517205)) = sA 8 (t6 x) := by
  obtain ⟨c1, c2, c3, c4, c5, c6⟩ := kc8
  have a : t6 ((x.toUInt64 >>> ((nI 1).toInt64.toUInt64 &&& Int64.toUInt64 63)).toInt64 &&& 6148914691236517205) = (t6 x / 2) &&& k5 8 := by
    rw [t6_and, t6_ushr 1 (by omega), c1, c4, Nat.pow_one]
  have b : (t6 x / 2) &&& k5 8 ≤ t6 x / 2 := Nat.and_le_left
  unfold sA
  rw [t6_sub (by rw [a]; omega), a]
set_option maxHeartbeats 100000 in
theorem bd_B (y : Int64) : t6 ((y &&& 3689348814741910323) + ((y.toUInt64 >>> ((nI 2).toInt64.toUInt64 &&& Int64.toUInt64 63)).toInt64 &&& 3689348814741910323)) = sB 8 (t6 y) := by
  obtain ⟨c1, c2, c3, c4, c5, c6⟩ := kc8
  have a : t6 ((y.toUInt64 >>> ((nI 2).toInt64.toUInt64 &&& Int64.toUInt64 63)).toInt64 &&& 3689348814741910323) = (t6 y / 4) &&& k3 8 := by
    rw [t6_and, t6_ushr 2 (by omega), c2, c5]
  have b : t6 (y &&& 3689348814741910323) = t6 y &&& k3 8 := by rw [t6_and, c2, c5]
  have c : t6 y &&& k3 8 ≤ k3 8 := Nat.and_le_right
  have d : (t6 y / 4) &&& k3 8 ≤ k3 8 := Nat.and_le_right
  unfold sB
  rw [t6_add (by rw [a, b]; omega), a, b]
set_option maxHeartbeats 100000 in
theorem bd_C (y : Int64) (h : t6 y ≤ 2 * k3 8) : t6 ((y + (y.toUInt64 >>> ((nI 4).toInt64.toUInt64 &&& Int64.toUInt64 63)).toInt64) &&& 1085102592571150095) = sC 8 (t6 y) := by
  obtain ⟨c1, c2, c3, c4, c5, c6⟩ := kc8
  have a : t6 ((y.toUInt64 >>> ((nI 4).toInt64.toUInt64 &&& Int64.toUInt64 63)).toInt64) = t6 y / 16 := t6_ushr 4 (by omega) y
  unfold sC
  rw [t6_and, t6_add (by rw [a]; omega), a, c3, c6]
end
