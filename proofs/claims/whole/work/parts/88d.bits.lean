section
set_option maxHeartbeats 100000 in
theorem bd_H {p0 p1 p2 p3 p4 p5 p6 p7 : Nat} (g : p0 ≤ 8 ∧ p1 ≤ 8 ∧ p2 ≤ 8 ∧ p3 ≤ 8 ∧ p4 ≤ 8 ∧ p5 ≤ 8 ∧ p6 ≤ 8 ∧ p7 ≤ 8) : (p0 + p1 + (p2 + p3)) + 256 * ((p1 + p2 + (p3 + p4)) + 256 * ((p2 + p3 + (p4 + p5)) + 256 * (p3 + p4 + (p5 + p6)))) < 1073741824 ∧ (p4 + p5 + (p6 + p7)) + 256 * ((p5 + p6 + p7) + 256 * ((p6 + p7) + 256 * p7)) < 1073741824 ∧ p0 + p1 + p2 + p3 + p4 + p5 + p6 + p7 < 128 := by omega
set_option maxHeartbeats 100000 in
theorem bd_Q {p0 p1 p2 p3 p4 p5 p6 p7 : Nat} (g : p0 ≤ 8 ∧ p1 ≤ 8 ∧ p2 ≤ 8 ∧ p3 ≤ 8 ∧ p4 ≤ 8 ∧ p5 ≤ 8 ∧ p6 ≤ 8 ∧ p7 ≤ 8) : p0 + p1 ≤ 16 ∧ p1 + p2 ≤ 16 ∧ p2 + p3 ≤ 16 ∧ p3 + p4 ≤ 16 ∧ p4 + p5 ≤ 16 ∧ p5 + p6 ≤ 16 ∧ p6 + p7 ≤ 16 ∧ p7 ≤ 16 := by omega
set_option maxHeartbeats 100000 in
theorem bd_I {a b c d e f g h : Nat} : a + 256 * b + (c + 256 * d) = a + c + 128 * (2 * b + 2 * d) := by omega
set_option maxHeartbeats 200000 in
theorem bc64 (x : Int64) : L_J13_bitCount_95d88 x = some (nI (pcL x)) := by
  obtain ⟨p0, p1, p2, p3, p4, p5, p6, p7, g, e1, e2⟩ := by_8 (t6_lt x)
  have v1 := bd_A x
  unfold L_J13_bitCount_95d88
  simp only [xB_s]
  rw [l1, l2, l4, l8, l16, l32]
  generalize x - ((x.toUInt64 >>> ((nI 1).toInt64.toUInt64 &&& Int64.toUInt64 63)).toInt64 &&& 6148914691236517205) = y1 at v1 ⊢
  have v2 := bd_B y1
  generalize (y1 &&& 3689348814741910323) + ((y1.toUInt64 >>> ((nI 2).toInt64.toUInt64 &&& Int64.toUInt64 63)).toInt64 &&& 3689348814741910323) = y2 at v2 ⊢
  have v3 := bd_C y2 (by rw [v2]; exact sB_le _ _)
  generalize (y2 + (y2.toUInt64 >>> ((nI 4).toInt64.toUInt64 &&& Int64.toUInt64 63)).toInt64) &&& 1085102592571150095 = y3 at v3 ⊢
  rw [v2, v1, e1] at v3
  have v4 := bd_D g v3
  generalize y3 + (y3.toUInt64 >>> ((nI 8).toInt64.toUInt64 &&& Int64.toUInt64 63)).toInt64 = y4 at v4 ⊢
  have v5 := bd_E (bd_Q g) v4
  generalize y4 + (y4.toUInt64 >>> ((nI 16).toInt64.toUInt64 &&& Int64.toUInt64 63)).toInt64 = y5 at v5 ⊢
  obtain ⟨h1, h2, h3⟩ := bd_H g
  have h4 : 1073741824 < 4294967296 := by simp only [Nat.reduceLT]
  have h5 : 1073741824 + 1073741824 < 4294967296 := by simp only [Nat.reduceLT, Nat.reduceAdd]
  have h6 : 1073741824 < 2147483648 := by simp only [Nat.reduceLT]
  have v6 := bd_F (Nat.lt_trans h1 h4) (Nat.lt_trans h2 h6) (Nat.lt_trans (Nat.add_lt_add h1 h2) h5) v5
  generalize y5 + (y5.toUInt64 >>> ((nI 32).toInt64.toUInt64 &&& Int64.toUInt64 63)).toInt64 = y6 at v6 ⊢
  unfold pcL
  rw [e2]
  congr 1
  clear e1 e2 v1 v2 v3 v4 v5 h4 h5 h6
  rw [bd_I (a := p0 + p1 + (p2 + p3)) (c := p4 + p5 + (p6 + p7)) (e := 0) (f := 0) (g := 0) (h := 0), show p0 + p1 + (p2 + p3) + (p4 + p5 + (p6 + p7)) = p0 + p1 + p2 + p3 + p4 + p5 + p6 + p7 by clear v6 h1 h2; omega] at v6
  exact bd_G h3 v6
end
