section
set_option maxHeartbeats 100000 in
theorem n_p32 : (2 : Nat) ^ 32 = 4294967296 := by simp only [Nat.reducePow]
set_option maxHeartbeats 100000 in
theorem n_fin {S B H : Nat} (h : S < 128) : (S + 128 * B + 4294967296 * H) % 4294967296 % 128 = S := by
  rw [Nat.mod_mod_of_dvd _ (show (128 : Nat) ∣ 4294967296 from ⟨33554432, by simp only [Nat.reduceMul]⟩), show S + 128 * B + 4294967296 * H = S + 128 * (B + 33554432 * H) by omega, Nat.add_mul_mod_self_left, Nat.mod_eq_of_lt h]
set_option maxHeartbeats 100000 in
theorem bd_D {y : Int64} {p0 p1 p2 p3 p4 p5 p6 p7 : Nat} (g : p0 ≤ 8 ∧ p1 ≤ 8 ∧ p2 ≤ 8 ∧ p3 ≤ 8 ∧ p4 ≤ 8 ∧ p5 ≤ 8 ∧ p6 ≤ 8 ∧ p7 ≤ 8) (v : t6 y = p0 + 256 * (p1 + 256 * (p2 + 256 * (p3 + 256 * (p4 + 256 * (p5 + 256 * (p6 + 256 * p7))))))) : t6 (y + (y.toUInt64 >>> ((nI 8).toInt64.toUInt64 &&& Int64.toUInt64 63)).toInt64) = (p0 + p1) + 256 * ((p1 + p2) + 256 * ((p2 + p3) + 256 * ((p3 + p4) + 256 * ((p4 + p5) + 256 * ((p5 + p6) + 256 * ((p6 + p7) + 256 * p7)))))) := by
  obtain ⟨g0, g1, g2, g3, g4, g5, g6, g7⟩ := g
  have a : t6 ((y.toUInt64 >>> ((nI 8).toInt64.toUInt64 &&& Int64.toUInt64 63)).toInt64) = p1 + 256 * (p2 + 256 * (p3 + 256 * (p4 + 256 * (p5 + 256 * (p6 + 256 * p7))))) := by
    rw [t6_ushr 8 (by omega) y, v, show (2 : Nat) ^ 8 = 256 by simp only [Nat.reducePow]]; exact dv (by omega)
  rw [t6_add (by rw [a, v]; omega), a, v]; omega
set_option maxHeartbeats 100000 in
theorem bd_E {y : Int64} {q0 q1 q2 q3 q4 q5 q6 q7 : Nat} (g : q0 ≤ 16 ∧ q1 ≤ 16 ∧ q2 ≤ 16 ∧ q3 ≤ 16 ∧ q4 ≤ 16 ∧ q5 ≤ 16 ∧ q6 ≤ 16 ∧ q7 ≤ 16) (v : t6 y = q0 + 256 * (q1 + 256 * (q2 + 256 * (q3 + 256 * (q4 + 256 * (q5 + 256 * (q6 + 256 * q7))))))) : t6 (y + (y.toUInt64 >>> ((nI 16).toInt64.toUInt64 &&& Int64.toUInt64 63)).toInt64) = ((q0 + q2) + 256 * ((q1 + q3) + 256 * ((q2 + q4) + 256 * (q3 + q5)))) + 4294967296 * ((q4 + q6) + 256 * ((q5 + q7) + 256 * (q6 + 256 * q7))) := by
  obtain ⟨g0, g1, g2, g3, g4, g5, g6, g7⟩ := g
  have a : t6 ((y.toUInt64 >>> ((nI 16).toInt64.toUInt64 &&& Int64.toUInt64 63)).toInt64) = q2 + 256 * (q3 + 256 * (q4 + 256 * (q5 + 256 * (q6 + 256 * q7)))) := by
    rw [t6_ushr 16 (by omega) y, v, show (2 : Nat) ^ 16 = 65536 by simp only [Nat.reducePow], show q0 + 256 * (q1 + 256 * (q2 + 256 * (q3 + 256 * (q4 + 256 * (q5 + 256 * (q6 + 256 * q7)))))) = (q0 + 256 * q1) + 65536 * (q2 + 256 * (q3 + 256 * (q4 + 256 * (q5 + 256 * (q6 + 256 * q7))))) by omega]; exact dv (by omega)
  rw [t6_add (by rw [a, v]; omega), a, v]; omega
end
