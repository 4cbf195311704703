section
set_option maxHeartbeats 100000 in
theorem bd_F {y : Int64} {L H : Nat} (hL : L < 4294967296) (hH : H < 2147483648) (hs : L + H < 4294967296) (v : t6 y = L + 4294967296 * H) : t6 (y + (y.toUInt64 >>> ((nI 32).toInt64.toUInt64 &&& Int64.toUInt64 63)).toInt64) = L + H + 4294967296 * H := by
  have a : t6 ((y.toUInt64 >>> ((nI 32).toInt64.toUInt64 &&& Int64.toUInt64 63)).toInt64) = H := by
    rw [t6_ushr 32 (by omega) y, v, n_p32, dv hL]
  rw [t6_add (by rw [a, v]; omega), a, v]; omega
set_option maxHeartbeats 100000 in
theorem t6_i (y : Int64) : tn (y.toInt32) = t6 y % 4294967296 := by
  unfold tn t6
  rw [Int64.toBitVec_toInt32, BitVec.signExtend_eq_setWidth_of_le _ (by omega), BitVec.toNat_setWidth, n_p32]
set_option maxHeartbeats 100000 in
theorem bd_G {y : Int64} {S B H : Nat} (h : S < 128) (v : t6 y = S + 128 * B + 4294967296 * H) : y.toInt32 &&& 127 = nI S := by
  apply tn_inj
  rw [tn_and, kc4.2.2.2.2.2.2.2, and127, t6_i, v, n_fin h, tn_nI (by omega)]
end
