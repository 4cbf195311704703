/-! ===== constructors: the heap ends in a list of cells ===== -/
section
variable {G : aG} {M M' : aM} {pc b k n : Nat} {ls : List (Option Value)} {st : List Value} {R : aR} {h L L' : aH}
theorem c_lk (hb : h.length = b) {e : aE} (he : L[k]? = some e) : (h ++ L)[b + k]? = some e := by
  rw [List.getElem?_append_right (by omega), show b + k - h.length = k by omega]
  exact he
theorem c_st (hb : h.length = b) {e : aE} (hL : L.set k e = L') : (h ++ L).set (b + k) e = h ++ L' := by
  rw [List.set_append_right _ _ (by omega), show b + k - h.length = k by omega, hL]
theorem c_get {index ci j : Nat} {fs : List Value} {v : Value} (hb : h.length = b) (h40 : 40 ≤ b) (he : L[k]? = some (some (.inr (ci, fs)))) (hv : fs[j]? = some v) (hf : aFld (mY M).cls index ci j) (hd : decode (mC M) pc = .ok (.getfield index, 3)) (q : AG G M (pc + 3) ls (v :: st) (h ++ L) R) : AG G M pc ls (.ref (b + k) :: st) (h ++ L) R :=
  g_get hf hd (by omega) (c_lk hb he) hv q
theorem c_put {index ci j : Nat} {fs : List Value} {v : Value} {ty : FieldType} (hb : h.length = b) (h40 : 40 ≤ b) (he : L[k]? = some (some (.inr (ci, fs)))) (hj : j < fs.length) (hL : L.set k (some (.inr (ci, fs.set j v))) = L') (hf : aFldW (mY M).cls index ci j ty) (hn : narrow ty (sv G v) = sv G v) (hfit : fits ty (sv G v) = true) (hd : decode (mC M) pc = .ok (.putfield index, 3)) (q : AG G M (pc + 3) ls st (h ++ L') R) : AG G M pc ls (v :: .ref (b + k) :: st) (h ++ L) R :=
  g_put hf hd (by omega) (c_lk hb he) hj hn hfit (by rw [c_st hb hL]; exact q)
theorem c_putF {index ci j : Nat} {fs : List Value} {v : Value} {ty : FieldType} (hb : h.length = b) (h40 : 40 ≤ b) (he : L[k]? = some (some (.inr (ci, fs)))) (hj : j < fs.length) (hL : L.set k (some (.inr (ci, fs.set j v))) = L') (hf : aFldF (mY M).cls index ci j ty) (hnm : (mY M).name = "<init>") (hn : narrow ty (sv G v) = sv G v) (hfit : fits ty (sv G v) = true) (hd : decode (mC M) pc = .ok (.putfield index, 3)) (q : AG G M (pc + 3) ls st (h ++ L') R) : AG G M pc ls (v :: .ref (b + k) :: st) (h ++ L) R :=
  g_putF hf hnm hd (by omega) (c_lk hb he) hj hn hfit (by rw [c_st hb hL]; exact q)
theorem c_len (hb : h.length = b) (hn : L.length = n) : (h ++ L).length = b + n := by rw [List.length_append, hb, hn]
theorem c_newI {x : Int32} {N : Nat} (hb : h.length = b) (hn : L.length = n) (hd : decode (mC M) pc = .ok (.newarray .int, 2)) (hx : ¬ x < 0) (hN : x.toNatClampNeg = N) (h6 : N ≤ 60000000) (hL : L ++ [some (.inl (0, N, .inl (fun _ => 0)))] = L') (q : AG G M (pc + 2) ls (.ref (b + n) :: st) (h ++ L') R) : AG G M pc ls (.int x :: st) (h ++ L) R :=
  g_new_int ar_int hd hx hN h6 (by rw [List.append_assoc, hL, c_len hb hn]; exact q)
theorem c_newJ {x : Int32} {N : Nat} (hb : h.length = b) (hn : L.length = n) (hd : decode (mC M) pc = .ok (.newarray .long, 2)) (hx : ¬ x < 0) (hN : x.toNatClampNeg = N) (h6 : N ≤ 60000000) (hL : L ++ [some (.inl (1, N, .inr (.inl (fun _ => 0))))] = L') (q : AG G M (pc + 2) ls (.ref (b + n) :: st) (h ++ L') R) : AG G M pc ls (.int x :: st) (h ++ L) R :=
  g_new_long ar_long hd hx hN h6 (by rw [List.append_assoc, hL, c_len hb hn]; exact q)
theorem c_newB {x : Int32} {N : Nat} (hb : h.length = b) (hn : L.length = n) (hd : decode (mC M) pc = .ok (.newarray .byte, 2)) (hx : ¬ x < 0) (hN : x.toNatClampNeg = N) (h6 : N ≤ 60000000) (hL : L ++ [some (.inl (2, N, .inl (fun _ => 0)))] = L') (q : AG G M (pc + 2) ls (.ref (b + n) :: st) (h ++ L') R) : AG G M pc ls (.int x :: st) (h ++ L) R :=
  g_new_byte ar_byte hd hx hN h6 (by rw [List.append_assoc, hL, c_len hb hn]; exact q)
theorem c_newZ {x : Int32} {N : Nat} (hb : h.length = b) (hn : L.length = n) (hd : decode (mC M) pc = .ok (.newarray .boolean, 2)) (hx : ¬ x < 0) (hN : x.toNatClampNeg = N) (h6 : N ≤ 60000000) (hL : L ++ [some (.inl (3, N, .inl (fun _ => 0)))] = L') (q : AG G M (pc + 2) ls (.ref (b + n) :: st) (h ++ L') R) : AG G M pc ls (.int x :: st) (h ++ L) R :=
  g_new_bool ar_boolean hd hx hN h6 (by rw [List.append_assoc, hL, c_len hb hn]; exact q)
theorem c_new {index ci : Nat} {fs : List Value} (hb : h.length = b) (hn : L.length = n) (hf : aNew (mY M).cls index ci fs) (hd : decode (mC M) pc = .ok (.new index, 3)) (hL : L ++ [some (.inr (ci, fs))] = L') (q : AG G M (pc + 3) ls (.ref (b + n) :: st) (h ++ L') R) : AG G M pc ls st (h ++ L) R :=
  g_new hf hd (by rw [List.append_assoc, hL, c_len hb hn]; exact q)
theorem c_iast {N : Nat} {f : Nat → Int32} {x w : Int32} (hb : h.length = b) (h40 : 40 ≤ b) (he : L[k]? = some (some (.inl (0, N, .inl f)))) (hx : vp_in x N) (hL : L.set k (some (.inl (0, N, .inl (upd f x.toNatClampNeg w)))) = L') (hd : decode (mC M) pc = .ok (.iastore, 1)) (q : AG G M (pc + 1) ls st (h ++ L') R) : AG G M pc ls (.int w :: .int x :: .ref (b + k) :: st) (h ++ L) R :=
  g_iast hd (by omega) (c_lk hb he) hx (by rw [c_st hb hL]; exact q)
/-- a constructor's contract, at the end of a longer list -/
theorem c_conv {as : List Value} {o : Option Value ⊕ String} {A B : aH} (hA : L ++ A = L') {L2 : aH} (hB : L ++ B = L2) (c : AC G M as ((h ++ L) ++ A) (o, (h ++ L) ++ B)) : AC G M as (h ++ L') (o, h ++ L2) := by
  rw [List.append_assoc, List.append_assoc, hA, hB] at c
  exact c
end
theorem ob_1 : Cond.instanceMethod Lib.objectInit ∈ aW := aIn1 126 (by decide +kernel) rfl
theorem ob_2 : Cond.code Lib.objectInit ⟨#[0xb1]⟩ 1 none ∈ aW := aIn1 127 (by decide +kernel) rfl
theorem nw_X9_7 : aNew RX9 7 2 [.null, .int 0, .int 0, .null, .int 0, .int 0, .int 0, .null] := ⟨RX2, TX2, 8, cl_2, aIn1 128 (by decide +kernel) rfl, aIn1 129 (by decide +kernel) rfl, aIn1 96 (by decide +kernel) rfl, rfl, fun k t hk ht => by
  have h9 := (tyX2_ok k hk).symm.trans ht
  obtain rfl := Option.some.inj h9
  revert k
  decide +kernel⟩
theorem nw_X2_9 : aNew RX2 9 7 [.null, .int 0, .int 0, .int 0, .int 0, .int 0] := ⟨RX7, TX7, 6, cl_7, aIn1 134 (by decide +kernel) rfl, aIn1 135 (by decide +kernel) rfl, aIn1 97 (by decide +kernel) rfl, rfl, fun k t hk ht => by
  have h9 := (tyX7_ok k hk).symm.trans ht
  obtain rfl := Option.some.inj h9
  revert k
  decide +kernel⟩
theorem nw_X2_39 : aNew RX2 39 8 [.null, .null, .null, .null, .null, .null, .int 0, .int 0, .int 0, .null, .null] := ⟨RX8, TX8, 11, cl_8, aIn1 163 (by decide +kernel) rfl, aIn1 164 (by decide +kernel) rfl, aIn1 98 (by decide +kernel) rfl, rfl, fun k t hk ht => by
  have h9 := (tyX8_ok k hk).symm.trans ht
  obtain rfl := Option.some.inj h9
  revert k
  decide +kernel⟩
theorem nw_X9_16 : aNew RX9 16 6 [.null, .null, .null] := ⟨RX6, TX6, 3, cl_6, aIn1 258 (by decide +kernel) rfl, aIn1 259 (by decide +kernel) rfl, aIn1 99 (by decide +kernel) rfl, rfl, fun k t hk ht => by
  have h9 := (tyX6_ok k hk).symm.trans ht
  obtain rfl := Option.some.inj h9
  revert k
  decide +kernel⟩
theorem nw_X6_7 : aNew RX6 7 5 [.null] := ⟨RX5, TX5, 1, cl_5, aIn1 264 (by decide +kernel) rfl, aIn1 265 (by decide +kernel) rfl, aIn1 100 (by decide +kernel) rfl, rfl, fun k t hk ht => by
  have h9 := (tyX5_ok k hk).symm.trans ht
  obtain rfl := Option.some.inj h9
  revert k
  decide +kernel⟩
theorem nw_X6_16 : aNew RX6 16 0 [.null, .int 0, .int 0] := ⟨RX0, TX0, 3, cl_0, aIn1 274 (by decide +kernel) rfl, aIn1 275 (by decide +kernel) rfl, aIn1 101 (by decide +kernel) rfl, rfl, fun k t hk ht => by
  have h9 := (tyX0_ok k hk).symm.trans ht
  obtain rfl := Option.some.inj h9
  revert k
  decide +kernel⟩
theorem nw_X6_23 : aNew RX6 23 4 [.null, .null, .null, .int 0] := ⟨RX4, TX4, 4, cl_4, aIn1 291 (by decide +kernel) rfl, aIn1 292 (by decide +kernel) rfl, aIn1 102 (by decide +kernel) rfl, rfl, fun k t hk ht => by
  have h9 := (tyX4_ok k hk).symm.trans ht
  obtain rfl := Option.some.inj h9
  revert k
  decide +kernel⟩
theorem nw_X9_26 : aNew RX9 26 1 [.null, .null, .null, .null, .null, .null, .null, .null, .int 0, .null, .null, .int 0] := ⟨RX1, TX1, 12, cl_1, aIn1 325 (by decide +kernel) rfl, aIn1 326 (by decide +kernel) rfl, aIn1 103 (by decide +kernel) rfl, rfl, fun k t hk ht => by
  have h9 := (tyX1_ok k hk).symm.trans ht
  obtain rfl := Option.some.inj h9
  revert k
  decide +kernel⟩
theorem nw_X1_9 : aNew RX1 9 5 [.null] := ⟨RX5, TX5, 1, cl_5, aIn1 331 (by decide +kernel) rfl, aIn1 265 (by decide +kernel) rfl, aIn1 100 (by decide +kernel) rfl, rfl, fun k t hk ht => by
  have h9 := (tyX5_ok k hk).symm.trans ht
  obtain rfl := Option.some.inj h9
  revert k
  decide +kernel⟩
theorem nw_X1_49 : aNew RX1 49 8 [.null, .null, .null, .null, .null, .null, .int 0, .int 0, .int 0, .null, .null] := ⟨RX8, TX8, 11, cl_8, aIn1 333 (by decide +kernel) rfl, aIn1 164 (by decide +kernel) rfl, aIn1 98 (by decide +kernel) rfl, rfl, fun k t hk ht => by
  have h9 := (tyX8_ok k hk).symm.trans ht
  obtain rfl := Option.some.inj h9
  revert k
  decide +kernel⟩
theorem nw_X9_52 : aNew RX9 52 8 [.null, .null, .null, .null, .null, .null, .int 0, .int 0, .int 0, .null, .null] := ⟨RX8, TX8, 11, cl_8, aIn1 382 (by decide +kernel) rfl, aIn1 164 (by decide +kernel) rfl, aIn1 98 (by decide +kernel) rfl, rfl, fun k t hk ht => by
  have h9 := (tyX8_ok k hk).symm.trans ht
  obtain rfl := Option.some.inj h9
  revert k
  decide +kernel⟩
theorem nw_X2_143 : aNew RX2 143 3 [.null, .null] := ⟨RX3, TX3, 2, cl_3, aIn1 877 (by decide +kernel) rfl, aIn1 878 (by decide +kernel) rfl, aIn1 114 (by decide +kernel) rfl, rfl, fun k t hk ht => by
  have h9 := (tyX3_ok k hk).symm.trans ht
  obtain rfl := Option.some.inj h9
  revert k
  decide +kernel⟩
