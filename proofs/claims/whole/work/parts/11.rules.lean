/-! ===== rules of AG: instructions that leave the heap ===== -/
def aOk (ls : List (Option Value)) (i : Nat) : Bool := match i with
  | 0 => true
  | j + 1 => match ls[j]? with
    | some (some v) => v.category == 1
    | _ => true
theorem sv_cat (G : aG) (v : Value) : (sv G v).category = v.category := by cases v <;> rfl
def aLl (G : aG) (ls : List (Option Value)) : List (Nat × Value) := (List.range ls.length).filterMap (fun i => match ls[i]? with
  | some (some v) => some (i, sv G v)
  | _ => none)
theorem aLl_mem {G : aG} {ls : List (Option Value)} {q : Nat × Value} : q ∈ aLl G ls ↔ ∃ v, ls[q.1]? = some (some v) ∧ q.2 = sv G v := by
  unfold aLl
  rw [List.mem_filterMap]
  constructor
  · rintro ⟨i, -, h⟩
    split at h
    · rename_i v hv
      obtain rfl := Option.some.inj h
      exact ⟨v, hv, rfl⟩
    · cases h
  · rintro ⟨v, hv, he⟩
    refine ⟨q.1, List.mem_range.mpr (List.getElem?_eq_some_iff.mp hv).1, ?_⟩
    rw [hv]
    obtain ⟨a, b⟩ := q
    simp at he
    simp [he]
theorem aL.has {G : aG} {nL : Nat} {ls : List (Option Value)} {lsA : Array Slot} (h : aL G nL ls lsA) : lv_has lsA nL (aLl G ls) := ⟨h.2.1, h.2.2.1, fun q hq => by
  obtain ⟨v, hv, he⟩ := aLl_mem.mp hq
  rw [he]
  exact h.2.2.2 _ _ hv⟩
theorem aL.st1 {G : aG} {nL i : Nat} {ls : List (Option Value)} {lsA ls' : Array Slot} {v : Value} (h : aL G nL ls lsA) (ho : aOk ls i = true) (hi : i < nL) (h' : lv_has ls' nL ((i, sv G v) :: (aLl G ls).filter (fun q => !(q.1 == i) && !(q.1 + 1 == i && q.2.category == 2)))) : aL G nL (ls.set i (some v)) ls' := by
  refine ⟨by rw [List.length_set]; exact h.1, h'.1, h'.2.1, fun j w hj => ?_⟩
  by_cases hij : i = j
  · subst hij
    rw [List.getElem?_set_self (by rw [h.1]; exact hi)] at hj
    obtain rfl := Option.some.inj (Option.some.inj hj)
    exact h'.2.2 (i, sv G v) List.mem_cons_self
  · rw [List.getElem?_set_ne hij] at hj
    refine h'.2.2 (j, sv G w) (List.mem_cons_of_mem _ (List.mem_filter.mpr ⟨aLl_mem.mpr ⟨w, hj, rfl⟩, ?_⟩))
    have h1 : (j == i) = false := by simp; omega
    by_cases h2 : j + 1 = i
    · subst h2
      simp only [aOk, hj] at ho
      simp only [beq_iff_eq] at ho
      simp [sv_cat, ho] <;> omega
    · simp [h1, h2] <;> omega
theorem aL.st2 {G : aG} {nL i : Nat} {ls : List (Option Value)} {lsA ls' : Array Slot} {v : Value} (h : aL G nL ls lsA) (ho : aOk ls i = true) (hi : i + 1 < nL) (h' : lv_has ls' nL ((i, sv G v) :: (aLl G ls).filter (fun q => !(q.1 == i) && (!(q.1 == i + 1) && !(q.1 + 1 == i && q.2.category == 2))))) : aL G nL ((ls.set i (some v)).set (i + 1) none) ls' := by
  refine ⟨by rw [List.length_set, List.length_set]; exact h.1, h'.1, h'.2.1, fun j w hj => ?_⟩
  by_cases hi1 : i + 1 = j
  · subst hi1
    rw [List.getElem?_set_self (by rw [List.length_set, h.1]; exact hi)] at hj
    cases hj
  rw [List.getElem?_set_ne hi1] at hj
  by_cases hij : i = j
  · subst hij
    rw [List.getElem?_set_self (by rw [h.1]; omega)] at hj
    obtain rfl := Option.some.inj (Option.some.inj hj)
    exact h'.2.2 (i, sv G v) List.mem_cons_self
  · rw [List.getElem?_set_ne hij] at hj
    refine h'.2.2 (j, sv G w) (List.mem_cons_of_mem _ (List.mem_filter.mpr ⟨aLl_mem.mpr ⟨w, hj, rfl⟩, ?_⟩))
    have h1 : (j == i) = false := by simp; omega
    have h3 : (j == i + 1) = false := by simp; omega
    by_cases h2 : j + 1 = i
    · subst h2
      simp only [aOk, hj] at ho
      simp only [beq_iff_eq] at ho
      simp [sv_cat, ho] <;> omega
    · simp [h1, h2] <;> omega
section
variable {G : aG} {M : aM} {pc : Nat} {ls : List (Option Value)} {st : List Value} {h : aH} {R : aR}

theorem g_iconst {n : Int} {v : Int32} (hd : decode (mC M) pc = .ok (.iconst n, 1)) (hv : Int32.ofInt n = v) (k : AG G M (pc + 1) ls (.int v :: st) h R) : AG G M pc ls (st) h R :=
  ⟨k.1, fun p e RM s m args below meth c H locs lsA cells slots C hL hr hS h1 h2 => lv_iconst C.1 C.2.1 hd hv (k.2 p e RM s m args below meth c H locs lsA cells slots C hL hr hS h1 h2)⟩
theorem g_bipush {n : Int} {v : Int32} (hd : decode (mC M) pc = .ok (.bipush n, 2)) (hv : (Int8.ofInt n).toInt32 = v) (k : AG G M (pc + 2) ls (.int v :: st) h R) : AG G M pc ls (st) h R :=
  ⟨k.1, fun p e RM s m args below meth c H locs lsA cells slots C hL hr hS h1 h2 => lv_bipush C.1 C.2.1 hd hv (k.2 p e RM s m args below meth c H locs lsA cells slots C hL hr hS h1 h2)⟩
theorem g_sipush {n : Int} {v : Int32} (hd : decode (mC M) pc = .ok (.sipush n, 3)) (hv : (Int16.ofInt n).toInt32 = v) (k : AG G M (pc + 3) ls (.int v :: st) h R) : AG G M pc ls (st) h R :=
  ⟨k.1, fun p e RM s m args below meth c H locs lsA cells slots C hL hr hS h1 h2 => lv_sipush C.1 C.2.1 hd hv (k.2 p e RM s m args below meth c H locs lsA cells slots C hL hr hS h1 h2)⟩
theorem g_lconst {n : Fin 2} {v : Int64} (hd : decode (mC M) pc = .ok (.lconst n, 1)) (hv : Int64.ofNat (n : Nat) = v) (k : AG G M (pc + 1) ls (.long v :: st) h R) : AG G M pc ls (st) h R :=
  ⟨k.1, fun p e RM s m args below meth c H locs lsA cells slots C hL hr hS h1 h2 => lv_lconst C.1 C.2.1 hd hv (k.2 p e RM s m args below meth c H locs lsA cells slots C hL hr hS h1 h2)⟩
theorem g_null (hd : decode (mC M) pc = .ok (.aconst_null, 1)) (k : AG G M (pc + 1) ls (.null :: st) h R) : AG G M pc ls (st) h R :=
  ⟨k.1, fun p e RM s m args below meth c H locs lsA cells slots C hL hr hS h1 h2 => lv_null C.1 C.2.1 hd (k.2 p e RM s m args below meth c H locs lsA cells slots C hL hr hS h1 h2)⟩
theorem g_iload_n {j : Fin 4} {i : Nat} {x : Int32} (hd : decode (mC M) pc = .ok (.iload_n j, 1)) (hj : (j : Nat) = i) (hi : ls[i]? = some (some (.int x))) (k : AG G M (pc + 1) ls (.int x :: st) h R) : AG G M pc ls (st) h R :=
  ⟨k.1, fun p e RM s m args below meth c H locs lsA cells slots C hL hr hS h1 h2 => lv_iload_n C.1 C.2.1 hd hj (hL.2.2.2 _ _ hi) (k.2 p e RM s m args below meth c H locs lsA cells slots C hL hr hS h1 h2)⟩
theorem g_iload {i : Nat} {x : Int32} (hd : decode (mC M) pc = .ok (.iload i, 2)) (hi : ls[i]? = some (some (.int x))) (k : AG G M (pc + 2) ls (.int x :: st) h R) : AG G M pc ls (st) h R :=
  ⟨k.1, fun p e RM s m args below meth c H locs lsA cells slots C hL hr hS h1 h2 => lv_iload C.1 C.2.1 hd (hL.2.2.2 _ _ hi) (k.2 p e RM s m args below meth c H locs lsA cells slots C hL hr hS h1 h2)⟩
theorem g_lload_n {j : Fin 4} {i : Nat} {x : Int64} (hd : decode (mC M) pc = .ok (.lload_n j, 1)) (hj : (j : Nat) = i) (hi : ls[i]? = some (some (.long x))) (k : AG G M (pc + 1) ls (.long x :: st) h R) : AG G M pc ls (st) h R :=
  ⟨k.1, fun p e RM s m args below meth c H locs lsA cells slots C hL hr hS h1 h2 => lv_lload_n C.1 C.2.1 hd hj (hL.2.2.2 _ _ hi) (k.2 p e RM s m args below meth c H locs lsA cells slots C hL hr hS h1 h2)⟩
theorem g_lload {i : Nat} {x : Int64} (hd : decode (mC M) pc = .ok (.lload i, 2)) (hi : ls[i]? = some (some (.long x))) (k : AG G M (pc + 2) ls (.long x :: st) h R) : AG G M pc ls (st) h R :=
  ⟨k.1, fun p e RM s m args below meth c H locs lsA cells slots C hL hr hS h1 h2 => lv_lload C.1 C.2.1 hd (hL.2.2.2 _ _ hi) (k.2 p e RM s m args below meth c H locs lsA cells slots C hL hr hS h1 h2)⟩
theorem g_aload_n {j : Fin 4} {i : Nat} {x : Nat} (hd : decode (mC M) pc = .ok (.aload_n j, 1)) (hj : (j : Nat) = i) (hi : ls[i]? = some (some (.ref x))) (k : AG G M (pc + 1) ls (.ref x :: st) h R) : AG G M pc ls (st) h R :=
  ⟨k.1, fun p e RM s m args below meth c H locs lsA cells slots C hL hr hS h1 h2 => lv_aload_n C.1 C.2.1 hd hj (hL.2.2.2 _ _ hi) (k.2 p e RM s m args below meth c H locs lsA cells slots C hL hr hS h1 h2)⟩
theorem g_aload {i : Nat} {x : Nat} (hd : decode (mC M) pc = .ok (.aload i, 2)) (hi : ls[i]? = some (some (.ref x))) (k : AG G M (pc + 2) ls (.ref x :: st) h R) : AG G M pc ls (st) h R :=
  ⟨k.1, fun p e RM s m args below meth c H locs lsA cells slots C hL hr hS h1 h2 => lv_aload C.1 C.2.1 hd (hL.2.2.2 _ _ hi) (k.2 p e RM s m args below meth c H locs lsA cells slots C hL hr hS h1 h2)⟩
theorem g_aload_nN {j : Fin 4} {i : Nat} (hd : decode (mC M) pc = .ok (.aload_n j, 1)) (hj : (j : Nat) = i) (hi : ls[i]? = some (some .null)) (k : AG G M (pc + 1) ls (.null :: st) h R) : AG G M pc ls (st) h R :=
  ⟨k.1, fun p e RM s m args below meth c H locs lsA cells slots C hL hr hS h1 h2 => lv_aload_nN C.1 C.2.1 hd hj (hL.2.2.2 _ _ hi) (k.2 p e RM s m args below meth c H locs lsA cells slots C hL hr hS h1 h2)⟩
theorem g_aloadN {i : Nat} (hd : decode (mC M) pc = .ok (.aload i, 2)) (hi : ls[i]? = some (some .null)) (k : AG G M (pc + 2) ls (.null :: st) h R) : AG G M pc ls (st) h R :=
  ⟨k.1, fun p e RM s m args below meth c H locs lsA cells slots C hL hr hS h1 h2 => lv_aloadN C.1 C.2.1 hd (hL.2.2.2 _ _ hi) (k.2 p e RM s m args below meth c H locs lsA cells slots C hL hr hS h1 h2)⟩
theorem g_iadd {x y : Int32} (hd : decode (mC M) pc = .ok (.iadd, 1)) (k : AG G M (pc + 1) ls (.int (x + y) :: st) h R) : AG G M pc ls (.int y :: .int x :: st) h R :=
  ⟨k.1, fun p e RM s m args below meth c H locs lsA cells slots C hL hr hS h1 h2 => lv_iadd C.1 C.2.1 hd (k.2 p e RM s m args below meth c H locs lsA cells slots C hL hr hS h1 h2)⟩
theorem g_isub {x y : Int32} (hd : decode (mC M) pc = .ok (.isub, 1)) (k : AG G M (pc + 1) ls (.int (x - y) :: st) h R) : AG G M pc ls (.int y :: .int x :: st) h R :=
  ⟨k.1, fun p e RM s m args below meth c H locs lsA cells slots C hL hr hS h1 h2 => lv_isub C.1 C.2.1 hd (k.2 p e RM s m args below meth c H locs lsA cells slots C hL hr hS h1 h2)⟩
theorem g_imul {x y : Int32} (hd : decode (mC M) pc = .ok (.imul, 1)) (k : AG G M (pc + 1) ls (.int (x * y) :: st) h R) : AG G M pc ls (.int y :: .int x :: st) h R :=
  ⟨k.1, fun p e RM s m args below meth c H locs lsA cells slots C hL hr hS h1 h2 => lv_imul C.1 C.2.1 hd (k.2 p e RM s m args below meth c H locs lsA cells slots C hL hr hS h1 h2)⟩
theorem g_iand {x y : Int32} (hd : decode (mC M) pc = .ok (.iand, 1)) (k : AG G M (pc + 1) ls (.int (x &&& y) :: st) h R) : AG G M pc ls (.int y :: .int x :: st) h R :=
  ⟨k.1, fun p e RM s m args below meth c H locs lsA cells slots C hL hr hS h1 h2 => lv_iand C.1 C.2.1 hd (k.2 p e RM s m args below meth c H locs lsA cells slots C hL hr hS h1 h2)⟩
theorem g_ior {x y : Int32} (hd : decode (mC M) pc = .ok (.ior, 1)) (k : AG G M (pc + 1) ls (.int (x ||| y) :: st) h R) : AG G M pc ls (.int y :: .int x :: st) h R :=
  ⟨k.1, fun p e RM s m args below meth c H locs lsA cells slots C hL hr hS h1 h2 => lv_ior C.1 C.2.1 hd (k.2 p e RM s m args below meth c H locs lsA cells slots C hL hr hS h1 h2)⟩
theorem g_ixor {x y : Int32} (hd : decode (mC M) pc = .ok (.ixor, 1)) (k : AG G M (pc + 1) ls (.int (x ^^^ y) :: st) h R) : AG G M pc ls (.int y :: .int x :: st) h R :=
  ⟨k.1, fun p e RM s m args below meth c H locs lsA cells slots C hL hr hS h1 h2 => lv_ixor C.1 C.2.1 hd (k.2 p e RM s m args below meth c H locs lsA cells slots C hL hr hS h1 h2)⟩
theorem g_ishl {x y : Int32} (hd : decode (mC M) pc = .ok (.ishl, 1)) (k : AG G M (pc + 1) ls (.int (x <<< (y &&& 31)) :: st) h R) : AG G M pc ls (.int y :: .int x :: st) h R :=
  ⟨k.1, fun p e RM s m args below meth c H locs lsA cells slots C hL hr hS h1 h2 => lv_ishl C.1 C.2.1 hd (k.2 p e RM s m args below meth c H locs lsA cells slots C hL hr hS h1 h2)⟩
theorem g_ishr {x y : Int32} (hd : decode (mC M) pc = .ok (.ishr, 1)) (k : AG G M (pc + 1) ls (.int (x >>> (y &&& 31)) :: st) h R) : AG G M pc ls (.int y :: .int x :: st) h R :=
  ⟨k.1, fun p e RM s m args below meth c H locs lsA cells slots C hL hr hS h1 h2 => lv_ishr C.1 C.2.1 hd (k.2 p e RM s m args below meth c H locs lsA cells slots C hL hr hS h1 h2)⟩
theorem g_idiv {x y : Int32} (hd : decode (mC M) pc = .ok (.idiv, 1)) (hne : ¬ y = 0) (k : AG G M (pc + 1) ls (.int (x / y) :: st) h R) : AG G M pc ls (.int y :: .int x :: st) h R :=
  ⟨k.1, fun p e RM s m args below meth c H locs lsA cells slots C hL hr hS h1 h2 => lv_idiv C.1 C.2.1 hd hne (k.2 p e RM s m args below meth c H locs lsA cells slots C hL hr hS h1 h2)⟩
theorem g_irem {x y : Int32} (hd : decode (mC M) pc = .ok (.irem, 1)) (hne : ¬ y = 0) (k : AG G M (pc + 1) ls (.int (x - x / y * y) :: st) h R) : AG G M pc ls (.int y :: .int x :: st) h R :=
  ⟨k.1, fun p e RM s m args below meth c H locs lsA cells slots C hL hr hS h1 h2 => lv_irem C.1 C.2.1 hd hne (k.2 p e RM s m args below meth c H locs lsA cells slots C hL hr hS h1 h2)⟩
theorem g_ladd {x y : Int64} (hd : decode (mC M) pc = .ok (.ladd, 1)) (k : AG G M (pc + 1) ls (.long (x + y) :: st) h R) : AG G M pc ls (.long y :: .long x :: st) h R :=
  ⟨k.1, fun p e RM s m args below meth c H locs lsA cells slots C hL hr hS h1 h2 => lv_ladd C.1 C.2.1 hd (k.2 p e RM s m args below meth c H locs lsA cells slots C hL hr hS h1 h2)⟩
theorem g_lsub {x y : Int64} (hd : decode (mC M) pc = .ok (.lsub, 1)) (k : AG G M (pc + 1) ls (.long (x - y) :: st) h R) : AG G M pc ls (.long y :: .long x :: st) h R :=
  ⟨k.1, fun p e RM s m args below meth c H locs lsA cells slots C hL hr hS h1 h2 => lv_lsub C.1 C.2.1 hd (k.2 p e RM s m args below meth c H locs lsA cells slots C hL hr hS h1 h2)⟩
theorem g_land {x y : Int64} (hd : decode (mC M) pc = .ok (.land, 1)) (k : AG G M (pc + 1) ls (.long (x &&& y) :: st) h R) : AG G M pc ls (.long y :: .long x :: st) h R :=
  ⟨k.1, fun p e RM s m args below meth c H locs lsA cells slots C hL hr hS h1 h2 => lv_land C.1 C.2.1 hd (k.2 p e RM s m args below meth c H locs lsA cells slots C hL hr hS h1 h2)⟩
theorem g_lor {x y : Int64} (hd : decode (mC M) pc = .ok (.lor, 1)) (k : AG G M (pc + 1) ls (.long (x ||| y) :: st) h R) : AG G M pc ls (.long y :: .long x :: st) h R :=
  ⟨k.1, fun p e RM s m args below meth c H locs lsA cells slots C hL hr hS h1 h2 => lv_lor C.1 C.2.1 hd (k.2 p e RM s m args below meth c H locs lsA cells slots C hL hr hS h1 h2)⟩
theorem g_ineg {x : Int32} (hd : decode (mC M) pc = .ok (.ineg, 1)) (k : AG G M (pc + 1) ls (.int (-x) :: st) h R) : AG G M pc ls (.int x :: st) h R :=
  ⟨k.1, fun p e RM s m args below meth c H locs lsA cells slots C hL hr hS h1 h2 => lv_ineg C.1 C.2.1 hd (k.2 p e RM s m args below meth c H locs lsA cells slots C hL hr hS h1 h2)⟩
theorem g_i2l {x : Int32} (hd : decode (mC M) pc = .ok (.i2l, 1)) (k : AG G M (pc + 1) ls (.long x.toInt64 :: st) h R) : AG G M pc ls (.int x :: st) h R :=
  ⟨k.1, fun p e RM s m args below meth c H locs lsA cells slots C hL hr hS h1 h2 => lv_i2l C.1 C.2.1 hd rfl (k.2 p e RM s m args below meth c H locs lsA cells slots C hL hr hS h1 h2)⟩
theorem g_l2i {x : Int64} (hd : decode (mC M) pc = .ok (.l2i, 1)) (k : AG G M (pc + 1) ls (.int x.toInt32 :: st) h R) : AG G M pc ls (.long x :: st) h R :=
  ⟨k.1, fun p e RM s m args below meth c H locs lsA cells slots C hL hr hS h1 h2 => lv_l2i C.1 C.2.1 hd rfl (k.2 p e RM s m args below meth c H locs lsA cells slots C hL hr hS h1 h2)⟩
theorem g_i2b {x : Int32} (hd : decode (mC M) pc = .ok (.i2b, 1)) (k : AG G M (pc + 1) ls (.int x.toInt8.toInt32 :: st) h R) : AG G M pc ls (.int x :: st) h R :=
  ⟨k.1, fun p e RM s m args below meth c H locs lsA cells slots C hL hr hS h1 h2 => lv_i2b C.1 C.2.1 hd rfl (k.2 p e RM s m args below meth c H locs lsA cells slots C hL hr hS h1 h2)⟩
theorem g_iushr {x y : Int32} (hd : decode (mC M) pc = .ok (.iushr, 1)) (k : AG G M (pc + 1) ls (.int (x.toUInt32 >>> (y.toUInt32 &&& Int32.toUInt32 31)).toInt32 :: st) h R) : AG G M pc ls (.int y :: .int x :: st) h R :=
  ⟨k.1, fun p e RM s m args below meth c H locs lsA cells slots C hL hr hS h1 h2 => lv_iushr C.1 C.2.1 hd rfl (k.2 p e RM s m args below meth c H locs lsA cells slots C hL hr hS h1 h2)⟩
theorem g_lushr {x : Int64} {y : Int32} (hd : decode (mC M) pc = .ok (.lushr, 1)) (k : AG G M (pc + 1) ls (.long (x.toUInt64 >>> (y.toInt64.toUInt64 &&& Int64.toUInt64 63)).toInt64 :: st) h R) : AG G M pc ls (.int y :: .long x :: st) h R :=
  ⟨k.1, fun p e RM s m args below meth c H locs lsA cells slots C hL hr hS h1 h2 => lv_lushr C.1 C.2.1 hd rfl (k.2 p e RM s m args below meth c H locs lsA cells slots C hL hr hS h1 h2)⟩
theorem g_lshl {x : Int64} {y : Int32} (hd : decode (mC M) pc = .ok (.lshl, 1)) (k : AG G M (pc + 1) ls (.long (x <<< (y.toInt64 &&& 63)) :: st) h R) : AG G M pc ls (.int y :: .long x :: st) h R :=
  ⟨k.1, fun p e RM s m args below meth c H locs lsA cells slots C hL hr hS h1 h2 => lv_lshl C.1 C.2.1 hd rfl (k.2 p e RM s m args below meth c H locs lsA cells slots C hL hr hS h1 h2)⟩
theorem g_lcmp {x y : Int64} (hd : decode (mC M) pc = .ok (.lcmp, 1)) (k : AG G M (pc + 1) ls (.int (lg_cmp x y) :: st) h R) : AG G M pc ls (.long y :: .long x :: st) h R :=
  ⟨k.1, fun p e RM s m args below meth c H locs lsA cells slots C hL hr hS h1 h2 => W.lcmp C.1 C.2.1 hd (k.2 p e RM s m args below meth c H locs lsA cells slots C hL hr hS h1 h2)⟩
theorem g_dup {v : Value} (hd : decode (mC M) pc = .ok (.dup, 1)) (hv : v.category = 1) (k : AG G M (pc + 1) ls (v :: v :: st) h R) : AG G M pc ls (v :: st) h R :=
  ⟨k.1, fun p e RM s m args below meth c H locs lsA cells slots C hL hr hS h1 h2 => lv_dup C.1 C.2.1 hd ((sv_cat G v).trans hv) (k.2 p e RM s m args below meth c H locs lsA cells slots C hL hr hS h1 h2)⟩
theorem g_pop {v : Value} (hd : decode (mC M) pc = .ok (.pop, 1)) (hv : v.category = 1) (k : AG G M (pc + 1) ls (st) h R) : AG G M pc ls (v :: st) h R :=
  ⟨k.1, fun p e RM s m args below meth c H locs lsA cells slots C hL hr hS h1 h2 => lv_pop C.1 C.2.1 hd ((sv_cat G v).trans hv) (k.2 p e RM s m args below meth c H locs lsA cells slots C hL hr hS h1 h2)⟩
theorem g_dup2 {v w : Value} (hd : decode (mC M) pc = .ok (.dup2, 1)) (hv : v.category = 1) (hw : w.category = 1) (k : AG G M (pc + 1) ls (v :: w :: v :: w :: st) h R) : AG G M pc ls (v :: w :: st) h R :=
  ⟨k.1, fun p e RM s m args below meth c H locs lsA cells slots C hL hr hS h1 h2 => lv_dup2_11 C.1 C.2.1 hd ((sv_cat G v).trans hv) ((sv_cat G w).trans hw) (k.2 p e RM s m args below meth c H locs lsA cells slots C hL hr hS h1 h2)⟩
theorem g_ldc {index : Nat} {v : Int32} (hd : decode (mC M) pc = .ok (.ldc index, 2)) (hm : Cond.constant (mY M).cls index v ∈ aW) (k : AG G M (pc + 2) ls (.int v :: st) h R) : AG G M pc ls st h R :=
  ⟨k.1, fun p e RM s m args below meth c H locs lsA cells slots C hL hr hS h1 h2 => lv_ldc C.1 C.2.1 C.2.2.2.2.1 (C.2.2.2.2.2.1 _ hm) hd (k.2 p e RM s m args below meth c H locs lsA cells slots C hL hr hS h1 h2)⟩
theorem g_ldcw {index : Nat} {v : Int32} (hd : decode (mC M) pc = .ok (.ldc_w index, 3)) (hm : Cond.constant (mY M).cls index v ∈ aW) (k : AG G M (pc + 3) ls (.int v :: st) h R) : AG G M pc ls st h R :=
  ⟨k.1, fun p e RM s m args below meth c H locs lsA cells slots C hL hr hS h1 h2 => lv_ldcw C.1 C.2.1 C.2.2.2.2.1 (C.2.2.2.2.2.1 _ hm) hd (k.2 p e RM s m args below meth c H locs lsA cells slots C hL hr hS h1 h2)⟩
theorem g_ldc2 {index : Nat} {v : Int64} (hd : decode (mC M) pc = .ok (.ldc2_w index, 3)) (hm : Cond.constantLong (mY M).cls index v ∈ aW) (k : AG G M (pc + 3) ls (.long v :: st) h R) : AG G M pc ls st h R :=
  ⟨k.1, fun p e RM s m args below meth c H locs lsA cells slots C hL hr hS h1 h2 => lv_ldc2 C.1 C.2.1 C.2.2.2.2.1 (C.2.2.2.2.2.1 _ hm) hd (k.2 p e RM s m args below meth c H locs lsA cells slots C hL hr hS h1 h2)⟩
theorem g_goto {off : Int} {tgt : Nat} (hd : decode (mC M) pc = .ok (.goto off, 3)) (ht : (pc : Int) + off = (tgt : Int)) (k : AG G M tgt ls st h R) : AG G M pc ls st h R :=
  ⟨k.1, fun p e RM s m args below meth c H locs lsA cells slots C hL hr hS h1 h2 => lv_goto C.1 C.2.1 hd ht (k.2 p e RM s m args below meth c H locs lsA cells slots C hL hr hS h1 h2)⟩
theorem g_if_eq {x : Int32} {off : Int} {tgt : Nat} (hd : decode (mC M) pc = .ok (.ifCond .eq off, 3)) (ht : (pc : Int) + off = (tgt : Int)) (kt : x = 0 → AG G M tgt ls st h R) (kf : ¬ x = 0 → AG G M (pc + 3) ls st h R) : AG G M pc ls (.int x :: st) h R :=
  ⟨(Classical.em (x = 0)).elim (fun q => (kt q).1) (fun q => (kf q).1), fun p e RM s m args below meth c H locs lsA cells slots C hL hr hS h1 h2 => lv_if_eq C.1 C.2.1 hd ht (fun q => (kt q).2 p e RM s m args below meth c H locs lsA cells slots C hL hr hS h1 h2) (fun q => (kf q).2 p e RM s m args below meth c H locs lsA cells slots C hL hr hS h1 h2)⟩
theorem g_icmp_eq {x y : Int32} {off : Int} {tgt : Nat} (hd : decode (mC M) pc = .ok (.if_icmp .eq off, 3)) (ht : (pc : Int) + off = (tgt : Int)) (kt : x = y → AG G M tgt ls st h R) (kf : ¬ x = y → AG G M (pc + 3) ls st h R) : AG G M pc ls (.int y :: .int x :: st) h R :=
  ⟨(Classical.em (x = y)).elim (fun q => (kt q).1) (fun q => (kf q).1), fun p e RM s m args below meth c H locs lsA cells slots C hL hr hS h1 h2 => lv_icmp_eq C.1 C.2.1 hd ht (fun q => (kt q).2 p e RM s m args below meth c H locs lsA cells slots C hL hr hS h1 h2) (fun q => (kf q).2 p e RM s m args below meth c H locs lsA cells slots C hL hr hS h1 h2)⟩
theorem g_if_ne {x : Int32} {off : Int} {tgt : Nat} (hd : decode (mC M) pc = .ok (.ifCond .ne off, 3)) (ht : (pc : Int) + off = (tgt : Int)) (kt : ¬ x = 0 → AG G M tgt ls st h R) (kf : x = 0 → AG G M (pc + 3) ls st h R) : AG G M pc ls (.int x :: st) h R :=
  ⟨(Classical.em (x = 0)).elim (fun q => (kf q).1) (fun q => (kt q).1), fun p e RM s m args below meth c H locs lsA cells slots C hL hr hS h1 h2 => lv_if_ne C.1 C.2.1 hd ht (fun q => (kt q).2 p e RM s m args below meth c H locs lsA cells slots C hL hr hS h1 h2) (fun q => (kf q).2 p e RM s m args below meth c H locs lsA cells slots C hL hr hS h1 h2)⟩
theorem g_icmp_ne {x y : Int32} {off : Int} {tgt : Nat} (hd : decode (mC M) pc = .ok (.if_icmp .ne off, 3)) (ht : (pc : Int) + off = (tgt : Int)) (kt : ¬ x = y → AG G M tgt ls st h R) (kf : x = y → AG G M (pc + 3) ls st h R) : AG G M pc ls (.int y :: .int x :: st) h R :=
  ⟨(Classical.em (x = y)).elim (fun q => (kf q).1) (fun q => (kt q).1), fun p e RM s m args below meth c H locs lsA cells slots C hL hr hS h1 h2 => lv_icmp_ne C.1 C.2.1 hd ht (fun q => (kt q).2 p e RM s m args below meth c H locs lsA cells slots C hL hr hS h1 h2) (fun q => (kf q).2 p e RM s m args below meth c H locs lsA cells slots C hL hr hS h1 h2)⟩
theorem g_if_lt {x : Int32} {off : Int} {tgt : Nat} (hd : decode (mC M) pc = .ok (.ifCond .lt off, 3)) (ht : (pc : Int) + off = (tgt : Int)) (kt : x < 0 → AG G M tgt ls st h R) (kf : ¬ x < 0 → AG G M (pc + 3) ls st h R) : AG G M pc ls (.int x :: st) h R :=
  ⟨(Classical.em (x < 0)).elim (fun q => (kt q).1) (fun q => (kf q).1), fun p e RM s m args below meth c H locs lsA cells slots C hL hr hS h1 h2 => lv_if_lt C.1 C.2.1 hd ht (fun q => (kt q).2 p e RM s m args below meth c H locs lsA cells slots C hL hr hS h1 h2) (fun q => (kf q).2 p e RM s m args below meth c H locs lsA cells slots C hL hr hS h1 h2)⟩
theorem g_icmp_lt {x y : Int32} {off : Int} {tgt : Nat} (hd : decode (mC M) pc = .ok (.if_icmp .lt off, 3)) (ht : (pc : Int) + off = (tgt : Int)) (kt : x < y → AG G M tgt ls st h R) (kf : ¬ x < y → AG G M (pc + 3) ls st h R) : AG G M pc ls (.int y :: .int x :: st) h R :=
  ⟨(Classical.em (x < y)).elim (fun q => (kt q).1) (fun q => (kf q).1), fun p e RM s m args below meth c H locs lsA cells slots C hL hr hS h1 h2 => lv_icmp_lt C.1 C.2.1 hd ht (fun q => (kt q).2 p e RM s m args below meth c H locs lsA cells slots C hL hr hS h1 h2) (fun q => (kf q).2 p e RM s m args below meth c H locs lsA cells slots C hL hr hS h1 h2)⟩
theorem g_if_ge {x : Int32} {off : Int} {tgt : Nat} (hd : decode (mC M) pc = .ok (.ifCond .ge off, 3)) (ht : (pc : Int) + off = (tgt : Int)) (kt : 0 ≤ x → AG G M tgt ls st h R) (kf : ¬ 0 ≤ x → AG G M (pc + 3) ls st h R) : AG G M pc ls (.int x :: st) h R :=
  ⟨(Classical.em (0 ≤ x)).elim (fun q => (kt q).1) (fun q => (kf q).1), fun p e RM s m args below meth c H locs lsA cells slots C hL hr hS h1 h2 => lv_if_ge C.1 C.2.1 hd ht (fun q => (kt q).2 p e RM s m args below meth c H locs lsA cells slots C hL hr hS h1 h2) (fun q => (kf q).2 p e RM s m args below meth c H locs lsA cells slots C hL hr hS h1 h2)⟩
theorem g_icmp_ge {x y : Int32} {off : Int} {tgt : Nat} (hd : decode (mC M) pc = .ok (.if_icmp .ge off, 3)) (ht : (pc : Int) + off = (tgt : Int)) (kt : y ≤ x → AG G M tgt ls st h R) (kf : ¬ y ≤ x → AG G M (pc + 3) ls st h R) : AG G M pc ls (.int y :: .int x :: st) h R :=
  ⟨(Classical.em (y ≤ x)).elim (fun q => (kt q).1) (fun q => (kf q).1), fun p e RM s m args below meth c H locs lsA cells slots C hL hr hS h1 h2 => lv_icmp_ge C.1 C.2.1 hd ht (fun q => (kt q).2 p e RM s m args below meth c H locs lsA cells slots C hL hr hS h1 h2) (fun q => (kf q).2 p e RM s m args below meth c H locs lsA cells slots C hL hr hS h1 h2)⟩
theorem g_if_gt {x : Int32} {off : Int} {tgt : Nat} (hd : decode (mC M) pc = .ok (.ifCond .gt off, 3)) (ht : (pc : Int) + off = (tgt : Int)) (kt : 0 < x → AG G M tgt ls st h R) (kf : ¬ 0 < x → AG G M (pc + 3) ls st h R) : AG G M pc ls (.int x :: st) h R :=
  ⟨(Classical.em (0 < x)).elim (fun q => (kt q).1) (fun q => (kf q).1), fun p e RM s m args below meth c H locs lsA cells slots C hL hr hS h1 h2 => lv_if_gt C.1 C.2.1 hd ht (fun q => (kt q).2 p e RM s m args below meth c H locs lsA cells slots C hL hr hS h1 h2) (fun q => (kf q).2 p e RM s m args below meth c H locs lsA cells slots C hL hr hS h1 h2)⟩
theorem g_icmp_gt {x y : Int32} {off : Int} {tgt : Nat} (hd : decode (mC M) pc = .ok (.if_icmp .gt off, 3)) (ht : (pc : Int) + off = (tgt : Int)) (kt : y < x → AG G M tgt ls st h R) (kf : ¬ y < x → AG G M (pc + 3) ls st h R) : AG G M pc ls (.int y :: .int x :: st) h R :=
  ⟨(Classical.em (y < x)).elim (fun q => (kt q).1) (fun q => (kf q).1), fun p e RM s m args below meth c H locs lsA cells slots C hL hr hS h1 h2 => lv_icmp_gt C.1 C.2.1 hd ht (fun q => (kt q).2 p e RM s m args below meth c H locs lsA cells slots C hL hr hS h1 h2) (fun q => (kf q).2 p e RM s m args below meth c H locs lsA cells slots C hL hr hS h1 h2)⟩
theorem g_if_le {x : Int32} {off : Int} {tgt : Nat} (hd : decode (mC M) pc = .ok (.ifCond .le off, 3)) (ht : (pc : Int) + off = (tgt : Int)) (kt : x ≤ 0 → AG G M tgt ls st h R) (kf : ¬ x ≤ 0 → AG G M (pc + 3) ls st h R) : AG G M pc ls (.int x :: st) h R :=
  ⟨(Classical.em (x ≤ 0)).elim (fun q => (kt q).1) (fun q => (kf q).1), fun p e RM s m args below meth c H locs lsA cells slots C hL hr hS h1 h2 => lv_if_le C.1 C.2.1 hd ht (fun q => (kt q).2 p e RM s m args below meth c H locs lsA cells slots C hL hr hS h1 h2) (fun q => (kf q).2 p e RM s m args below meth c H locs lsA cells slots C hL hr hS h1 h2)⟩
theorem g_icmp_le {x y : Int32} {off : Int} {tgt : Nat} (hd : decode (mC M) pc = .ok (.if_icmp .le off, 3)) (ht : (pc : Int) + off = (tgt : Int)) (kt : x ≤ y → AG G M tgt ls st h R) (kf : ¬ x ≤ y → AG G M (pc + 3) ls st h R) : AG G M pc ls (.int y :: .int x :: st) h R :=
  ⟨(Classical.em (x ≤ y)).elim (fun q => (kt q).1) (fun q => (kf q).1), fun p e RM s m args below meth c H locs lsA cells slots C hL hr hS h1 h2 => lv_icmp_le C.1 C.2.1 hd ht (fun q => (kt q).2 p e RM s m args below meth c H locs lsA cells slots C hL hr hS h1 h2) (fun q => (kf q).2 p e RM s m args below meth c H locs lsA cells slots C hL hr hS h1 h2)⟩
theorem g_ifnonnull {x : Nat} {off : Int} {tgt : Nat} (hd : decode (mC M) pc = .ok (.ifnonnull off, 3)) (ht : (pc : Int) + off = (tgt : Int)) (k : AG G M tgt ls st h R) : AG G M pc ls (.ref x :: st) h R :=
  ⟨k.1, fun p e RM s m args below meth c H locs lsA cells slots C hL hr hS h1 h2 => lv_ifnonnull C.1 C.2.1 hd ht (k.2 p e RM s m args below meth c H locs lsA cells slots C hL hr hS h1 h2)⟩
theorem g_ifnonnullN {off : Int} (hd : decode (mC M) pc = .ok (.ifnonnull off, 3)) (k : AG G M (pc + 3) ls st h R) : AG G M pc ls (.null :: st) h R :=
  ⟨k.1, fun p e RM s m args below meth c H locs lsA cells slots C hL hr hS h1 h2 => lv_ifnonnullN C.1 C.2.1 hd (k.2 p e RM s m args below meth c H locs lsA cells slots C hL hr hS h1 h2)⟩
theorem g_ifnull {x : Nat} {off : Int} (hd : decode (mC M) pc = .ok (.ifnull off, 3)) (k : AG G M (pc + 3) ls st h R) : AG G M pc ls (.ref x :: st) h R :=
  ⟨k.1, fun p e RM s m args below meth c H locs lsA cells slots C hL hr hS h1 h2 => lv_ifnull C.1 C.2.1 hd (k.2 p e RM s m args below meth c H locs lsA cells slots C hL hr hS h1 h2)⟩
theorem g_ifnullN {off : Int} {tgt : Nat} (hd : decode (mC M) pc = .ok (.ifnull off, 3)) (ht : (pc : Int) + off = (tgt : Int)) (k : AG G M tgt ls st h R) : AG G M pc ls (.null :: st) h R :=
  ⟨k.1, fun p e RM s m args below meth c H locs lsA cells slots C hL hr hS h1 h2 => lv_ifnullN C.1 C.2.1 hd ht (k.2 p e RM s m args below meth c H locs lsA cells slots C hL hr hS h1 h2)⟩
theorem g_lookup {dflt : Int} {ps : Array (Int × Int)} {len : Nat} {x : Int32} {off : Int} {tgt : Nat} (hd : decode (mC M) pc = .ok (.lookupswitch dflt ps, len)) (hp : (ps.toList.zip (ps.toList.drop 1)).all (fun (a, next) => a.1 < next.1) = true) (ho : Op.lookupswitch.offset ps.toList dflt x.toInt = off) (ht : (pc : Int) + off = (tgt : Int)) (k : AG G M tgt ls st h R) : AG G M pc ls (.int x :: st) h R :=
  ⟨k.1, fun p e RM s m args below meth c H locs lsA cells slots C hL hr hS h1 h2 => lv_lookup C.1 C.2.1 hd hp ho ht (k.2 p e RM s m args below meth c H locs lsA cells slots C hL hr hS h1 h2)⟩
theorem g_tableOut {dflt lo hi : Int} {offs : Array Int} {len : Nat} {x : Int32} {tgt : Nat} (hd : decode (mC M) pc = .ok (.tableswitch dflt lo hi offs, len)) (hx : x.toInt < lo ∨ hi < x.toInt) (ht : (pc : Int) + dflt = (tgt : Int)) (k : AG G M tgt ls st h R) : AG G M pc ls (.int x :: st) h R :=
  ⟨k.1, fun p e RM s m args below meth c H locs lsA cells slots C hL hr hS h1 h2 => lv_tableOut C.1 C.2.1 hd hx ht (k.2 p e RM s m args below meth c H locs lsA cells slots C hL hr hS h1 h2)⟩
theorem g_tableIn {dflt lo hi : Int} {offs : Array Int} {len : Nat} {x : Int32} {off : Int} {tgt : Nat} (hd : decode (mC M) pc = .ok (.tableswitch dflt lo hi offs, len)) (hx1 : ¬ x.toInt < lo) (hx2 : ¬ hi < x.toInt) (ho : offs[(x.toInt - lo).toNat]? = some off) (ht : (pc : Int) + off = (tgt : Int)) (k : AG G M tgt ls st h R) : AG G M pc ls (.int x :: st) h R :=
  ⟨k.1, fun p e RM s m args below meth c H locs lsA cells slots C hL hr hS h1 h2 => lv_tableIn C.1 C.2.1 hd hx1 hx2 ho ht (k.2 p e RM s m args below meth c H locs lsA cells slots C hL hr hS h1 h2)⟩
theorem g_istore_n {j : Fin 4} {i : Nat} {x : Int32} (hd : decode (mC M) pc = .ok (.istore_n j, 1)) (hj : (j : Nat) = i) (hi : i < mN M) (ho : aOk ls i = true) (k : AG G M (pc + 1) (ls.set i (some (.int x))) st h R) : AG G M pc ls ((.int x) :: st) h R :=
  ⟨k.1, fun p e RM s m args below meth c H locs lsA cells slots C hL hr hS h1 h2 => lv_istore_n C.1 C.2.1 hd hj hL.has hi rfl (fun ls9 h9 => k.2 p e RM s m args below meth c H locs ls9 cells slots C (hL.st1 (v := .int x) ho hi h9) hr hS h1 h2)⟩
theorem g_istore {i : Nat} {x : Int32} (hd : decode (mC M) pc = .ok (.istore i, 2)) (hi : i < mN M) (ho : aOk ls i = true) (k : AG G M (pc + 2) (ls.set i (some (.int x))) st h R) : AG G M pc ls ((.int x) :: st) h R :=
  ⟨k.1, fun p e RM s m args below meth c H locs lsA cells slots C hL hr hS h1 h2 => lv_istore C.1 C.2.1 hd hL.has hi rfl (fun ls9 h9 => k.2 p e RM s m args below meth c H locs ls9 cells slots C (hL.st1 (v := .int x) ho hi h9) hr hS h1 h2)⟩
theorem g_lstore_n {j : Fin 4} {i : Nat} {x : Int64} (hd : decode (mC M) pc = .ok (.lstore_n j, 1)) (hj : (j : Nat) = i) (hi : i + 1 < mN M) (ho : aOk ls i = true) (k : AG G M (pc + 1) ((ls.set i (some (.long x))).set (i + 1) none) st h R) : AG G M pc ls ((.long x) :: st) h R :=
  ⟨k.1, fun p e RM s m args below meth c H locs lsA cells slots C hL hr hS h1 h2 => lv_lstore_n C.1 C.2.1 hd hj hL.has hi rfl (fun ls9 h9 => k.2 p e RM s m args below meth c H locs ls9 cells slots C (hL.st2 (v := .long x) ho hi h9) hr hS h1 h2)⟩
theorem g_lstore {i : Nat} {x : Int64} (hd : decode (mC M) pc = .ok (.lstore i, 2)) (hi : i + 1 < mN M) (ho : aOk ls i = true) (k : AG G M (pc + 2) ((ls.set i (some (.long x))).set (i + 1) none) st h R) : AG G M pc ls ((.long x) :: st) h R :=
  ⟨k.1, fun p e RM s m args below meth c H locs lsA cells slots C hL hr hS h1 h2 => lv_lstore C.1 C.2.1 hd hL.has hi rfl (fun ls9 h9 => k.2 p e RM s m args below meth c H locs ls9 cells slots C (hL.st2 (v := .long x) ho hi h9) hr hS h1 h2)⟩
theorem g_astore_n {j : Fin 4} {i : Nat} {x : Nat} (hd : decode (mC M) pc = .ok (.astore_n j, 1)) (hj : (j : Nat) = i) (hi : i < mN M) (ho : aOk ls i = true) (k : AG G M (pc + 1) (ls.set i (some (.ref x))) st h R) : AG G M pc ls ((.ref x) :: st) h R :=
  ⟨k.1, fun p e RM s m args below meth c H locs lsA cells slots C hL hr hS h1 h2 => lv_astore_n C.1 C.2.1 hd hj hL.has hi rfl (fun ls9 h9 => k.2 p e RM s m args below meth c H locs ls9 cells slots C (hL.st1 (v := .ref x) ho hi h9) hr hS h1 h2)⟩
theorem g_astore {i : Nat} {x : Nat} (hd : decode (mC M) pc = .ok (.astore i, 2)) (hi : i < mN M) (ho : aOk ls i = true) (k : AG G M (pc + 2) (ls.set i (some (.ref x))) st h R) : AG G M pc ls ((.ref x) :: st) h R :=
  ⟨k.1, fun p e RM s m args below meth c H locs lsA cells slots C hL hr hS h1 h2 => lv_astore C.1 C.2.1 hd hL.has hi rfl (fun ls9 h9 => k.2 p e RM s m args below meth c H locs ls9 cells slots C (hL.st1 (v := .ref x) ho hi h9) hr hS h1 h2)⟩
theorem g_astore_nN {j : Fin 4} {i : Nat} (hd : decode (mC M) pc = .ok (.astore_n j, 1)) (hj : (j : Nat) = i) (hi : i < mN M) (ho : aOk ls i = true) (k : AG G M (pc + 1) (ls.set i (some (.null))) st h R) : AG G M pc ls ((.null) :: st) h R :=
  ⟨k.1, fun p e RM s m args below meth c H locs lsA cells slots C hL hr hS h1 h2 => lv_astore_nN C.1 C.2.1 hd hj hL.has hi rfl (fun ls9 h9 => k.2 p e RM s m args below meth c H locs ls9 cells slots C (hL.st1 (v := .null) ho hi h9) hr hS h1 h2)⟩
theorem g_astoreN {i : Nat} (hd : decode (mC M) pc = .ok (.astore i, 2)) (hi : i < mN M) (ho : aOk ls i = true) (k : AG G M (pc + 2) (ls.set i (some (.null))) st h R) : AG G M pc ls ((.null) :: st) h R :=
  ⟨k.1, fun p e RM s m args below meth c H locs lsA cells slots C hL hr hS h1 h2 => lv_astoreN C.1 C.2.1 hd hL.has hi rfl (fun ls9 h9 => k.2 p e RM s m args below meth c H locs ls9 cells slots C (hL.st1 (v := .null) ho hi h9) hr hS h1 h2)⟩
theorem g_iinc {i : Nat} {n : Int} {x : Int32} (hd : decode (mC M) pc = .ok (.iinc i n, 3)) (hx : ls[i]? = some (some (.int x))) (hi : i < mN M) (ho : aOk ls i = true) (k : AG G M (pc + 3) (ls.set i (some (.int (x + Int32.ofInt n)))) st h R) : AG G M pc ls st h R := by
  refine ⟨k.1, fun p e RM s m args below meth c H locs lsA cells slots C hL hr hS h1 h2 => ?_⟩
  obtain ⟨k9, hk9⟩ := List.getElem?_of_mem (aLl_mem.mpr ⟨.int x, hx, rfl⟩ : (i, Value.int x) ∈ aLl G ls)
  exact lv_iinc C.1 C.2.1 hd hL.has hk9 rfl hi rfl (fun ls9 h9 => k.2 p e RM s m args below meth c H locs ls9 cells slots C (hL.st1 (v := .int (x + Int32.ofInt n)) ho hi h9) hr hS h1 h2)
end
