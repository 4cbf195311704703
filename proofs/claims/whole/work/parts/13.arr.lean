/-! ===== rules of AG: arrays, new objects ===== -/
section
variable {G : aG} {M : aM} {pc : Nat} {ls : List (Option Value)} {st : List Value} {h : aH} {R : aR}
theorem aZ.ty {G : aG} {s : State} (hZ : aZ G s) {k : Nat} (hk : k < 4) : ArrOfT s (gC G k) (aTy k) ∧ va_RA s (gC G k) (aTy k) := by
  rcases (show k = 0 ∨ k = 1 ∨ k = 2 ∨ k = 3 by omega) with rfl | rfl | rfl | rfl
  · exact hZ.1.2 0 _ rfl
  · exact hZ.1.2 1 _ rfl
  · exact hZ.1.2 2 _ rfl
  · exact hZ.1.2 3 _ rfl

theorem g_iald {i n : Nat} {f : Nat → Int32} {x : Int32} (hd : decode (mC M) pc = .ok (.iaload, 1)) (hi : 40 ≤ i) (he : h[i]? = some (some (.inl (0, n, .inl f)))) (hx : vp_in x n) (k : AG G M (pc + 1) ls (.int (f x.toNatClampNeg) :: st) h R) : AG G M pc ls (.int x :: .ref i :: st) h R := by
  refine ⟨k.1, fun p e RM s m args below meth c H locs lsA cells slots C hL hr hS h1 h2 => ?_⟩
  have hlt : x.toNatClampNeg < n := Nat.not_le.mp fun q => hx (Or.inr q)
  have hc : H[ad G i]? = some (arrV (gC G 0) n (fun j => .int (f j))) := hr.2.2 i _ hi he
  have ha := (C.2.2.2.2.2.2.2.2.2.2.2.1.ty (k := 0) (by decide)).1 n (fun j => .int (f j))
  exact W.iald (v := .int (f x.toNatClampNeg)) C.1 C.2.1 hc ha (fun q => by cases q) (by rw [arrV_size]; exact hx) (by rw [arrV_read _ _ hlt]) rfl rfl hd (k.2 p e RM s m args below meth c H locs lsA cells slots C hL hr hS h1 h2)
theorem g_lald {i n : Nat} {f : Nat → Int64} {x : Int32} (hd : decode (mC M) pc = .ok (.laload, 1)) (hi : 40 ≤ i) (he : h[i]? = some (some (.inl (1, n, .inr (.inl f))))) (hx : vp_in x n) (k : AG G M (pc + 1) ls (.long (f x.toNatClampNeg) :: st) h R) : AG G M pc ls (.int x :: .ref i :: st) h R := by
  refine ⟨k.1, fun p e RM s m args below meth c H locs lsA cells slots C hL hr hS h1 h2 => ?_⟩
  have hlt : x.toNatClampNeg < n := Nat.not_le.mp fun q => hx (Or.inr q)
  have hc : H[ad G i]? = some (arrV (gC G 1) n (fun j => .long (f j))) := hr.2.2 i _ hi he
  have ha := (C.2.2.2.2.2.2.2.2.2.2.2.1.ty (k := 1) (by decide)).1 n (fun j => .long (f j))
  exact W.lald (v := .long (f x.toNatClampNeg)) C.1 C.2.1 hc ha (fun q => by cases q) (by rw [arrV_size]; exact hx) (by rw [arrV_read _ _ hlt]) rfl rfl hd (k.2 p e RM s m args below meth c H locs lsA cells slots C hL hr hS h1 h2)
theorem g_bald {i n : Nat} {f : Nat → Int32} {x : Int32} (hd : decode (mC M) pc = .ok (.baload, 1)) (hi : 40 ≤ i) (he : h[i]? = some (some (.inl (2, n, .inl f)))) (hx : vp_in x n) (k : AG G M (pc + 1) ls (.int (f x.toNatClampNeg) :: st) h R) : AG G M pc ls (.int x :: .ref i :: st) h R := by
  refine ⟨k.1, fun p e RM s m args below meth c H locs lsA cells slots C hL hr hS h1 h2 => ?_⟩
  have hlt : x.toNatClampNeg < n := Nat.not_le.mp fun q => hx (Or.inr q)
  have hc : H[ad G i]? = some (arrV (gC G 2) n (fun j => .int (f j))) := hr.2.2 i _ hi he
  have ha := (C.2.2.2.2.2.2.2.2.2.2.2.1.ty (k := 2) (by decide)).1 n (fun j => .int (f j))
  exact W.bald (v := .int (f x.toNatClampNeg)) C.1 C.2.1 hc ha (fun q => by cases q) (by rw [arrV_size]; exact hx) (by rw [arrV_read _ _ hlt]) rfl rfl hd (k.2 p e RM s m args below meth c H locs lsA cells slots C hL hr hS h1 h2)
theorem g_zald {i n : Nat} {f : Nat → Int32} {x : Int32} (hd : decode (mC M) pc = .ok (.baload, 1)) (hi : 40 ≤ i) (he : h[i]? = some (some (.inl (3, n, .inl f)))) (hx : vp_in x n) (k : AG G M (pc + 1) ls (.int (f x.toNatClampNeg) :: st) h R) : AG G M pc ls (.int x :: .ref i :: st) h R := by
  refine ⟨k.1, fun p e RM s m args below meth c H locs lsA cells slots C hL hr hS h1 h2 => ?_⟩
  have hlt : x.toNatClampNeg < n := Nat.not_le.mp fun q => hx (Or.inr q)
  have hc : H[ad G i]? = some (arrV (gC G 3) n (fun j => .int (f j))) := hr.2.2 i _ hi he
  have ha := (C.2.2.2.2.2.2.2.2.2.2.2.1.ty (k := 3) (by decide)).1 n (fun j => .int (f j))
  exact W.zald (v := .int (f x.toNatClampNeg)) C.1 C.2.1 hc ha (fun q => by cases q) (by rw [arrV_size]; exact hx) (by rw [arrV_read _ _ hlt]) rfl rfl hd (k.2 p e RM s m args below meth c H locs lsA cells slots C hL hr hS h1 h2)
theorem g_iast {i n : Nat} {f : Nat → Int32} {x : Int32} {w : Int32} (hd : decode (mC M) pc = .ok (.iastore, 1)) (hi : 40 ≤ i) (he : h[i]? = some (some (.inl (0, n, .inl f)))) (hx : vp_in x n) (k : AG G M (pc + 1) ls st (h.set i (some (.inl (0, n, .inl (upd f x.toNatClampNeg w))))) R) : AG G M pc ls (.int w :: .int x :: .ref i :: st) h R := by
  have hz : aSz (some (.inl (0, n, .inl (upd f x.toNatClampNeg w)))) = aSz (some (.inl (0, n, .inl f))) := rfl
  refine ⟨aLe.set he hz k.1, fun p e RM s m args below meth c H locs lsA cells slots C hL hr hS h1 h2 => ?_⟩
  have hc : H[ad G i]? = some (arrV (gC G 0) n (fun j => .int (f j))) := hr.2.2 i _ hi he
  have ha := (C.2.2.2.2.2.2.2.2.2.2.2.1.ty (k := 0) (by decide)).1 n (fun j => .int (f j))
  refine W.iast C.1 C.2.1 hc ha (fun q => by cases q) (by rw [arrV_size]; exact hx) rfl rfl hd fun H1 e1 e2 e3 => ?_
  rw [← aDc_set (h := h) (R := R) (i := i) (e' := some (.inl (0, n, .inl (upd f x.toNatClampNeg w)))), ← aDs_set (R := R) he hz]
  rw [← aDc_set (h := h) (R := R) (i := i) (e' := some (.inl (0, n, .inl (upd f x.toNatClampNeg w))))] at h1
  rw [← aDs_set (R := R) he hz] at h2
  refine k.2 p e RM s m args below meth c H1 _ lsA cells slots C hL (hr.set hi e2 e3 ?_) (hS.put e2 e3 (aA_ad hi)) h1 h2
  show H1[ad G i]? = some (vp_cell _ _)
  rw [e1, vp_cell_i, arrV_store]
  congr 2
  funext q
  by_cases hq : q = x.toNatClampNeg
  · subst hq
    simp [updV, upd]
    try rfl
  · simp [updV, upd, hq]
theorem g_last {i n : Nat} {f : Nat → Int64} {x : Int32} {w : Int64} (hd : decode (mC M) pc = .ok (.lastore, 1)) (hi : 40 ≤ i) (he : h[i]? = some (some (.inl (1, n, .inr (.inl f))))) (hx : vp_in x n) (k : AG G M (pc + 1) ls st (h.set i (some (.inl (1, n, .inr (.inl (vp_updL f x.toNatClampNeg w)))))) R) : AG G M pc ls (.long w :: .int x :: .ref i :: st) h R := by
  have hz : aSz (some (.inl (1, n, .inr (.inl (vp_updL f x.toNatClampNeg w))))) = aSz (some (.inl (1, n, .inr (.inl f)))) := rfl
  refine ⟨aLe.set he hz k.1, fun p e RM s m args below meth c H locs lsA cells slots C hL hr hS h1 h2 => ?_⟩
  have hc : H[ad G i]? = some (arrV (gC G 1) n (fun j => .long (f j))) := hr.2.2 i _ hi he
  have ha := (C.2.2.2.2.2.2.2.2.2.2.2.1.ty (k := 1) (by decide)).1 n (fun j => .long (f j))
  refine W.last C.1 C.2.1 hc ha (fun q => by cases q) (by rw [arrV_size]; exact hx) rfl rfl hd fun H1 e1 e2 e3 => ?_
  rw [← aDc_set (h := h) (R := R) (i := i) (e' := some (.inl (1, n, .inr (.inl (vp_updL f x.toNatClampNeg w))))), ← aDs_set (R := R) he hz]
  rw [← aDc_set (h := h) (R := R) (i := i) (e' := some (.inl (1, n, .inr (.inl (vp_updL f x.toNatClampNeg w)))))] at h1
  rw [← aDs_set (R := R) he hz] at h2
  refine k.2 p e RM s m args below meth c H1 _ lsA cells slots C hL (hr.set hi e2 e3 ?_) (hS.put e2 e3 (aA_ad hi)) h1 h2
  show H1[ad G i]? = some (vp_cell _ _)
  rw [e1, vp_cell_l, arrV_store]
  congr 2
  funext q
  by_cases hq : q = x.toNatClampNeg
  · subst hq
    simp [updV, vp_updL]
    try rfl
  · simp [updV, vp_updL, hq]
theorem g_bast {i n : Nat} {f : Nat → Int32} {x : Int32} {w : Int32} (hd : decode (mC M) pc = .ok (.bastore, 1)) (hi : 40 ≤ i) (he : h[i]? = some (some (.inl (2, n, .inl f)))) (hx : vp_in x n) (k : AG G M (pc + 1) ls st (h.set i (some (.inl (2, n, .inl (upd f x.toNatClampNeg (vp_nar .byte w)))))) R) : AG G M pc ls (.int w :: .int x :: .ref i :: st) h R := by
  have hz : aSz (some (.inl (2, n, .inl (upd f x.toNatClampNeg (vp_nar .byte w))))) = aSz (some (.inl (2, n, .inl f))) := rfl
  refine ⟨aLe.set he hz k.1, fun p e RM s m args below meth c H locs lsA cells slots C hL hr hS h1 h2 => ?_⟩
  have hc : H[ad G i]? = some (arrV (gC G 2) n (fun j => .int (f j))) := hr.2.2 i _ hi he
  have ha := (C.2.2.2.2.2.2.2.2.2.2.2.1.ty (k := 2) (by decide)).1 n (fun j => .int (f j))
  refine W.bast C.1 C.2.1 hc ha (fun q => by cases q) (by rw [arrV_size]; exact hx) rfl rfl hd fun H1 e1 e2 e3 => ?_
  rw [← aDc_set (h := h) (R := R) (i := i) (e' := some (.inl (2, n, .inl (upd f x.toNatClampNeg (vp_nar .byte w))))), ← aDs_set (R := R) he hz]
  rw [← aDc_set (h := h) (R := R) (i := i) (e' := some (.inl (2, n, .inl (upd f x.toNatClampNeg (vp_nar .byte w)))))] at h1
  rw [← aDs_set (R := R) he hz] at h2
  refine k.2 p e RM s m args below meth c H1 _ lsA cells slots C hL (hr.set hi e2 e3 ?_) (hS.put e2 e3 (aA_ad hi)) h1 h2
  show H1[ad G i]? = some (vp_cell _ _)
  rw [e1, vp_cell_i, arrV_store]
  congr 2
  funext q
  by_cases hq : q = x.toNatClampNeg
  · subst hq
    simp [updV, upd, vp_nar]
    try rfl
  · simp [updV, upd, vp_nar, hq]
theorem g_zast {i n : Nat} {f : Nat → Int32} {x : Int32} {w : Int32} (hd : decode (mC M) pc = .ok (.bastore, 1)) (hi : 40 ≤ i) (he : h[i]? = some (some (.inl (3, n, .inl f)))) (hx : vp_in x n) (k : AG G M (pc + 1) ls st (h.set i (some (.inl (3, n, .inl (upd f x.toNatClampNeg (vp_nar .boolean w)))))) R) : AG G M pc ls (.int w :: .int x :: .ref i :: st) h R := by
  have hz : aSz (some (.inl (3, n, .inl (upd f x.toNatClampNeg (vp_nar .boolean w))))) = aSz (some (.inl (3, n, .inl f))) := rfl
  refine ⟨aLe.set he hz k.1, fun p e RM s m args below meth c H locs lsA cells slots C hL hr hS h1 h2 => ?_⟩
  have hc : H[ad G i]? = some (arrV (gC G 3) n (fun j => .int (f j))) := hr.2.2 i _ hi he
  have ha := (C.2.2.2.2.2.2.2.2.2.2.2.1.ty (k := 3) (by decide)).1 n (fun j => .int (f j))
  refine W.zast C.1 C.2.1 hc ha (fun q => by cases q) (by rw [arrV_size]; exact hx) rfl rfl hd fun H1 e1 e2 e3 => ?_
  rw [← aDc_set (h := h) (R := R) (i := i) (e' := some (.inl (3, n, .inl (upd f x.toNatClampNeg (vp_nar .boolean w))))), ← aDs_set (R := R) he hz]
  rw [← aDc_set (h := h) (R := R) (i := i) (e' := some (.inl (3, n, .inl (upd f x.toNatClampNeg (vp_nar .boolean w)))))] at h1
  rw [← aDs_set (R := R) he hz] at h2
  refine k.2 p e RM s m args below meth c H1 _ lsA cells slots C hL (hr.set hi e2 e3 ?_) (hS.put e2 e3 (aA_ad hi)) h1 h2
  show H1[ad G i]? = some (vp_cell _ _)
  rw [e1, vp_cell_i, arrV_store]
  congr 2
  funext q
  by_cases hq : q = x.toNatClampNeg
  · subst hq
    simp [updV, upd, vp_nar]
    try rfl
  · simp [updV, upd, vp_nar, hq]
theorem g_alen {i kd : Nat} {a : vp_A} {v : Int32} (hd : decode (mC M) pc = .ok (.arraylength, 1)) (hi : 40 ≤ i) (hk : kd < 4) (he : h[i]? = some (some (.inl (kd, a)))) (hv : Int32.ofNat a.1 = v) (k : AG G M (pc + 1) ls (.int v :: st) h R) : AG G M pc ls (.ref i :: st) h R := by
  refine ⟨k.1, fun p e RM s m args below meth c H locs lsA cells slots C hL hr hS h1 h2 => ?_⟩
  have hK := C.2.2.2.2.2.2.2.2.2.2.2.1.1
  have ht : (aTys G)[kd]? = some (gC G kd, aTy kd) := by
    rcases (show kd = 0 ∨ kd = 1 ∨ kd = 2 ∨ kd = 3 by omega) with rfl | rfl | rfl | rfl <;> rfl
  exact va_alen C.1 C.2.1 hK (hr.P1 hi he) 0 kd (x := a) rfl ht hv hd (k.2 p e RM s m args below meth c H locs lsA cells slots C hL hr hS h1 h2)
theorem g_new_int {x : Int32} {n : Nat} (hm : Cond.arrayClass .int ∈ aW) (hd : decode (mC M) pc = .ok (.newarray .int, 2)) (hx : ¬ x < 0) (hn : x.toNatClampNeg = n) (hb : n ≤ 60000000) (k : AG G M (pc + 2) ls (.ref h.length :: st) (h ++ [some (.inl (0, n, .inl (fun _ => 0)))]) R) : AG G M pc ls (.int x :: st) h R := by
  refine ⟨k.1.push, fun p e RM s m args below meth c H locs lsA cells slots C hL hr hS h1 h2 => ?_⟩
  have e1 := aDc_push k.1 cells
  have e2 := aDs_push k.1 slots
  have e3 : aSz (some (.inl (0, n, .inl (fun _ => 0)))) = n := rfl
  rw [e3] at e2
  have hb1 : n * componentBytes .int ≤ 536870912 := Nat.le_trans (Nat.mul_le_mul_left n (show componentBytes .int ≤ 8 by decide)) (by omega)
  have h3 : cells + 1 ≤ RM.cells := by omega
  have h4 : slots + n ≤ RM.slots := by omega
  refine va_newaK (N := n) C.1 C.2.1 (atype := .int) (C.2.2.2.2.2.1 _ hm) rfl hd rfl hx hn hb1 h3 h4 rfl fun H1 cA q1 z1 o1 hAr hNm => ?_
  have hcA : cA = gC G 0 := Option.some.inj (hNm.symm.trans (C.2.2.2.2.2.2.2.2.2.2.2.1.ty (k := 0) (by decide)).2)
  subst hcA
  rw [← e1, ← e2]
  have hs := hr.size
  have kk := k.2 p e RM s m args below meth c H1 locs lsA (cells + 1) (slots + n) C hL (hr.push z1 o1 (fun e' he' => ?_)) ⟨Nat.le_trans hS.1 (by omega), fun x h1 h2 => (o1 x (Nat.lt_of_lt_of_le h1 hS.1)).trans (hS.2.1 x h1 h2), hS.2.2⟩ (by omega) (by omega)
  · rw [List.map_cons, show sv G (.ref h.length) = .ref H.size from congrArg Value.ref hs] at kk
    exact kk
  · obtain rfl := Option.some.inj he'
    exact q1
theorem g_new_long {x : Int32} {n : Nat} (hm : Cond.arrayClass .long ∈ aW) (hd : decode (mC M) pc = .ok (.newarray .long, 2)) (hx : ¬ x < 0) (hn : x.toNatClampNeg = n) (hb : n ≤ 60000000) (k : AG G M (pc + 2) ls (.ref h.length :: st) (h ++ [some (.inl (1, n, .inr (.inl (fun _ => 0))))]) R) : AG G M pc ls (.int x :: st) h R := by
  refine ⟨k.1.push, fun p e RM s m args below meth c H locs lsA cells slots C hL hr hS h1 h2 => ?_⟩
  have e1 := aDc_push k.1 cells
  have e2 := aDs_push k.1 slots
  have e3 : aSz (some (.inl (1, n, .inr (.inl (fun _ => 0))))) = n := rfl
  rw [e3] at e2
  have hb1 : n * componentBytes .long ≤ 536870912 := Nat.le_trans (Nat.mul_le_mul_left n (show componentBytes .long ≤ 8 by decide)) (by omega)
  have h3 : cells + 1 ≤ RM.cells := by omega
  have h4 : slots + n ≤ RM.slots := by omega
  refine va_newaK (N := n) C.1 C.2.1 (atype := .long) (C.2.2.2.2.2.1 _ hm) rfl hd rfl hx hn hb1 h3 h4 rfl fun H1 cA q1 z1 o1 hAr hNm => ?_
  have hcA : cA = gC G 1 := Option.some.inj (hNm.symm.trans (C.2.2.2.2.2.2.2.2.2.2.2.1.ty (k := 1) (by decide)).2)
  subst hcA
  rw [← e1, ← e2]
  have hs := hr.size
  have kk := k.2 p e RM s m args below meth c H1 locs lsA (cells + 1) (slots + n) C hL (hr.push z1 o1 (fun e' he' => ?_)) ⟨Nat.le_trans hS.1 (by omega), fun x h1 h2 => (o1 x (Nat.lt_of_lt_of_le h1 hS.1)).trans (hS.2.1 x h1 h2), hS.2.2⟩ (by omega) (by omega)
  · rw [List.map_cons, show sv G (.ref h.length) = .ref H.size from congrArg Value.ref hs] at kk
    exact kk
  · obtain rfl := Option.some.inj he'
    exact q1
theorem g_new_byte {x : Int32} {n : Nat} (hm : Cond.arrayClass .byte ∈ aW) (hd : decode (mC M) pc = .ok (.newarray .byte, 2)) (hx : ¬ x < 0) (hn : x.toNatClampNeg = n) (hb : n ≤ 60000000) (k : AG G M (pc + 2) ls (.ref h.length :: st) (h ++ [some (.inl (2, n, .inl (fun _ => 0)))]) R) : AG G M pc ls (.int x :: st) h R := by
  refine ⟨k.1.push, fun p e RM s m args below meth c H locs lsA cells slots C hL hr hS h1 h2 => ?_⟩
  have e1 := aDc_push k.1 cells
  have e2 := aDs_push k.1 slots
  have e3 : aSz (some (.inl (2, n, .inl (fun _ => 0)))) = n := rfl
  rw [e3] at e2
  have hb1 : n * componentBytes .byte ≤ 536870912 := Nat.le_trans (Nat.mul_le_mul_left n (show componentBytes .byte ≤ 8 by decide)) (by omega)
  have h3 : cells + 1 ≤ RM.cells := by omega
  have h4 : slots + n ≤ RM.slots := by omega
  refine va_newaK (N := n) C.1 C.2.1 (atype := .byte) (C.2.2.2.2.2.1 _ hm) rfl hd rfl hx hn hb1 h3 h4 rfl fun H1 cA q1 z1 o1 hAr hNm => ?_
  have hcA : cA = gC G 2 := Option.some.inj (hNm.symm.trans (C.2.2.2.2.2.2.2.2.2.2.2.1.ty (k := 2) (by decide)).2)
  subst hcA
  rw [← e1, ← e2]
  have hs := hr.size
  have kk := k.2 p e RM s m args below meth c H1 locs lsA (cells + 1) (slots + n) C hL (hr.push z1 o1 (fun e' he' => ?_)) ⟨Nat.le_trans hS.1 (by omega), fun x h1 h2 => (o1 x (Nat.lt_of_lt_of_le h1 hS.1)).trans (hS.2.1 x h1 h2), hS.2.2⟩ (by omega) (by omega)
  · rw [List.map_cons, show sv G (.ref h.length) = .ref H.size from congrArg Value.ref hs] at kk
    exact kk
  · obtain rfl := Option.some.inj he'
    exact q1
theorem g_new_bool {x : Int32} {n : Nat} (hm : Cond.arrayClass .boolean ∈ aW) (hd : decode (mC M) pc = .ok (.newarray .boolean, 2)) (hx : ¬ x < 0) (hn : x.toNatClampNeg = n) (hb : n ≤ 60000000) (k : AG G M (pc + 2) ls (.ref h.length :: st) (h ++ [some (.inl (3, n, .inl (fun _ => 0)))]) R) : AG G M pc ls (.int x :: st) h R := by
  refine ⟨k.1.push, fun p e RM s m args below meth c H locs lsA cells slots C hL hr hS h1 h2 => ?_⟩
  have e1 := aDc_push k.1 cells
  have e2 := aDs_push k.1 slots
  have e3 : aSz (some (.inl (3, n, .inl (fun _ => 0)))) = n := rfl
  rw [e3] at e2
  have hb1 : n * componentBytes .boolean ≤ 536870912 := Nat.le_trans (Nat.mul_le_mul_left n (show componentBytes .boolean ≤ 8 by decide)) (by omega)
  have h3 : cells + 1 ≤ RM.cells := by omega
  have h4 : slots + n ≤ RM.slots := by omega
  refine va_newaK (N := n) C.1 C.2.1 (atype := .boolean) (C.2.2.2.2.2.1 _ hm) rfl hd rfl hx hn hb1 h3 h4 rfl fun H1 cA q1 z1 o1 hAr hNm => ?_
  have hcA : cA = gC G 3 := Option.some.inj (hNm.symm.trans (C.2.2.2.2.2.2.2.2.2.2.2.1.ty (k := 3) (by decide)).2)
  subst hcA
  rw [← e1, ← e2]
  have hs := hr.size
  have kk := k.2 p e RM s m args below meth c H1 locs lsA (cells + 1) (slots + n) C hL (hr.push z1 o1 (fun e' he' => ?_)) ⟨Nat.le_trans hS.1 (by omega), fun x h1 h2 => (o1 x (Nat.lt_of_lt_of_le h1 hS.1)).trans (hS.2.1 x h1 h2), hS.2.2⟩ (by omega) (by omega)
  · rw [List.map_cons, show sv G (.ref h.length) = .ref H.size from congrArg Value.ref hs] at kk
    exact kk
  · obtain rfl := Option.some.inj he'
    exact q1
/-- a new object of the class ci -/
def aNew (own : String) (index ci : Nat) (fs : List Value) : Prop := ∃ (C : String) (T : u_T) (N : Nat), aCls ci C T N ∧ Cond.classLink own index C ∈ aW ∧ Cond.instantiable C N ∈ aW ∧ Cond.initialized C ∈ aW ∧ fs.length = N ∧ ∀ (k : Nat) (t : FieldType), k < N → parseFieldDescriptor (T k).2.2.1 = some t → fs[k]? = some (defaultValue t)
theorem sv_default (G : aG) (t : FieldType) : sv G (defaultValue t) = defaultValue t := by cases t <;> rfl
theorem g_new {index ci : Nat} {fs : List Value} (hf : aNew (mY M).cls index ci fs) (hd : decode (mC M) pc = .ok (.new index, 3)) (k : AG G M (pc + 3) ls (.ref h.length :: st) (h ++ [some (.inr (ci, fs))]) R) : AG G M pc ls st h R := by
  refine ⟨k.1.push, fun p e RM s m args below meth c H locs lsA cells slots C hL hr hS h1 h2 => ?_⟩
  obtain ⟨Cn, T, N, hc, hcl, hins, hini, hN, hdf⟩ := hf
  obtain ⟨ty0, hty0⟩ := hc.2.2.1
  have e1 := aDc_push k.1 cells
  have e2 := aDs_push k.1 slots
  have e3 : aSz (some (.inr (ci, fs))) = N := hN
  rw [e3] at e2
  have hts := C.2.2.2.2.2.1
  have hKn := (C.2.2.2.2.2.2.2.2.2.2.2.1.1).1 ci _ hc.1
  refine W.newcK C.1 C.2.1 C.2.2.2.2.1 (hts _ hcl) (hts _ hins) (hts _ hini) rfl hd (by omega) (by omega) hKn.2.1 rfl fun H1 kC hkC q1 z1 o1 => ?_
  rw [← e1, ← e2]
  have hs := hr.size
  have kk := k.2 p e RM s m args below meth c H1 locs lsA (cells + 1) (slots + N) C hL (hr.push z1 o1 (fun e' he' => ?_)) ⟨Nat.le_trans hS.1 (by omega), fun x h1 h2 => (o1 x (Nat.lt_of_lt_of_le h1 hS.1)).trans (hS.2.1 x h1 h2), hS.2.2⟩ (by omega) (by omega)
  · rw [List.map_cons, show sv G (.ref h.length) = .ref H.size from congrArg Value.ref hs] at kk
    exact kk
  · obtain rfl := Option.some.inj he'
    refine ⟨_, hc.1, (u_born ty0 hts hc.2.1 hKn hkC q1 hty0).to (fun j hj => ?_)⟩
    show _ = (fs.map (sv G)).getD j .null
    rw [List.getD_eq_getElem?_getD, List.getElem?_map, hdf j _ hj (hty0 j hj)]
    exact (sv_default G _).symm
end
