/-! ===== the judgement AG: the machine at a point of a method, over an abstract heap ===== -/
/-- an abstract cell: an array (its kind, its contents), an object (its class's number, its fields); none: nothing is said of it -/
abbrev aE : Type := Option ((Nat × vp_A) ⊕ (Nat × List Value))
abbrev aH : Type := List aE
/-- what a run refers to: the launch; class ids and slots; the array classes; the first new address; the old cells' addresses; what holds of the old heap -/
abbrev aG : Type := Launch × va_G × (Nat → ClassId) × Nat × (Nat → Nat) × (State → Heap → Prop)
abbrev gL (G : aG) : Launch := G.1
abbrev gD (G : aG) : va_G := G.2.1
abbrev gC (G : aG) : Nat → ClassId := G.2.2.1
abbrev gB (G : aG) : Nat := G.2.2.2.1
abbrev gO (G : aG) : Nat → Nat := G.2.2.2.2.1
abbrev gZ (G : aG) : State → Heap → Prop := G.2.2.2.2.2
/-- the address of the abstract cell i: the first forty are old cells -/
def ad (G : aG) (i : Nat) : Nat := if i < 40 then gO G i else gB G + (i - 40)
def sv (G : aG) (v : Value) : Value := match v with
  | .ref i => .ref (ad G i)
  | v => v
def aTy (k : Nat) : FieldType := match k with
  | 0 => .int
  | 1 => .long
  | 2 => .byte
  | _ => .boolean
abbrev aTys (G : aG) : List (ClassId × FieldType) := [(gC G 0, .int), (gC G 1, .long), (gC G 2, .byte), (gC G 3, .boolean)]
def aX (G : aG) (e : (Nat × vp_A) ⊕ (Nat × List Value)) : va_E := match e with
  | .inl a => .inl (gC G a.1, a.2)
  | .inr o => .inr (o.1, o.2.map (sv G))
def aA (G : aG) : Nat → Prop := fun q => gB G ≤ q
def aRel (G : aG) (h : aH) (H : Heap) : Prop := 40 ≤ h.length ∧ H.size + 40 = gB G + h.length ∧ ∀ (i : Nat) (e : (Nat × vp_A) ⊕ (Nat × List Value)), 40 ≤ i → h[i]? = some (some e) → va_at (gD G) vwCl (ad G i, aX G e) H
def aSz (e : aE) : Nat := match e with
  | some (.inl a) => a.2.1
  | some (.inr o) => o.2.length
  | none => 6
def aSl (h : aH) : Nat := (h.map aSz).sum
def aLe (h h' : aH) : Prop := h.length ≤ h'.length ∧ aSl h ≤ aSl h'
/-- words that are kept by a law of their own -/
def aNest (w : Cond) : Bool := match w with
  | .fieldLinkNest .. => true
  | .methodLinkNest .. => true
  | _ => false
def aCl (G : aG) : Prop := ∀ (U U' : State) (H H' : Heap), U.WarmedH U'.vm → (∀ a : Nat, a < H.size → ¬ gB G ≤ a → H'[a]? = H[a]?) → gZ G U H → gZ G U' H'
def aZ (G : aG) (U : State) : Prop := va_K (gD G) vwCl (aTys G) U ∧ (∀ w ∈ lw_tbl, aNest w = true → va_Nw w U) ∧ aCl G ∧ gZ G U U.heap
/-- a method: its name, code, locals, what it returns, how deep its calls go, its handlers -/
abbrev aM : Type := MethodName × ByteArray × Nat × Option FieldType × Nat × List (Nat × Nat × Nat × Nat)
abbrev mY (M : aM) : MethodName := M.1
abbrev mC (M : aM) : ByteArray := M.2.1
abbrev mN (M : aM) : Nat := M.2.2.1
abbrev mR (M : aM) : Option FieldType := M.2.2.2.1
abbrev mD (M : aM) : Nat := M.2.2.2.2.1
abbrev mH (M : aM) : List (Nat × Nat × Nat × Nat) := M.2.2.2.2.2
/-- the words that every method has: the tables' good ones -/
def aW : List Cond := lw_tbl.filter goodWord
theorem aW_mem {w : Cond} (h : w ∈ lw_tbl) (hg : goodWord w = true) : w ∈ aW := List.mem_filter.mpr ⟨h, hg⟩
theorem aW_good {w : Cond} (h : w ∈ aW) : goodWord w = true := (List.mem_filter.mp h).2
/-- an outcome: what is returned, or the class of what is thrown; and the heap -/
abbrev aR : Type := (Option Value ⊕ String) × aH
def aQr (G : aG) (R : aR) : Array Value → State → Outcome → State → Prop := fun _ st oc t => match R.1 with
  | .inl v => oc = .returned (v.map (sv G)) ∧ aRel G R.2 t.heap ∧ va_F (aA G) st t
  | .inr _ => False
def aQx (G : aG) (R : aR) : String → State → State → Prop := fun E st t => match R.1 with
  | .inl _ => False
  | .inr E' => E = E' ∧ aRel G R.2 t.heap ∧ va_F (aA G) st t
abbrev aDc (h : aH) (R : aR) : Nat := R.2.length - h.length
abbrev aDs (h : aH) (R : aR) : Nat := aSl R.2 - aSl h
/-- what a method's body knows of its own run -/
def aCtx (G : aG) (M : aM) (p : Program) (RM : Room) (s : State) (m : MethodId) (args : Array Value) (meth : Method) (c : Code) : Prop :=
  p.tables.exec = Jvm.exec ∧ c.code = mC M ∧ meth.sig.returnType = mR M ∧ c.maxLocals = mN M ∧ s.vm.findClass (mY M).cls = some m.cls ∧ (∀ w ∈ aW, w.before args s = true) ∧ meth.locks = false ∧ meth.name = (mY M).name ∧ c.exceptionTable.toList = tableOf (mH M) ∧ mD M ≤ RM.frames ∧ 64 * mD M ≤ RM.locals ∧ aZ G s ∧ gB G ≤ s.heap.size
/-- the locals: what is known of each place -/
def aL (G : aG) (nL : Nat) (ls : List (Option Value)) (lsA : Array Slot) : Prop := ls.length = nL ∧ lsA.size = nL ∧ lv_wf lsA ∧ ∀ (i : Nat) (v : Value), ls[i]? = some (some v) → lsA[i]? = some (.val (sv G v))
def AG (G : aG) (M : aM) (pc : Nat) (ls : List (Option Value)) (st : List Value) (h : aH) (R : aR) : Prop :=
  aLe h R.2 ∧ ∀ (p : Program) (e : Env) (RM : Room) (s : State) (m : MethodId) (args : Array Value) (below : List Frame) (meth : Method) (c : Code) (H : Heap) (locs : List Loc) (lsA : Array Slot) (cells slots : Nat),
    aCtx G M p RM s m args meth c → aL G (mN M) ls lsA → aRel G h H → va_S (aA G) s.heap H locs → cells + aDc h R ≤ RM.cells → slots + aDs h R ≤ RM.slots →
    W p (gL G) e RM s m args below meth c H locs cells slots (vx_MQ below (aQr G R) (aQx G R) args s (cells + aDc h R) (slots + aDs h R) (aA G)) (F0 m pc lsA (st.map (sv G)))
/-- a contract: called with these values over this heap, it ends so -/
def aPc (G : aG) (as : List Value) (h : aH) : Array Value → State → Prop := fun v U => v = (as.map (sv G)).toArray ∧ aZ G U ∧ aRel G h U.heap
def aRm (M : aM) (h : aH) (R : aR) : Room := { frames := mD M, cells := aDc h R, slots := aDs h R, locals := 64 * mD M }
def aWs (M : aM) : List Cond := .code (mY M) (mC M) (mN M) (mR M) :: aW
def AC (G : aG) (M : aM) (as : List Value) (h : aH) (R : aR) : Prop := aLe h R.2 ∧ vx_Met (gL G) (mY M) (aWs M) (aRm M h R) (aPc G as h) (aQr G R) (aQx G R) (aDc h R) (aDs h R) (aA G)
/-! laws of the heap's picture -/
theorem ad_new {G : aG} {i : Nat} (h : 40 ≤ i) : ad G i = gB G + (i - 40) := if_neg (by omega)
theorem aRel.size {G : aG} {h : aH} {H : Heap} (r : aRel G h H) : ad G h.length = H.size := by
  rw [ad_new r.1]
  have := r.2.1
  have := r.1
  omega
theorem aRel.base {G : aG} {h : aH} {H : Heap} (r : aRel G h H) : gB G ≤ H.size := by
  have := r.2.1
  have := r.1
  omega
theorem aRel.set {G : aG} {h : aH} {H H1 : Heap} {i : Nat} {e : (Nat × vp_A) ⊕ (Nat × List Value)} (r : aRel G h H) (hi : 40 ≤ i) (z : H1.size = H.size) (oq : ∀ q : Nat, q ≠ ad G i → H1[q]? = H[q]?) (he : va_at (gD G) vwCl (ad G i, aX G e) H1) : aRel G (h.set i (some e)) H1 := by
  refine ⟨by rw [List.length_set]; exact r.1, by rw [List.length_set, z]; exact r.2.1, fun j e' hj hje => ?_⟩
  by_cases hij : i = j
  · subst hij
    rw [List.getElem?_set_self' ] at hje
    cases hh : h[i]? with
    | none => rw [hh] at hje; simp at hje
    | some w =>
      rw [hh] at hje
      simp at hje
      rw [← hje]
      exact he
  · rw [List.getElem?_set_ne hij] at hje
    refine (r.2.2 j e' hj hje).kept (oq _ ?_)
    show ad G j ≠ ad G i
    rw [ad_new hi, ad_new hj]
    omega
theorem aRel.push {G : aG} {h : aH} {H H1 : Heap} {e : aE} (r : aRel G h H) (z : H1.size = H.size + 1) (oq : ∀ q : Nat, q < H.size → H1[q]? = H[q]?) (he : ∀ e', e = some e' → va_at (gD G) vwCl (H.size, aX G e') H1) : aRel G (h ++ [e]) H1 := by
  have h1 := r.1
  have h2 := r.2.1
  refine ⟨by simp; omega, by simp; omega, fun j e' hj hje => ?_⟩
  by_cases hl : j < h.length
  · rw [List.getElem?_append_left hl] at hje
    refine (r.2.2 j e' hj hje).kept (oq _ ?_)
    show ad G j < H.size
    rw [ad_new hj]
    omega
  · have hl2 : j = h.length := by
      have := (List.getElem?_eq_some_iff.mp hje).1
      simp at this
      omega
    subst hl2
    rw [List.getElem?_append_right (Nat.le_refl _)] at hje
    simp at hje
    rw [r.size]
    exact he e' hje
theorem aLe.rf {h : aH} : aLe h h := ⟨Nat.le_refl _, Nat.le_refl _⟩
theorem aLe.tr {a b c : aH} (h1 : aLe a b) (h2 : aLe b c) : aLe a c := ⟨Nat.le_trans h1.1 h2.1, Nat.le_trans h1.2 h2.2⟩
theorem aSl_push (h : aH) (e : aE) : aSl (h ++ [e]) = aSl h + aSz e := by simp [aSl]
theorem aSl_set {h : aH} {i : Nat} {e e' : aE} (hi : h[i]? = some e) (hz : aSz e' = aSz e) : aSl (h.set i e') = aSl h := by
  unfold aSl
  rw [List.map_set]
  have : (h.map aSz).set i (aSz e') = h.map aSz := by
    apply List.ext_getElem?
    intro j
    by_cases hij : i = j
    · subst hij
      rw [List.getElem?_set_self']
      simp [hi, hz]
    · rw [List.getElem?_set_ne hij]
  rw [this]
theorem aZ.go {G : aG} {s U : State} {locs : List Loc} (h : aZ G s) (hW : s.WarmedH U.vm) (hS : va_S (aA G) s.heap U.heap locs) : aZ G U := by
  refine ⟨va_K.moved hW.alike h.1, fun w hw hn => ?_, h.2.2.1, h.2.2.1 s U s.heap U.heap hW (fun a h1 h2 => hS.2.1 a h1 h2) h.2.2.2⟩
  have h1 := h.2.1 w hw hn
  cases w <;> first | exact va_Nw.warmF hW h1 | exact va_Nw.warmM hW h1 | (simp [aNest] at hn)
theorem aPc.blind {G : aG} {as : List Value} {h : aH} : FrameBlind (aPc G as h) := fun a U g mk q => by
  obtain ⟨q1, q2, q3⟩ := q
  refine ⟨q1, ⟨va_K.moved (u := U) (U := U.calling g mk a) (Vm.Alike.refl U.vm) q2.1, fun w hw hn => ?_, q2.2.2.1, q2.2.2.1 U (U.calling g mk a) U.heap _ (State.WarmedH.refl U) (fun _ _ _ => rfl) q2.2.2.2⟩, q3⟩
  have h1 := q2.2.1 w hw hn
  cases w <;> first | exact va_Nw.warmF (U := U.calling g mk a) (State.WarmedH.refl U) h1 | exact va_Nw.warmM (U := U.calling g mk a) (State.WarmedH.refl U) h1 | (simp [aNest] at hn)
/-- what a call gives its callee's contract -/
theorem aPc.at {G : aG} {as : List Value} {h : aH} {s : State} {H : Heap} {locs : List Loc} (hZ : aZ G s) (hS : va_S (aA G) s.heap H locs) (hr : aRel G h H) (U : State) (hU : U.heap = H) (hW : s.WarmedH U.vm) : aPc G as h (as.map (sv G)).toArray U :=
  ⟨rfl, hZ.go hW (by rw [hU]; exact hS), by rw [hU]; exact hr⟩
theorem aW_pay {s : State} {args : Array Value} (h : ∀ w ∈ aW, w.before args s = true) : ∀ w ∈ aW, ∀ (a' : Array Value) (U : State), s.WarmedH U.vm → w.before a' U = true := fun w hw a' U hW => word_at hW (good_of_word (aW_good hw)) (h w hw)
