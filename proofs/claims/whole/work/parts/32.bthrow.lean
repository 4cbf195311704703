/-! ===== throws: 'throw new E("text")' in a method without handlers, with the heap behind it told exactly (after vx_throwS, vx_throwSW of part 02) ===== -/
def avx_at (ix : Nat) (bt : ByteArray) (own : String) (ic : Nat) (X yn : String) (rn : List String) : List Cond := (aOwn ix bt own ic X yn rn).filter vx_no
section
variable {p : Program} {l : Launch} {e : Env} {R : Room} {s : State} {m : MethodId} {args : Array Value} {below : List Frame} {meth : Method} {c : Code} {H : Heap} {locs : List Loc} {cells slots : Nat} {Q : State → Prop}
variable {mc ms : Nat} {free : Addr → Prop} {A0 A1 : Nat → Prop} {H0 : Heap} {a : Array Value} {ls : Array Slot} {st0 rest : List Value}
variable {Qc : Array Value → State → Outcome → State → Prop} {XC : String → State → State → Prop}
theorem avx_throwS {cc : ByteArray} {pc : Nat} (hexec : p.tables.exec = Jvm.exec) (hb : c.code = cc) (hl : l.stackTraces = false) {own cls text yn : String} {rn : List String} {ix : Nat} {bt : ByteArray} (b0 : decode bt 0 = .ok (.aload_n 0, 1)) (b1 : decode bt 1 = .ok (.aload_n 1, 1)) (b2 : decode bt 2 = .ok (.invokespecial ix, 3)) (b5 : decode bt 5 = .ok (.return_, 1)) {ik is ic mc ms sa : Nat} {A : Nat → Prop}
    (hown : s.vm.findClass own = some m.cls) (hcls : Bundle.fit cls = true) (hnames : ∀ n ∈ yn :: rn, Bundle.fit n = true)
    (hk : (Cond.classLink own ik cls).before args s = true) (hini : (Cond.initialized cls).before args s = true) (hstr : vk_R own is text sa s) (hat : ∀ w ∈ avx_at ix bt own ic cls yn rn, w.before args s = true)
    (hgood : ∀ w ∈ Cond.classLink own ik cls :: Cond.initialized cls :: avx_at ix bt own ic cls yn rn, vx_ot w = true)
    (hU : vx_Zq Bundle.tN "UNASSIGNED_STACK" Bundle.steD A s s.heap) (hN : vx_Zq Bundle.tN "SUPPRESSED_SENTINEL" Bundle.listD A s s.heap) (hS : va_S A s.heap H locs) (hsize : ls.size = c.maxLocals)
    (d0 : decode cc pc = .ok (.new ik, 3)) (d3 : decode cc (pc + 3) = .ok (.dup, 1)) (d4 : decode cc (pc + 4) = .ok (.ldc is, 2)) (d6 : decode cc (pc + 6) = .ok (.invokespecial ic, 3)) (d9 : decode cc (pc + 9) = .ok (.athrow, 1))
    (hout : ∀ x ∈ c.exceptionTable.toList, covers x (pc + 9) = false)
    (hRframes : (yn :: rn).length + 3 < R.frames) (hRlocals : (rest.map fun v => v.category).sum + (13 * ((yn :: rn).length + 1) + 43) ≤ R.locals) (hRcells : cells + 1 ≤ R.cells) (hRslots : slots + 6 ≤ R.slots) (hlocks : meth.locks = false)
    (hx : ∀ t : State, s.vm.Alike t.vm → t.heap.size = H.size + 1 → (∀ q : Nat, q < H.size → t.heap[q]? = H[q]?) → XC cls s t)
    (hf : ∀ z ∈ locs, free z.base) (hc : cells + 1 ≤ mc) (hs : slots + 6 ≤ ms) :
    W p l e R s m args below meth c H locs cells slots (vx_MQ below Qc XC args s mc ms free) (F0 m pc ls rest) := by
  intro T hT X
  have htr : e.platform.stackTraces = false := (show e.platform.stackTraces = l.stackTraces by rw [X.admits.platform]).trans hl
  have Y := vx_rebase X (R' := { frames := R.frames, locals := R.locals, cells := 1, slots := 6 }) (Nat.le_refl _) (Nat.le_refl _) hRcells hRslots
  obtain ⟨s', hA⟩ : ∃ z, z = (T.setVm s.vm).setFrames (.invoking m args :: below) := ⟨_, rfl⟩
  rw [← hA] at Y
  have hvm : s'.vm = s.vm := by rw [hA]; rfl
  have hhp : s'.heap = H := by rw [hA]; exact hT
  have hW0 : s.WarmedH s'.vm := by rw [hvm]; exact State.WarmedH.refl s
  have hat' : ∀ w ∈ avx_at ix bt own ic cls yn rn, w.before args s' = true := fun w hw => vx_ot_at hW0 hvm.symm (hgood w (List.mem_cons_of_mem _ (List.mem_cons_of_mem _ hw))) (hat w hw)
  have hk' : (Cond.classLink own ik cls).before args s' = true := vx_ot_at hW0 hvm.symm (hgood _ List.mem_cons_self) hk
  have hini' : (Cond.initialized cls).before args s' = true := vx_ot_at hW0 hvm.symm (hgood _ (List.mem_cons_of_mem _ List.mem_cons_self)) hini
  have hU' : vx_Zq Bundle.tN "UNASSIGNED_STACK" Bundle.steD A s' s'.heap := by rw [hhp]; exact vx_Zq.moved hW0.alike (hU.kept hS.2.1)
  have hN' : vx_Zq Bundle.tN "SUPPRESSED_SENTINEL" Bundle.listD A s' s'.heap := by rw [hhp]; exact vx_Zq.moved hW0.alike (hN.kept hS.2.1)
  have h : ∀ w ∈ aOwn ix bt own ic cls yn rn, w.before args s' = true := vx_own hat' (vx_isRefq hU'.1) (vx_isRefq hN'.1) hU'.2.word hN'.2.word
  have hown' : s'.vm.findClass own = some m.cls := by rw [hvm]; exact hown
  have hins : (Cond.instantiable cls 6).before args s' = true := h _ (by simp [aOwn])
  obtain ⟨vm₁, cX, kX, hfX, hkX, -, -, X₁, st1⟩ := Y.newCold hexec (own := own) (C := cls) (index := ik) (n := 6) hown' hk' hins hini'
    (g := F0 m pc ls rest) rfl (by rw [hb]; exact d0) (Nat.le_refl _) (Nat.le_refl _)
  generalize hT1 : (T.setVm vm₁).pushCell { cls := cX, slots := kX.instanceTypes.map defaultValue, vm := .none } = T1 at X₁ st1
  have hcat : (Value.ref T.heap.size).category = 1 := rfl
  have hcellA : T1.heap[T.heap.size]? = some (freshCell cX kX) := by rw [← hT1]; exact State.heap_pushCell_size _ _
  have d3' : decode c.code (pc + 3) = .ok (.dup, 1) := by rw [hb]; exact d3
  have d4' : decode c.code (pc + 4) = .ok (.ldc is, 2) := by rw [hb]; exact d4
  have hstr' : vk_R own is text sa s' := vk_R.warm hW0 hstr
  obtain ⟨U, hsteps, hrun, hend, hW, hsame, ce, hce, hO⟩ := ctorThrowSK X₁ hexec htr (own := own) (cls := cls) (yn := yn) (rn := rn) (ic := ic) b0 b1 b2 b5 hown' hcls hnames h (fun x hx => nomatch hx) hfX hkX hcellA (by rw [hhp, hT]; exact Nat.le_refl _) (msg := .ref sa) rfl
    (g := { method := m, pc := pc + 6, locals := ls, stack := .ref sa :: .ref T.heap.size :: .ref T.heap.size :: rest, locked := none }) rfl hsize rfl rfl (rest := rest) rfl
    (by rw [hb]; exact d6) (by rw [hb]; exact d9) hout hRframes (by simp only [List.map_cons, List.sum_cons, hcat]; omega) hlocks
  obtain ⟨f1, f2⟩ := vx_frame hsame
  rw [hhp] at f1 f2
  have hWs : s.WarmedH U.vm := State.WarmedH.trans hW0 hW
  have f3 : U.heap.size = H.size + 1 := by
    have a1 : T.heap.size < U.heap.size := (Array.getElem?_eq_some_iff.mp hce).1
    have a2 : U.heap.size ≤ s'.heap.size + (0 + 1) := hsame.2.2.1
    rw [hhp] at a2
    rw [hT] at a1
    omega
  have hcl : s.vm.findClass cls = some ce.cls := by
    have h9 := hO.cls
    rw [hvm] at h9
    exact h9
  have hall : s.sameButNew ({ U with vm := s.vm } : State) locs mc ms := by
    subst hA
    obtain ⟨e1, e2⟩ := hsame
    rw [State.setFrames_setFrames] at e1
    have h2 : (T.setVm s.vm).sameButNew ({ U with vm := s.vm } : State) [] (0 + 1) (0 + 6) := ⟨e1, e2⟩
    have h3 := X.same.trans h2
    rw [List.append_nil] at h3
    exact h3.mono hc hs
  refine ⟨U, ?_, .threw T.heap.size, hrun, hend, Or.inr ⟨T.heap.size, rfl, cls, ce, locs, hx U hWs.alike f3 (fun q hq => f2 q hq (fun z hz => nomatch hz)), hce, hO.vm, hcl, hWs, hall, hf⟩⟩
  refine st1 _ ?_
  show Steps p.tables e below (T1.setTop { method := m, pc := pc + 3, locals := ls, stack := .ref T.heap.size :: rest, locked := none }) _
  jvm_step X₁.here [X₁.here.top, hexec, d3', Value.category]
  exact X₁.ldcString hexec (own := own) (text := text) (index := is) (a := sa) hown' hstr'.1 hstr'.2
    (g := { method := m, pc := pc + 4, locals := ls, stack := .ref T.heap.size :: .ref T.heap.size :: rest, locked := none }) rfl d4' _ hsteps
theorem avx_throwSW {cc : ByteArray} {pc : Nat} (hexec : p.tables.exec = Jvm.exec) (hb : c.code = cc) (hl : l.stackTraces = false) {own cls text yn : String} {rn : List String} {ix : Nat} {bt : ByteArray} (b0 : decode bt 0 = .ok (.aload_n 0, 1)) (b1 : decode bt 1 = .ok (.aload_n 1, 1)) (b2 : decode bt 2 = .ok (.invokespecial ix, 3)) (b5 : decode bt 5 = .ok (.return_, 1)) {ik is ic mc ms sa : Nat} {A : Nat → Prop}
    (hown : s.vm.findClass own = some m.cls) (hcls : Bundle.fit cls = true) (hnames : ∀ n ∈ yn :: rn, Bundle.fit n = true)
    (hk : (Cond.classLink own ik cls).before args s = true) (hini : (Cond.initialized cls).before args s = true) (hstr : vk_R own is text sa s) (hat : ∀ w ∈ avx_at ix bt own ic cls yn rn, w.before args s = true)
    (hgood : ∀ w ∈ Cond.classLink own ik cls :: Cond.initialized cls :: avx_at ix bt own ic cls yn rn, vx_ot w = true)
    (hU : vx_Zq Bundle.tN "UNASSIGNED_STACK" Bundle.steD A s s.heap) (hN : vx_Zq Bundle.tN "SUPPRESSED_SENTINEL" Bundle.listD A s s.heap) (hS : va_S A s.heap H locs) (hsize : ls.size = c.maxLocals)
    (d0 : decode cc pc = .ok (.new ik, 3)) (d3 : decode cc (pc + 3) = .ok (.dup, 1)) (d4 : decode cc (pc + 4) = .ok (.ldc_w is, 3)) (d7 : decode cc (pc + 7) = .ok (.invokespecial ic, 3)) (d10 : decode cc (pc + 10) = .ok (.athrow, 1))
    (hout : ∀ x ∈ c.exceptionTable.toList, covers x (pc + 10) = false)
    (hRframes : (yn :: rn).length + 3 < R.frames) (hRlocals : (rest.map fun v => v.category).sum + (13 * ((yn :: rn).length + 1) + 43) ≤ R.locals) (hRcells : cells + 1 ≤ R.cells) (hRslots : slots + 6 ≤ R.slots) (hlocks : meth.locks = false)
    (hx : ∀ t : State, s.vm.Alike t.vm → t.heap.size = H.size + 1 → (∀ q : Nat, q < H.size → t.heap[q]? = H[q]?) → XC cls s t)
    (hf : ∀ z ∈ locs, free z.base) (hc : cells + 1 ≤ mc) (hs : slots + 6 ≤ ms) :
    W p l e R s m args below meth c H locs cells slots (vx_MQ below Qc XC args s mc ms free) (F0 m pc ls rest) := by
  intro T hT X
  have htr : e.platform.stackTraces = false := (show e.platform.stackTraces = l.stackTraces by rw [X.admits.platform]).trans hl
  have Y := vx_rebase X (R' := { frames := R.frames, locals := R.locals, cells := 1, slots := 6 }) (Nat.le_refl _) (Nat.le_refl _) hRcells hRslots
  obtain ⟨s', hA⟩ : ∃ z, z = (T.setVm s.vm).setFrames (.invoking m args :: below) := ⟨_, rfl⟩
  rw [← hA] at Y
  have hvm : s'.vm = s.vm := by rw [hA]; rfl
  have hhp : s'.heap = H := by rw [hA]; exact hT
  have hW0 : s.WarmedH s'.vm := by rw [hvm]; exact State.WarmedH.refl s
  have hat' : ∀ w ∈ avx_at ix bt own ic cls yn rn, w.before args s' = true := fun w hw => vx_ot_at hW0 hvm.symm (hgood w (List.mem_cons_of_mem _ (List.mem_cons_of_mem _ hw))) (hat w hw)
  have hk' : (Cond.classLink own ik cls).before args s' = true := vx_ot_at hW0 hvm.symm (hgood _ List.mem_cons_self) hk
  have hini' : (Cond.initialized cls).before args s' = true := vx_ot_at hW0 hvm.symm (hgood _ (List.mem_cons_of_mem _ List.mem_cons_self)) hini
  have hU' : vx_Zq Bundle.tN "UNASSIGNED_STACK" Bundle.steD A s' s'.heap := by rw [hhp]; exact vx_Zq.moved hW0.alike (hU.kept hS.2.1)
  have hN' : vx_Zq Bundle.tN "SUPPRESSED_SENTINEL" Bundle.listD A s' s'.heap := by rw [hhp]; exact vx_Zq.moved hW0.alike (hN.kept hS.2.1)
  have h : ∀ w ∈ aOwn ix bt own ic cls yn rn, w.before args s' = true := vx_own hat' (vx_isRefq hU'.1) (vx_isRefq hN'.1) hU'.2.word hN'.2.word
  have hown' : s'.vm.findClass own = some m.cls := by rw [hvm]; exact hown
  have hins : (Cond.instantiable cls 6).before args s' = true := h _ (by simp [aOwn])
  obtain ⟨vm₁, cX, kX, hfX, hkX, -, -, X₁, st1⟩ := Y.newCold hexec (own := own) (C := cls) (index := ik) (n := 6) hown' hk' hins hini'
    (g := F0 m pc ls rest) rfl (by rw [hb]; exact d0) (Nat.le_refl _) (Nat.le_refl _)
  generalize hT1 : (T.setVm vm₁).pushCell { cls := cX, slots := kX.instanceTypes.map defaultValue, vm := .none } = T1 at X₁ st1
  have hcat : (Value.ref T.heap.size).category = 1 := rfl
  have hcellA : T1.heap[T.heap.size]? = some (freshCell cX kX) := by rw [← hT1]; exact State.heap_pushCell_size _ _
  have d3' : decode c.code (pc + 3) = .ok (.dup, 1) := by rw [hb]; exact d3
  have d4' : decode c.code (pc + 4) = .ok (.ldc_w is, 3) := by rw [hb]; exact d4
  have hstr' : vk_R own is text sa s' := vk_R.warm hW0 hstr
  obtain ⟨U, hsteps, hrun, hend, hW, hsame, ce, hce, hO⟩ := ctorThrowSK X₁ hexec htr (own := own) (cls := cls) (yn := yn) (rn := rn) (ic := ic) b0 b1 b2 b5 hown' hcls hnames h (fun x hx => nomatch hx) hfX hkX hcellA (by rw [hhp, hT]; exact Nat.le_refl _) (msg := .ref sa) rfl
    (g := { method := m, pc := pc + 7, locals := ls, stack := .ref sa :: .ref T.heap.size :: .ref T.heap.size :: rest, locked := none }) rfl hsize rfl rfl (rest := rest) rfl
    (by rw [hb]; exact d7) (by rw [hb]; exact d10) hout hRframes (by simp only [List.map_cons, List.sum_cons, hcat]; omega) hlocks
  obtain ⟨f1, f2⟩ := vx_frame hsame
  rw [hhp] at f1 f2
  have hWs : s.WarmedH U.vm := State.WarmedH.trans hW0 hW
  have f3 : U.heap.size = H.size + 1 := by
    have a1 : T.heap.size < U.heap.size := (Array.getElem?_eq_some_iff.mp hce).1
    have a2 : U.heap.size ≤ s'.heap.size + (0 + 1) := hsame.2.2.1
    rw [hhp] at a2
    rw [hT] at a1
    omega
  have hcl : s.vm.findClass cls = some ce.cls := by
    have h9 := hO.cls
    rw [hvm] at h9
    exact h9
  have hall : s.sameButNew ({ U with vm := s.vm } : State) locs mc ms := by
    subst hA
    obtain ⟨e1, e2⟩ := hsame
    rw [State.setFrames_setFrames] at e1
    have h2 : (T.setVm s.vm).sameButNew ({ U with vm := s.vm } : State) [] (0 + 1) (0 + 6) := ⟨e1, e2⟩
    have h3 := X.same.trans h2
    rw [List.append_nil] at h3
    exact h3.mono hc hs
  refine ⟨U, ?_, .threw T.heap.size, hrun, hend, Or.inr ⟨T.heap.size, rfl, cls, ce, locs, hx U hWs.alike f3 (fun q hq => f2 q hq (fun z hz => nomatch hz)), hce, hO.vm, hcl, hWs, hall, hf⟩⟩
  refine st1 _ ?_
  show Steps p.tables e below (T1.setTop { method := m, pc := pc + 3, locals := ls, stack := .ref T.heap.size :: rest, locked := none }) _
  jvm_step X₁.here [X₁.here.top, hexec, d3', Value.category]
  exact X₁.ldcStringW hexec (own := own) (text := text) (index := is) (a := sa) hown' hstr'.1 hstr'.2
    (g := { method := m, pc := pc + 4, locals := ls, stack := .ref T.heap.size :: .ref T.heap.size :: rest, locked := none }) rfl d4' _ hsteps
end
abbrev cNo : String := "java/util/NoSuchElementException"
abbrev cIl : String := "java/lang/IllegalArgumentException"
abbrev cRt : String := "java/lang/RuntimeException"
abbrev cEx : List String := ["java/lang/Exception"]
def btOf (ix : Nat) : ByteArray := ⟨#[0x2a, 0x2b, 0xb7, 0x00, UInt8.ofNat ix, 0xb1]⟩
/-- the words of the throws that aren't among the good ones -/
def aFace : List Cond := (avx_at 13 (btOf 13) RX9 146 cNo cRt cEx ++ avx_at 7 (btOf 7) RX9 84 cIl cRt cEx).filter (fun w => !goodWord w)
/-- the String constants: by whose pool, which entry, the text -/
def aStr : List (String × Nat × String) := [("LateRingers", 82, "the tape has not so many bytes"), ("LateRingers$Reader", 60, "person"), ("LateRingers$Reader", 70, "mule"), ("LateRingers$Reader", 72, "cook"), ("LateRingers$Reader", 74, "duty"), ("LateRingers$Reader", 79, "pace"), ("LateRingers$Reader", 84, "rings"), ("LateRingers$Reader", 167, "not"), ("LateRingers$Reader", 184, "late"), ("LateRingers$Reader", 186, "habit"), ("LateRingers$Reader", 187, "haste"), ("LateRingers$Reader", 188, "rung"), ("LateRingers$Reader", 190, "day"), ("LateRingers$Reader", 192, "way"), ("LateRingers$Reader", 165, "and"), ("LateRingers$Reader", 157, "or"), ("LateRingers$Reader", 90, "mends"), ("LateRingers", 144, "no such count"), ("LateRingers", 361, "no such person"), ("LateRingers", 173, "nothing such of a person"), ("LateRingers", 363, "no such duty"), ("LateRingers", 187, "nothing such of a duty"), ("LateRingers", 365, "nothing such is told"), ("LateRingers", 367, "a number is too small or too large"), ("LateRingers", 312, "both are one"), ("LateRingers", 332, "nobody comes ahead of the first one")]
/-- what the old heap must say: texts, the throwables' two statics, words kept by laws of their own -/
def aOld (G : aG) (U : State) (H : Heap) : Prop := (∀ w ∈ aFace, va_Nw w U) ∧ vx_Zq Bundle.tN "UNASSIGNED_STACK" Bundle.steD (aA G) U H ∧ vx_Zq Bundle.tN "SUPPRESSED_SENTINEL" Bundle.listD (aA G) U H ∧ ∀ (k : Nat) (q : String × Nat × String), aStr[k]? = some q → vk_R q.1 q.2.1 q.2.2 (gO G (k + 1)) U
def aGood (G : aG) : Prop := (gL G).stackTraces = false ∧ ∀ (U : State) (H : Heap), gZ G U H → aOld G U H
/-- a throw that own's pool can name -/
def aThr (own : String) (ik ic : Nat) (cls : String) : Prop := ∃ ix : Nat, decode (btOf ix) 0 = .ok (.aload_n 0, 1) ∧ decode (btOf ix) 1 = .ok (.aload_n 1, 1) ∧ decode (btOf ix) 2 = .ok (.invokespecial ix, 3) ∧ decode (btOf ix) 5 = .ok (.return_, 1) ∧ Bundle.fit cls = true ∧ (∀ n ∈ cRt :: cEx, Bundle.fit n = true) ∧ Cond.classLink own ik cls ∈ aW ∧ Cond.initialized cls ∈ aW ∧ (∀ w ∈ (avx_at ix (btOf ix) own ic cls cRt cEx).filter goodWord, w ∈ aW) ∧ (∀ w ∈ (avx_at ix (btOf ix) own ic cls cRt cEx).filter (fun w => !goodWord w), w ∈ aFace) ∧ ∀ w ∈ Cond.classLink own ik cls :: Cond.initialized cls :: avx_at ix (btOf ix) own ic cls cRt cEx, vx_ot w = true
theorem aFace_tab : ∀ w ∈ aFace, w.onTables = true := by decide +kernel
section
variable {G : aG} {M : aM} {pc : Nat} {ls : List (Option Value)} {st : List Value} {h : aH} {R : aR}
theorem g_throwS {ik is ic k : Nat} {cls text : String} (hG : aGood G) (hT : aThr (mY M).cls ik ic cls) (hs : aStr[k]? = some ((mY M).cls, is, text)) (hH : mH M = []) (hD : 6 ≤ mD M) (hst : aWd st ≤ 8)
    (d0 : decode (mC M) pc = .ok (.new ik, 3)) (d3 : decode (mC M) (pc + 3) = .ok (.dup, 1)) (d4 : decode (mC M) (pc + 4) = .ok (.ldc is, 2)) (d6 : decode (mC M) (pc + 6) = .ok (.invokespecial ic, 3)) (d9 : decode (mC M) (pc + 9) = .ok (.athrow, 1)) : AG G M pc ls st h (.inr cls, h ++ [none]) := by
  have hle : aLe h (h ++ [none]) := ⟨by simp, by rw [aSl_push]; omega⟩
  have hcc : aDc h ((.inr cls, h ++ [none]) : aR) = 1 := by simp [aDc]
  have hss : aDs h ((.inr cls, h ++ [none]) : aR) = 6 := by simp [aDs, aSl_push, aSz]
  refine ⟨hle, fun p e RM s m args below meth c H locs lsA cells slots C hL hr hS h1 h2 => ?_⟩
  rw [hcc] at h1 ⊢
  rw [hss] at h2 ⊢
  have hZ := C.2.2.2.2.2.2.2.2.2.2.2.1
  have hfr := C.2.2.2.2.2.2.2.2.2.1
  have hlo := C.2.2.2.2.2.2.2.2.2.2.1
  have hts := C.2.2.2.2.2.1
  obtain ⟨o1, o2, o3, o4⟩ := hG.2 _ _ hZ.2.2.2
  obtain ⟨ix, b0, b1, b2, b5, t1, t2, t3, t4, t5, t6, t7⟩ := hT
  have hat : ∀ w ∈ avx_at ix (btOf ix) (mY M).cls ic cls cRt cEx, w.before args s = true := vx_hat (B := aFace) (fun w hw => hts _ (t5 w hw)) t6 (fun w hw => va_Nw.use (aFace_tab w hw) (o1 w hw))
  refine avx_throwS (text := text) (sa := gO G (k + 1)) C.1 C.2.1 hG.1 b0 b1 b2 b5 C.2.2.2.2.1 t1 t2 (hts _ t3) (hts _ t4) (o4 k _ hs) hat t7 o2 o3 hS (hL.2.1.trans C.2.2.2.1.symm) d0 d3 d4 d6 d9 ?_ ?_ ?_ h1 h2 C.2.2.2.2.2.2.1 ?_ hS.2.2 (Nat.le_refl _) (Nat.le_refl _)
  · rw [C.2.2.2.2.2.2.2.2.1, hH]
    exact fun x hx => absurd hx List.not_mem_nil
  · show 2 + 3 < _
    omega
  · rw [aWd_sv]
    show _ + (13 * (2 + 1) + 43) ≤ _
    omega
  · intro t _ z o
    refine ⟨rfl, hr.push z o (fun e' he' => by cases he'), by rw [z]; have := hS.1; omega, fun q q1 q2 => ?_⟩
    rw [o q (Nat.lt_of_lt_of_le q1 hS.1)]
    exact hS.2.1 q q1 q2
theorem g_throwSW {ik is ic k : Nat} {cls text : String} (hG : aGood G) (hT : aThr (mY M).cls ik ic cls) (hs : aStr[k]? = some ((mY M).cls, is, text)) (hH : mH M = []) (hD : 6 ≤ mD M) (hst : aWd st ≤ 8)
    (d0 : decode (mC M) pc = .ok (.new ik, 3)) (d3 : decode (mC M) (pc + 3) = .ok (.dup, 1)) (d4 : decode (mC M) (pc + 4) = .ok (.ldc_w is, 3)) (d6 : decode (mC M) (pc + 7) = .ok (.invokespecial ic, 3)) (d9 : decode (mC M) (pc + 10) = .ok (.athrow, 1)) : AG G M pc ls st h (.inr cls, h ++ [none]) := by
  have hle : aLe h (h ++ [none]) := ⟨by simp, by rw [aSl_push]; omega⟩
  have hcc : aDc h ((.inr cls, h ++ [none]) : aR) = 1 := by simp [aDc]
  have hss : aDs h ((.inr cls, h ++ [none]) : aR) = 6 := by simp [aDs, aSl_push, aSz]
  refine ⟨hle, fun p e RM s m args below meth c H locs lsA cells slots C hL hr hS h1 h2 => ?_⟩
  rw [hcc] at h1 ⊢
  rw [hss] at h2 ⊢
  have hZ := C.2.2.2.2.2.2.2.2.2.2.2.1
  have hfr := C.2.2.2.2.2.2.2.2.2.1
  have hlo := C.2.2.2.2.2.2.2.2.2.2.1
  have hts := C.2.2.2.2.2.1
  obtain ⟨o1, o2, o3, o4⟩ := hG.2 _ _ hZ.2.2.2
  obtain ⟨ix, b0, b1, b2, b5, t1, t2, t3, t4, t5, t6, t7⟩ := hT
  have hat : ∀ w ∈ avx_at ix (btOf ix) (mY M).cls ic cls cRt cEx, w.before args s = true := vx_hat (B := aFace) (fun w hw => hts _ (t5 w hw)) t6 (fun w hw => va_Nw.use (aFace_tab w hw) (o1 w hw))
  refine avx_throwSW (text := text) (sa := gO G (k + 1)) C.1 C.2.1 hG.1 b0 b1 b2 b5 C.2.2.2.2.1 t1 t2 (hts _ t3) (hts _ t4) (o4 k _ hs) hat t7 o2 o3 hS (hL.2.1.trans C.2.2.2.1.symm) d0 d3 d4 d6 d9 ?_ ?_ ?_ h1 h2 C.2.2.2.2.2.2.1 ?_ hS.2.2 (Nat.le_refl _) (Nat.le_refl _)
  · rw [C.2.2.2.2.2.2.2.2.1, hH]
    exact fun x hx => absurd hx List.not_mem_nil
  · show 2 + 3 < _
    omega
  · rw [aWd_sv]
    show _ + (13 * (2 + 1) + 43) ≤ _
    omega
  · intro t _ z o
    refine ⟨rfl, hr.push z o (fun e' he' => by cases he'), by rw [z]; have := hS.1; omega, fun q q1 q2 => ?_⟩
    rw [o q (Nat.lt_of_lt_of_le q1 hS.1)]
    exact hS.2.1 q q1 q2
end
theorem wNo_in : ∀ w ∈ (avx_at 13 (btOf 13) RX9 146 cNo cRt cEx).filter goodWord, w ∈ lw_tbl := by decide +kernel
theorem thr_No : aThr RX9 142 146 cNo := ⟨13, by decide +kernel, by decide +kernel, by decide +kernel, by decide +kernel, by decide +kernel, by decide +kernel, aIn1 933 (by decide +kernel) rfl, aIn1 117 (by decide +kernel) rfl, fun w hw => aW_mem (wNo_in w hw) (List.mem_filter.mp hw).2, fun w hw => List.mem_filter.mpr ⟨List.mem_append_left _ (List.mem_filter.mp hw).1, (List.mem_filter.mp hw).2⟩, by decide +kernel⟩
theorem wIl_in : ∀ w ∈ (avx_at 7 (btOf 7) RX9 84 cIl cRt cEx).filter goodWord, w ∈ lw_tbl := by decide +kernel
theorem thr_Il : aThr RX9 80 84 cIl := ⟨7, by decide +kernel, by decide +kernel, by decide +kernel, by decide +kernel, by decide +kernel, by decide +kernel, aIn1 651 (by decide +kernel) rfl, aIn1 108 (by decide +kernel) rfl, fun w hw => aW_mem (wIl_in w hw) (List.mem_filter.mp hw).2, fun w hw => List.mem_filter.mpr ⟨List.mem_append_right _ (List.mem_filter.mp hw).1, (List.mem_filter.mp hw).2⟩, by decide +kernel⟩
