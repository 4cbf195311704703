/-! ===== rules of AG: the heap, ends, calls ===== -/
theorem aIn_of (ws : List Cond) (ps : List Nat) (hp : ws = ps.filterMap (fun i => lw_tbl[i]?)) (hg : ws.all goodWord = true) : ∀ w ∈ ws, w ∈ aW := fun w hw => by
  have h1 := List.all_eq_true.mp hg w hw
  rw [hp] at hw
  obtain ⟨i, -, hi⟩ := List.mem_filterMap.mp hw
  exact aW_mem (List.mem_of_getElem? hi) h1
theorem aIn1 {w : Cond} (i : Nat) (hi : lw_tbl[i]? = some w) (hg : goodWord w = true) : w ∈ aW := aW_mem (List.mem_of_getElem? hi) hg
/-- a class of the tables -/
def aCls (ci : Nat) (C : String) (T : u_T) (N : Nat) : Prop := vwCl[ci]? = some (C, T, N) ∧ (∀ w ∈ u_ws C T N, w ∈ aW) ∧ (∃ ty : Nat → FieldType, ∀ k, k < N → parseFieldDescriptor (T k).2.2.1 = some (ty k)) ∧ ∀ a, a < N → ∀ b, b < N → a ≠ b → (T a).2.1 ≠ (T b).2.1
/-- the field k of the class ci, as the entry 'index' of own's pool names it -/
def aFld (own : String) (index ci k : Nat) : Prop := ∃ (C : String) (T : u_T) (N : Nat), aCls ci C T N ∧ k < N ∧ (Cond.fieldLink own index (T k).1 (T k).2.1 (T k).2.2.1 ∈ aW ∨ ∃ host : String, Cond.fieldLinkNest own index (T k).1 (T k).2.1 (T k).2.2.1 host ∈ lw_tbl)
/-- the same, written: a field that isn't final, of this type -/
def aFldW (own : String) (index ci k : Nat) (ty : FieldType) : Prop := ∃ (C : String) (T : u_T) (N : Nat), aCls ci C T N ∧ k < N ∧ (Cond.fieldLink own index (T k).1 (T k).2.1 (T k).2.2.1 ∈ aW ∨ ∃ host : String, Cond.fieldLinkNest own index (T k).1 (T k).2.1 (T k).2.2.1 host ∈ lw_tbl) ∧ (T k).2.2.2 = false ∧ parseFieldDescriptor (T k).2.2.1 = some ty
/-- a final field, written in its own class's constructor -/
def aFldF (own : String) (index ci k : Nat) (ty : FieldType) : Prop := ∃ (C : String) (T : u_T) (N : Nat), aCls ci C T N ∧ k < N ∧ Cond.fieldLink own index (T k).1 (T k).2.1 (T k).2.2.1 ∈ aW ∧ (T k).2.2.2 = true ∧ (T k).1 = own ∧ parseFieldDescriptor (T k).2.2.1 = some ty
theorem aRel.P1 {G : aG} {h : aH} {H : Heap} {i : Nat} {e : (Nat × vp_A) ⊕ (Nat × List Value)} (r : aRel G h H) (hi : 40 ≤ i) (he : h[i]? = some (some e)) : va_P (gD G) vwCl [(ad G i, aX G e)] H := fun k q hk => by
  match k, hk with
  | 0, hk =>
    obtain rfl := Option.some.inj hk
    exact r.2.2 i e hi he
  | k + 1, hk => simp at hk
theorem aA_ad {G : aG} {i : Nat} (hi : 40 ≤ i) : aA G (ad G i) := by
  show gB G ≤ ad G i
  rw [ad_new hi]
  omega
theorem aX_set {G : aG} {ci k : Nat} {fs : List Value} {v : Value} : (fs.map (sv G)).set k (sv G v) = (fs.set k v).map (sv G) := by rw [List.map_set]
theorem aLe.set {h h' : aH} {i : Nat} {e e' : aE} (hi : h[i]? = some e) (hz : aSz e' = aSz e) (hl : aLe (h.set i e') h') : aLe h h' := ⟨by have := hl.1; rw [List.length_set] at this; exact this, by have := hl.2; rw [aSl_set hi hz] at this; exact this⟩
theorem aDc_set {h : aH} {R : aR} {i : Nat} {e' : aE} : aDc (h.set i e') R = aDc h R := by simp [aDc]
theorem aDs_set {h : aH} {R : aR} {i : Nat} {e e' : aE} (hi : h[i]? = some e) (hz : aSz e' = aSz e) : aDs (h.set i e') R = aDs h R := by simp only [aDs, aSl_set hi hz]
theorem aDc_push {h : aH} {R : aR} {e : aE} (hl : aLe (h ++ [e]) R.2) (n : Nat) : n + 1 + aDc (h ++ [e]) R = n + aDc h R := by
  have := hl.1
  simp only [List.length_append, List.length_singleton] at this
  simp only [aDc, List.length_append, List.length_singleton]
  omega
theorem aDs_push {h : aH} {R : aR} {e : aE} (hl : aLe (h ++ [e]) R.2) (n : Nat) : n + aSz e + aDs (h ++ [e]) R = n + aDs h R := by
  have := hl.2
  rw [aSl_push] at this
  simp only [aDs, aSl_push]
  omega
theorem aLe.push {h h' : aH} {e : aE} (hl : aLe (h ++ [e]) h') : aLe h h' := ⟨by have := hl.1; simp at this; omega, by have := hl.2; rw [aSl_push] at this; omega⟩
section
variable {G : aG} {M : aM} {pc : Nat} {ls : List (Option Value)} {st : List Value} {h : aH} {R : aR}
theorem g_get {index i ci j : Nat} {fs : List Value} {v : Value} (hf : aFld (mY M).cls index ci j) (hd : decode (mC M) pc = .ok (.getfield index, 3)) (hi : 40 ≤ i) (he : h[i]? = some (some (.inr (ci, fs)))) (hv : fs[j]? = some v) (k : AG G M (pc + 3) ls (v :: st) h R) : AG G M pc ls (.ref i :: st) h R := by
  refine ⟨k.1, fun p e RM s m args below meth c H locs lsA cells slots C hL hr hS h1 h2 => ?_⟩
  obtain ⟨Cn, T, N, hc, hk, hl⟩ := hf
  have kk := k.2 p e RM s m args below meth c H locs lsA cells slots C hL hr hS h1 h2
  have hP := hr.P1 hi he
  have hv' : (fs.map (sv G))[j]? = some (sv G v) := by rw [List.getElem?_map, hv]; rfl
  rcases hl with hl | ⟨host, hl⟩
  · exact va_get C.1 C.2.1 C.2.2.2.2.2.1 hc.2.1 C.2.2.2.2.1 C.2.2.2.2.2.2.2.2.2.2.2.1.1 hP 0 rfl hc.1 j hk (C.2.2.2.2.2.1 _ hl) (fun x h => h) hv' hd kk
  · exact va_getN C.1 C.2.1 C.2.2.2.2.2.1 hc.2.1 C.2.2.2.2.1 C.2.2.2.2.2.2.2.2.2.2.2.1.1 hP 0 rfl hc.1 j hk (va_Nw.use rfl (C.2.2.2.2.2.2.2.2.2.2.2.1.2.1 _ hl rfl)) (fun x h => h) hv' hd kk
theorem g_put {index i ci j : Nat} {fs : List Value} {v : Value} {ty : FieldType} (hf : aFldW (mY M).cls index ci j ty) (hd : decode (mC M) pc = .ok (.putfield index, 3)) (hi : 40 ≤ i) (he : h[i]? = some (some (.inr (ci, fs)))) (hj : j < fs.length) (hn : narrow ty (sv G v) = sv G v) (hfit : fits ty (sv G v) = true)
    (k : AG G M (pc + 3) ls st (h.set i (some (.inr (ci, fs.set j v)))) R) : AG G M pc ls (v :: .ref i :: st) h R := by
  have hz : aSz (some (.inr (ci, fs.set j v))) = aSz (some (.inr (ci, fs))) := by simp [aSz]
  refine ⟨aLe.set he hz k.1, fun p e RM s m args below meth c H locs lsA cells slots C hL hr hS h1 h2 => ?_⟩
  obtain ⟨Cn, T, N, hc, hk, hl, hfin, hty⟩ := hf
  obtain ⟨ty0, hty0⟩ := hc.2.2.1
  have hts := C.2.2.2.2.2.1
  have hown := C.2.2.2.2.1
  have hK := C.2.2.2.2.2.2.2.2.2.2.2.1.1
  have hap := va_apart (own := (mY M).cls) hts hc.2.1 ty0 hty0 hc.2.2.2 hK hc.1
  obtain ⟨r, e1, cell, q1, q2, q3, q4⟩ := hr.2.2 i _ hi he
  have hr9 : r = (Cn, T, N) := Option.some.inj (e1.symm.trans hc.1)
  subst hr9
  obtain ⟨hS9, hfc, kC, hkC, hkind⟩ := hK.1 ci _ hc.1
  obtain ⟨cf, kf, fi, f, hif, hsl⟩ := hS9 j hk
  have hlay := hts _ (hc.2.1 _ (u_in_lay hk))
  unfold u_lay at hlay
  rw [if_neg (by rw [hfin]; decide)] at hlay
  have hst := (u_facts hfc hkC (u_lays hts hc.2.1 hk) hif).1
  have h6 := u_store hfc hkC hkind hlay hif hty hn hfit
  have go : ∀ H' : Heap, H'[ad G i]? = some (cell.setSlot f.slot (sv G v)) → H'.size = H.size → (∀ q, q ≠ ad G i → H'[q]? = H[q]?) → W p (gL G) e RM s m args below meth c H' (locs ++ [⟨ad G i, f.slot⟩]) cells slots (vx_MQ below (aQr G R) (aQx G R) args s (cells + aDc h R) (slots + aDs h R) (aA G)) (F0 m (pc + 3) lsA (st.map (sv G))) := by
    intro H' e1 e2 e3
    rw [hsl] at e1
    rw [← aDc_set (h := h) (R := R) (i := i) (e' := some (.inr (ci, fs.set j v))), ← aDs_set (R := R) he hz]
    rw [← aDc_set (h := h) (R := R) (i := i) (e' := some (.inr (ci, fs.set j v)))] at h1
    rw [← aDs_set (R := R) he hz] at h2
    refine k.2 p e RM s m args below meth c H' _ lsA cells slots C hL (hr.set hi e2 e3 ?_) (hS.put e2 e3 (aA_ad hi)) h1 h2
    refine ⟨_, hc.1, t_OB.to (V := updV (vp_V (fs.map (sv G))) j (sv G v)) ⟨_, e1, q2, q3, t_set q4 hap hk (sv G v)⟩ (fun z _ => ?_)⟩
    rw [vp_updV_set (by rw [List.length_map]; exact hj), aX_set (ci := ci)]
  rcases hl with hl | ⟨host, hl⟩
  · exact W.putK C.1 C.2.1 (f := f) ⟨hown, hts _ hl, ⟨_, _, _, hif⟩, hst⟩ (by rw [q2]; exact h6) q1 q3 (by rw [hsl]; exact k2_hasslot (q4 j hk)) rfl rfl hd go
  · exact va_WputK C.1 C.2.1 (f := f) hown (va_Nw.use rfl (C.2.2.2.2.2.2.2.2.2.2.2.1.2.1 _ hl rfl)) hif hst (by rw [q2]; exact h6) q1 q3 (by rw [hsl]; exact k2_hasslot (q4 j hk)) rfl rfl hd go
theorem g_putF {index i ci j : Nat} {fs : List Value} {v : Value} {ty : FieldType} (hf : aFldF (mY M).cls index ci j ty) (hnm : (mY M).name = "<init>") (hd : decode (mC M) pc = .ok (.putfield index, 3)) (hi : 40 ≤ i) (he : h[i]? = some (some (.inr (ci, fs)))) (hj : j < fs.length) (hn : narrow ty (sv G v) = sv G v) (hfit : fits ty (sv G v) = true)
    (k : AG G M (pc + 3) ls st (h.set i (some (.inr (ci, fs.set j v)))) R) : AG G M pc ls (v :: .ref i :: st) h R := by
  have hz : aSz (some (.inr (ci, fs.set j v))) = aSz (some (.inr (ci, fs))) := by simp [aSz]
  refine ⟨aLe.set he hz k.1, fun p e RM s m args below meth c H locs lsA cells slots C hL hr hS h1 h2 => ?_⟩
  obtain ⟨Cn, T, N, hc, hk, hl, hfin, hdecl, hty⟩ := hf
  obtain ⟨ty0, hty0⟩ := hc.2.2.1
  have hts := C.2.2.2.2.2.1
  have hown := C.2.2.2.2.1
  have hK := C.2.2.2.2.2.2.2.2.2.2.2.1.1
  have hap := va_apart (own := (mY M).cls) hts hc.2.1 ty0 hty0 hc.2.2.2 hK hc.1
  obtain ⟨r, e1, cell, q1, q2, q3, q4⟩ := hr.2.2 i _ hi he
  have hr9 : r = (Cn, T, N) := Option.some.inj (e1.symm.trans hc.1)
  subst hr9
  obtain ⟨hS9, hfc, kC, hkC, hkind⟩ := hK.1 ci _ hc.1
  obtain ⟨cf, kf, fi, f, hif, hsl⟩ := hS9 j hk
  have hlay := hts _ (hc.2.1 _ (u_in_lay hk))
  unfold u_lay at hlay
  rw [if_pos hfin] at hlay
  have hst := (u_facts hfc hkC (u_lays hts hc.2.1 hk) hif).1
  have hcf : m.cls = cf := by
    obtain ⟨_, _, c', _, _, _, -, -, hf', -, -, -, hown2, -⟩ := Cond.laysFinal_spec hlay
    have e1 : c' = cf := by have := hif.symm.trans hf'; simp at this; exact this.1.symm
    rw [hdecl] at hown2
    rw [← e1]; exact Option.some.inj (hown.symm.trans hown2)
  have h6 := u_fits hfc hkC hkind (Or.inr hlay) hif hty hn hfit
  refine W.putFinK C.1 C.2.1 hown (hts _ hl) hif hst hcf (C.2.2.2.2.2.2.2.1.trans hnm) (by rw [q2]; exact h6) q1 q3 (by rw [hsl]; exact k2_hasslot (q4 j hk)) rfl rfl hd ?_
  intro H' e1 e2 e3
  rw [hsl] at e1
  rw [← aDc_set (h := h) (R := R) (i := i) (e' := some (.inr (ci, fs.set j v))), ← aDs_set (R := R) he hz]
  rw [← aDc_set (h := h) (R := R) (i := i) (e' := some (.inr (ci, fs.set j v)))] at h1
  rw [← aDs_set (R := R) he hz] at h2
  refine k.2 p e RM s m args below meth c H' _ lsA cells slots C hL (hr.set hi e2 e3 ?_) (hS.put e2 e3 (aA_ad hi)) h1 h2
  refine ⟨_, hc.1, t_OB.to (V := updV (vp_V (fs.map (sv G))) j (sv G v)) ⟨_, e1, q2, q3, t_set q4 hap hk (sv G v)⟩ (fun z _ => ?_)⟩
  rw [vp_updV_set (by rw [List.length_map]; exact hj), aX_set (ci := ci)]
end
