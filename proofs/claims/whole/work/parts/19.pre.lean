/-- a loop: at most n rounds -/
def xLoop {σ ρ : Type} (body : (σ → Option ρ) → σ → Option ρ) : Nat → σ → Option ρ
  | 0, _ => none
  | n + 1, s => body (xLoop body n) s
theorem xLoop_ok {σ ρ : Type} {body : (σ → Option ρ) → σ → Option ρ} {r : ρ} {Q : σ → Prop} (h : ∀ kk : σ → Option ρ, (∀ s, kk s = some r → Q s) → ∀ s, body kk s = some r → Q s) : ∀ (n : Nat) (s : σ), xLoop body n s = some r → Q s
  | 0, s, hs => by cases hs
  | n + 1, s, hs => h (xLoop body n) (fun s' hs' => xLoop_ok h n s' hs') s hs
theorem narrow_bool {v : Int32} (h : v = 0 ∨ v = 1) : narrow .boolean (.int v) = .int v := by
  rcases h with rfl | rfl <;> decide
theorem i32_of_toInt {x : Int32} {k : Int} (h : x.toInt = k) : x = Int32.ofInt k := by
  rw [← h, Int32.ofInt_toInt]
theorem i32_out {x : Int32} (lo hi : Int) (h : ∀ z : Int, lo ≤ z → z ≤ hi → ¬ x = Int32.ofInt z) : x.toInt < lo ∨ hi < x.toInt := by
  by_cases h1 : x.toInt < lo
  · exact Or.inl h1
  · by_cases h2 : hi < x.toInt
    · exact Or.inr h2
    · exact absurd (i32_of_toInt rfl) (h x.toInt (by omega) (by omega))
theorem g_iincV {G : aG} {M : aM} {pc : Nat} {ls : List (Option Value)} {st : List Value} {h : aH} {R : aR} {i : Nat} {n : Int} {x v : Int32} (hd : decode (mC M) pc = .ok (.iinc i n, 3)) (hx : ls[i]? = some (some (.int x))) (hv : x + Int32.ofInt n = v) (hi : i < mN M) (ho : aOk ls i = true) (k : AG G M (pc + 3) (ls.set i (some (.int v))) st h R) : AG G M pc ls st h R := by
  subst hv
  exact g_iinc hd hx hi ho k
def tbM : List wD := [.inl (10, [(0, 0), (0, 0), (0, 0), (0, 0), (0, 0), (0, 0), (1, 1), (1, 2), (1, 3), (1, 4), (1, 5), (1, 6), (0, 0), (0, 0), (0, 0), (1, 7), (0, 0), (0, 0), (0, 0), (0, 0), (0, 0), (0, 0), (0, 0), (3, 0), (0, 0), (0, 0), (0, 0), (0, 0), (0, 0), (0, 0), (0, 0), (0, 0), (0, 0), (1, 8), (1, 9), (1, 10), (1, 11), (1, 12), (1, 13), (1, 14), (1, 15), (1, 16), (1, 17), (0, 0), (1, 18), (1, 19), (1, 20), (1, 21), (1, 22), (0, 0), (0, 0), (0, 0), (0, 0), (0, 0), (0, 0), (0, 0), (1, 23), (1, 24), (0, 0), (1, 25), (1, 26), (1, 27), (0, 0), (1, 28), (0, 0), (0, 0), (0, 0), (1, 29), (1, 30), (1, 31)]), .inr (0, 8), .inr (0, 8), .inr (0, 8), .inr (0, 6), .inr (0, 1400), .inr (0, 700), .inr (0, 3), .inr (0, 8), .inr (0, 8), .inr (0, 8), .inr (0, 6), .inr (0, 33), .inr (0, 1400), .inr (0, 950), .inr (3, 9), .inr (0, 66), .inr (0, 1320), .inr (0, 7), .inr (0, 950), .inr (0, 6), .inr (0, 6), .inr (0, 48), .inr (0, 697), .inr (0, 1536), .inr (0, 24), .inr (0, 6), .inr (0, 2928), .inr (0, 8), .inr (0, 33), .inr (0, 1320), .inr (0, 24)]
/-! ===== the reference's copies(int[], int[]) ===== -/
def cpW (w : wS) (ka kb i : Nat) : wS := wuA w kb (fun k => if k < i then w.2.1 ka k else w.2.1 kb k)
def xCopies (ka kb na : Nat) (w : wS) : Option wS := some (cpW w ka kb na)
theorem inB_nI {i n : Nat} (h : i < n) (hn : n < 2 ^ 31) : inB (nI i) n = true := by
  have := nI_in h hn
  simp only [inB, Bool.not_eq_true', Bool.or_eq_false_iff, decide_eq_false_iff_not]
  exact ⟨fun q => this (Or.inl q), fun q => this (Or.inr q)⟩
theorem cpW_0 (w : wS) (ka kb : Nat) : cpW w ka kb 0 = w := by
  obtain ⟨w1, w2, w3⟩ := w
  simp only [cpW, wuA]
  congr 2
  funext i
  by_cases h : i = kb
  · subst h; simp
  · simp [h]
theorem cpW_get (w : wS) (ka kb i : Nat) : (cpW w ka kb i).2.1 ka i = w.2.1 ka i := by
  simp only [cpW, wuA]
  by_cases h : ka = kb
  · subst h; simp
  · simp [h]
theorem cpW_s (w : wS) (ka kb i : Nat) : wuA (cpW w ka kb i) kb (upd ((cpW w ka kb i).2.1 kb) i (w.2.1 ka i)) = cpW w ka kb (i + 1) := by
  obtain ⟨w1, w2, w3⟩ := w
  simp only [cpW, wuA]
  congr 2
  funext j
  by_cases h : j = kb
  · subst h
    simp only [if_true]
    funext z
    simp only [upd]
    by_cases hz : z = i
    · subst hz; simp
    · simp only [hz, if_false]
      by_cases h1 : z < i
      · rw [if_pos h1, if_pos (by omega)]
      · rw [if_neg h1, if_neg (by omega)]
  · simp [h]
set_option maxRecDepth 20000 in
theorem C_copies {G : aG} {Hf : wS → aH} {b : Nat} {w r : wS} (E : Emb Hf b 0 tbM) {ka kb na nb : Nat} (ha : tbM[ka]? = some (.inr (0, na))) (hb : tbM[kb]? = some (.inr (0, nb))) (hn : na ≤ nb ∧ nb < 2 ^ 31) (hL : xCopies ka kb na w = some r) : AC G M_X10_copies [.ref (b + 0), .ref (b + ka), .ref (b + kb)] (Hf w) (.inl none, Hf r) := by
  obtain rfl := Option.some.inj hL
  refine AC.of (by decide) rfl (show 3 ≤ 4 by decide) ?_
  show AG G M_X10_copies 0 [some (.ref (b + 0)), some (.ref (b + ka)), some (.ref (b + kb)), none] [] _ _
  refine g_iconst (v := 0) dX10_copies_0 (by decide) ?_
  refine g_istore_n (i := 3) dX10_copies_1 rfl (by decide) rfl ?_
  show AG G M_X10_copies 2 [some (.ref (b + 0)), some (.ref (b + ka)), some (.ref (b + kb)), some (.int 0)] [] _ _
  have h40 := E.1
  have key : ∀ (k i : Nat), i + k = na → AG G M_X10_copies 2 [some (.ref (b + 0)), some (.ref (b + ka)), some (.ref (b + kb)), some (.int (nI i))] [] (Hf (cpW w ka kb i)) (.inl none, Hf (cpW w ka kb na)) := by
    intro k
    induction k with
    | zero =>
      intro i hi
      have hi : i = na := by omega
      subst hi
      refine g_iload_n dX10_copies_2 rfl rfl ?_
      refine g_aload_n dX10_copies_3 rfl rfl ?_
      refine g_alen (v := nI i) dX10_copies_4 (by omega) (show 0 < 4 by decide) (E.2.1 _ ka _ ha) rfl ?_
      refine g_icmp_ge (tgt := 20) dX10_copies_5 (by decide) (fun q => ?_) (fun q => ?_)
      · exact g_vret rfl dX10_copies_20
      · exact absurd (nI_le (Nat.le_refl i) (by omega)) q
    | succ k ih =>
      intro i hi
      refine g_iload_n dX10_copies_2 rfl rfl ?_
      refine g_aload_n dX10_copies_3 rfl rfl ?_
      refine g_alen (v := nI na) dX10_copies_4 (by omega) (show 0 < 4 by decide) (E.2.1 _ ka _ ha) rfl ?_
      refine g_icmp_ge (tgt := 20) dX10_copies_5 (by decide) (fun q => ?_) (fun q => ?_)
      · exact absurd q (nI_ge (by omega) (by omega))
      · refine g_aload_n dX10_copies_8 rfl rfl ?_
        refine g_iload_n dX10_copies_9 rfl rfl ?_
        refine g_aload_n dX10_copies_10 rfl rfl ?_
        refine g_iload_n dX10_copies_11 rfl rfl ?_
        refine g_iald dX10_copies_12 (by omega) (E.2.1 _ ka _ ha) (nI_in (by omega) (by omega)) ?_
        rw [nI_clamp (by omega), show (0 + ka) = ka by omega, cpW_get]
        have hs : xB (xAst (cpW w ka kb i) (0 + kb) nb (nI i) (w.2.1 ka i)) (fun w' => some w') = some (cpW w ka kb (i + 1)) := by
          simp only [xAst, inB_nI (show i < nb by omega) (by omega), if_true, xB, nI_clamp (show i < 2 ^ 31 by omega), show (0 + kb) = kb by omega, cpW_s]
        refine s_iast (k := kb) E hs hb dX10_copies_13 ?_
        intro w' hw'
        obtain rfl := Option.some.inj hw'
        refine g_iincV (v := nI (i + 1)) dX10_copies_14 rfl (by rw [nI_succ]; rfl) (by decide) rfl ?_
        refine g_goto (tgt := 2) dX10_copies_17 (by decide) ?_
        exact ih (i + 1) (by omega)
  have k0 := key na 0 (by omega)
  rw [cpW_0] at k0
  exact k0
