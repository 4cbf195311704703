section
/-! ===== the law: its words ===== -/
abbrev ML_law : aM := (yL_law, cL_law, 7, some .boolean, 95, [])
abbrev lsL (i : Nat) : List (Option Value) := [some (.ref 0), some (.ref 40), some (.ref 100), some (.ref 132), some (.int (nI i)), none, none]
def IHs (G : aG) (i n s : Nat) (Q : aR → Prop) : Prop := ∀ (F' : aF) (o' : wO) (t' : Tn) (z' : Sy) (wx' wm' : wS) (u' : Nat → Int64) (n' s' : Nat), LH F' o' n' s' → RR t' z' o' wx' wm' → n' ≤ n + 13 → s' ≤ s + 1600 → ∃ R, Q R ∧ AG G ML_law 2947 (lsL i) [] (F' wx' wm' u') R
theorem thrown_s (w : wS) : L_X10_thrown w = some (w.1 0, w) := by
  unfold L_X10_thrown
  rw [xGet_s, xB_s]
def bz (x : Int32) : Nat := if x = 0 then 0 else 1
theorem bz_le (x : Int32) : bz x ≤ 1 := by
  unfold bz
  by_cases h : x = 0
  · rw [if_pos h]; omega
  · rw [if_neg h]; omega
section
variable {G : aG} {M : aM} {pc : Nat} {ls : List (Option Value)} {st : List Value} {h : aH} {R : aR}
/-- script[i + j] -/
theorem g_arg {i j L : Nat} {xs : Nat → Int32} {v : Fin 6} {d : Int} (hX : aScr G L xs) (d0 : decode (mC M) pc = .ok (.aload_n 0, 1)) (d1 : decode (mC M) (pc + 1) = .ok (.iload 4, 2)) (d2 : decode (mC M) (pc + 3) = .ok (.iconst d, 1)) (d3 : decode (mC M) (pc + 4) = .ok (.iadd, 1)) (d4 : decode (mC M) (pc + 5) = .ok (.iaload, 1)) (hl0 : ls[0]? = some (some (.ref 0))) (hl4 : ls[4]? = some (some (.int (nI i)))) (hj : Int32.ofInt d = nI j) (hij : i + j < L) (hL : L ≤ 3072) (k : AG G M (pc + 6) ls (.int (xs (i + j)) :: st) h R) : AG G M pc ls st h R := by
  refine g_aload_n d0 rfl hl0 ?_
  refine g_iload d1 hl4 ?_
  refine g_iconst (v := nI j) d2 hj ?_
  refine g_iadd d3 ?_
  rw [show nI i + nI j = nI (i + j) from nI_add i j]
  refine g_scr hX d4 (nI_in (by omega) (by omega)) ?_
  rw [nI_clamp (by omega)]
  exact k
/-- x != 0 -/
theorem g_bool {x : Int32} {a tg te : Nat} {o1 o2 : Int} (d0 : decode (mC M) pc = .ok (.ifCond .eq o1, 3)) (d1 : decode (mC M) (pc + 3) = .ok (.iconst 1, 1)) (d2 : decode (mC M) (pc + 4) = .ok (.goto o2, 3)) (d3 : decode (mC M) (pc + 7) = .ok (.iconst 0, 1)) (ht : (pc : Int) + o1 = (tg : Int)) (ht2 : ((pc + 4 : Nat) : Int) + o2 = (te : Int)) (e1 : tg = pc + 7) (e2 : te = pc + 8) (k : AG G M (pc + 8) ls (.int (nI (bz x)) :: st) h R) : AG G M pc ls (.int x :: st) h R := by
  subst e1
  subst e2
  refine g_if_eq (tgt := pc + 7) d0 ht (fun q => ?_) (fun q => ?_)
  · refine g_iconst (v := 0) d3 (by decide) ?_
    rw [show (0 : Int32) = nI (bz x) by unfold bz; rw [if_pos q]; rfl]
    exact k
  · refine g_iconst (v := 1) d1 (by decide) ?_
    refine g_goto (tgt := pc + 8) d2 ht2 ?_
    rw [show (1 : Int32) = nI (bz x) by unfold bz; rw [if_neg q]; rfl]
    exact k
end
end
