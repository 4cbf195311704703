section
/-! ===== the law's start ===== -/
def wx0 : wS := (fun k => if k = 11 then -1 else if k = 102 then -1 else if k = 508 then 2 else if k = 4108 then 2 else if k = 100008 then 2 else 0, fun c => if c = 14 then upd (fun _ => 0) (Int32.toNatClampNeg 0) (-1) else if c = 23 then upd (fun _ => 0) (Int32.toNatClampNeg 0) (-1) else if c = 32 then upd (fun _ => 0) (Int32.toNatClampNeg 0) (-1) else fun _ => 0, fun _ => 0, fun _ _ => 0, fun k => if k = 9 then .ref 93 else if k = 107 then .ref 45 else if k = 3010 then .ref 81 else .null)
def wm0 : wS := (fun k => if k = 3 then 2 else if k = 4 then -1 else if k = 5 then -1 else if k = 14 then -1 else if k = 53 then -1 else 0, fun c => if c = 16 then upd (fun _ => 0) (Int32.toNatClampNeg 1) (-1) else fun _ => 0, fun _ => 0, fun _ _ => 0, fun _ => .null)
abbrev o0 : wO := (93, 0, 0, 0, 0)
def A0 (wx : wS) : aH := List.replicate 40 none ++ wWin tbX 40 0 wx
def FF0 : aF := fun wx wm u => HR A0 (fun _ => wWin tbM 100 0 wm ++ [aU u]) o0 wx
theorem A0_len (w : wS) : (A0 w).length = 93 := by
  unfold A0
  rw [List.length_append, List.length_replicate, wWin_len, len_X]
theorem FF0_eq (wx wm : wS) (u : Nat → Int64) : FF0 wx wm u = (A0 wx ++ wWin tbT 93 1000 wx) ++ (wWin tbM 100 0 wm ++ [aU u]) := by
  show A0 wx ++ (wWin tbT 93 1000 wx ++ ([] ++ (wWin tbM 100 0 wm ++ [aU u]))) = _
  rw [List.nil_append, List.append_assoc]
theorem FF0_len (wx wm : wS) : (A0 wx ++ wWin tbT 93 1000 wx).length = 100 := by
  rw [List.length_append, A0_len, wWin_len, len_T]
theorem FF0_eq2 (wx wm : wS) (u : Nat → Int64) : FF0 wx wm u = ((A0 wx ++ wWin tbT 93 1000 wx) ++ wWin tbM 100 0 wm) ++ [aU u] := by
  rw [FF0_eq, ← List.append_assoc]
theorem FF0_len2 (wx wm : wS) : ((A0 wx ++ wWin tbT 93 1000 wx) ++ wWin tbM 100 0 wm).length = 132 := by
  rw [List.length_append, FF0_len wx wm, wWin_len, len_M]
def sTb (tb : List wD) : Nat := (tb.map (fun d => match d with
  | .inl o => o.2.length
  | .inr a => a.2)).sum
theorem aSl_rep : aSl (List.replicate 40 none) = 240 := by decide +kernel
theorem LH0 : LH FF0 o0 133 (240 + sTb tbX + sTb tbT + sTb tbM + 1) := by
  have EA : Emb A0 40 0 tbX := Emb.mid (P := fun _ => List.replicate 40 none) (Q := fun _ => []) (by decide) ok_X (fun w => by rw [List.append_nil]; rfl) (fun w => List.length_replicate) (fun _ _ _ _ _ _ => ⟨rfl, rfl⟩)
  have hA : wFar A0 := fun w w' c hc he => by
    unfold A0
    rw [wWin_indep ok_X he (Or.inr (by rw [len_X]; omega))]
  refine ⟨fun wm u => EX_HR EA hA A0_len (fun _ _ _ _ => rfl) (by decide) (Or.inl ⟨rfl, rfl⟩), fun wx u => ?_, fun wx wm u => ?_, fun wx wm u u' => ?_, fun wx wm u => ⟨?_, ?_⟩, Nat.le_refl _⟩
  · exact Emb.mid (P := fun _ => A0 wx ++ wWin tbT 93 1000 wx) (Q := fun _ => [aU u]) (by decide) ok_M (fun wm => FF0_eq wx wm u) (fun wm => FF0_len wx wm) (fun _ _ _ _ _ _ => ⟨rfl, rfl⟩)
  · rw [FF0_eq2, List.getElem?_append_right (by rw [FF0_len2]; exact Nat.le_refl _), FF0_len2]
    rfl
  · rw [FF0_eq2, FF0_eq2, List.set_append_right _ _ (by rw [FF0_len2]; exact Nat.le_refl _), FF0_len2]
    rfl
  · rw [FF0_eq2, List.length_append, FF0_len2]
    rfl
  · rw [FF0_eq2, aSl_app, aSl_app, aSl_app, A0, aSl_app, aSl_rep, aSl_win, aSl_win, aSl_win]
    rfl
def t0 : Tn := ((0, 0, 2), ((fun _ => 0), (fun _ => 0), (fun _ => 0), fun _ => 0), none, none)
def yw0 : Yw := ((0, none, nI 0), (fun _ => 0), (fun _ => 0), (fun _ => 0), fun _ => 0)
theorem z0_ok : tOk t0 ∧ yOk t0 yw0 ∧ yD yw0 ≤ 999 := ⟨⟨Nat.zero_le _, Nat.zero_le _, by decide, fun _ => Nat.zero_le _, fun _ => Nat.zero_le _, fun _ => Nat.zero_le _, fun _ => Nat.zero_le _, fun s hs => by { have hs : (none : Option (List Op)) = some s := hs; cases hs }, fun s hs => by { have hs : (none : Option (List Op)) = some s := hs; cases hs }⟩, ⟨Nat.zero_le _, fun r hr => by { have hr : (none : Option Nat) = some r := hr; cases hr }, fun _ => Nat.zero_le _, fun _ => Nat.zero_le _, fun _ => Nat.zero_le _, fun _ => Nat.zero_le _⟩, Nat.zero_le _⟩
theorem RR0 : RR t0 (yw0, (0, fun _ => yw0), (0, (fun _ => 0), (fun _ => 0), fun _ => 0)) o0 wx0 wm0 := by
  have nn : ∀ {P : Nat → Prop}, ∀ p, p < 0 → P p := fun p hp => absurd hp (Nat.not_lt_zero p)
  have hu : ∀ j a, j ≠ a → upd (fun _ => (0 : Int32)) a (-1) j = nI 0 := fun j a h => by
    rw [upd_s, if_neg h]
    rfl
  refine ⟨⟨z0_ok, ⟨⟨⟨rfl, rfl, rfl, nn, nn, nn, rfl, rfl⟩, rfl, nn⟩, ⟨rfl, fun p _ => hu _ 0 (by omega), fun p _ => hu _ 0 (by omega), fun p _ => hu _ 0 (by omega), fun p _ => hu _ 0 (by omega), hu 31 0 (by decide), hu 32 0 (by decide)⟩⟩, ⟨rfl, rfl, rfl, nn, nn, nn, nn, rfl, rfl⟩, ⟨hu 0 1 (by decide), rfl, hu 2 1 (by decide), fun p _ => hu _ 1 (by omega), fun p _ => hu _ 1 (by omega), fun p _ => hu _ 1 (by omega), fun p _ => hu _ 1 (by omega)⟩, rfl, rfl, 0, Nat.zero_le _, rfl⟩, ⟨⟨z0_ok.2.1, z0_ok.2.2⟩, ⟨Nat.zero_le _, fun i hi => absurd hi (Nat.not_lt_zero i)⟩, Nat.zero_le _, fun i hi => absurd hi (Nat.not_lt_zero i)⟩, ⟨⟨0, by decide, rfl, rfl, fun i hi => absurd hi (Nat.not_lt_zero i)⟩, rfl, fun i hi => absurd hi (Nat.not_lt_zero i)⟩, ⟨⟨rfl, fun i hi => absurd hi (Nat.not_lt_zero i)⟩, rfl, fun i hi => absurd hi (Nat.not_lt_zero i)⟩, Or.inl ⟨rfl, rfl⟩, ⟨0, fun _ => 0, Nat.zero_le _, rfl, rfl, fun i hi => absurd hi (Nat.not_lt_zero i)⟩, fun _ _ => rfl, rfl⟩
end
