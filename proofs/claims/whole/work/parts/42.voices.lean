/-! ===== voices ===== -/
/-! ===== voices ===== -/
set_option maxHeartbeats 4000000 in
set_option maxRecDepth 100000 in
theorem k_X5_partOfDifference {G : jG} {w : jWd} {x : Int32} : jKd G 0 yX5_partOfDifference cX5_partOfDifference 3 (some .int) [.ref 57, .int x] w (some (.int (if w.1 57 4 - w.1 57 3 = 0 then 0 else x / (w.1 57 4 - w.1 57 3)))) (if w.1 57 4 - w.1 57 3 = 0 then jset w 57 5 1 else w) := by
  refine jK_of (own := RX5) [some (.ref 57), some (.int x), none] pn5 rfl (Nat.le_of_ble_eq_true rfl) rfl ?_
  refine J_aload_n (pc' := 1) dX5_partOfDifference_0 rfl rfl ?_
  refine J_getI (pc' := 4) dX5_partOfDifference_1 fl_5_19 (ly_57) (l84_57) rfl rfl ?_
  refine J_aload_n (pc' := 5) dX5_partOfDifference_4 rfl rfl ?_
  refine J_getI (pc' := 8) dX5_partOfDifference_5 fl_5_15 (ly_57) (l84_57) rfl rfl ?_
  refine J_isub (pc' := 9) dX5_partOfDifference_8 rfl ?_
  refine J_istore_n (pc' := 10) dX5_partOfDifference_9 (Nat.le_of_ble_eq_true rfl) (jst2 rfl rfl) rfl ?_
  refine J_iload_n (pc' := 11) dX5_partOfDifference_10 rfl rfl ?_
  refine J_if_ne 21 (pc' := 14) dX5_partOfDifference_11 (by decide) rfl (fun h_11 => ?_) (fun h_11 => ?_)
  · refine J_iload_n (pc' := 22) dX5_partOfDifference_21 rfl rfl ?_
    refine J_iload_n (pc' := 23) dX5_partOfDifference_22 rfl rfl ?_
    refine J_idiv (pc' := 24) dX5_partOfDifference_23 h_11 rfl ?_
    first | exact J_iret dX5_partOfDifference_24  ⟨by rw [if_pos h_11], by rw [if_pos h_11]⟩ | exact J_iret dX5_partOfDifference_24  ⟨by rw [if_neg h_11], by rw [if_neg h_11]⟩
  · refine J_aload_n (pc' := 15) dX5_partOfDifference_14 rfl rfl ?_
    refine J_iconst (v := 1) (pc' := 16) dX5_partOfDifference_15 (by decide) rfl ?_
    refine J_putZ (pc' := 19) dX5_partOfDifference_16 fp_5_25 (ly_57) (l84_57) rfl (by decide) rfl ?_
    refine J_iconst (v := 0) (pc' := 20) dX5_partOfDifference_19 (by decide) rfl ?_
    first | exact J_iret dX5_partOfDifference_20  ⟨by rw [if_pos h_11], by rw [if_pos h_11]⟩ | exact J_iret dX5_partOfDifference_20  ⟨by rw [if_neg h_11], by rw [if_neg h_11]⟩
/-- the trace, how many are traced, parted -/
abbrev vS : Type := (Nat → Int32) × Int32 × Int32
def vTr (b : Int32) (z : vS) : vS := if z.2.1 < 30 then ((fun j => if j = nn z.2.1 then b else z.1 j), z.2.1 + 1, z.2.2) else z
/-- one body worked out; sp: what is spoken in it -/
def vW2 (sp : Int32 → Int32 → Int32 → vS → Int32 × vS) (kd k m b x : Int32) (z : vS) : Int32 × vS :=
  if b = 10 then (x + k, z)
  else if b = 11 then ((sp kd 0 x z).1 * 2, (sp kd 0 x z).2)
  else if b = 12 then ((sp kd 1 x z).1 - m, (sp kd 1 x z).2)
  else if b = 13 then (if m - k = 0 then (0, (z.1, z.2.1, 1)) else (x / (m - k), z))
  else if b = 20 then ((sp 0 0 x z).1 - 4, (sp 0 0 x z).2)
  else if b = 21 then ((sp 0 3 x z).1 + (sp kd 1 1 (sp 0 3 x z).2).1, (sp kd 1 1 (sp 0 3 x z).2).2)
  else if b = 30 then (-(sp 0 1 x z).1, (sp 0 1 x z).2)
  else if b = 40 then sp 0 2 (x / 2) z
  else if b = 50 then ((sp 1 0 x z).1 * 3, (sp 1 0 x z).2)
  else if b = 51 then ((sp 1 2 x z).1 ^^^ k, (sp 1 2 x z).2)
  else if b = 60 then sp 2 1 (x + 1) z
  else if b = 70 then (9, z)
  else if b = 71 then ((sp 0 1 x z).1 + m, (sp 0 1 x z).2)
  else (0, z)
def vWk (sp : Int32 → Int32 → Int32 → vS → Int32 × vS) (kd k m b x : Int32) (z : vS) : Int32 × vS := vW2 sp kd k m b x (vTr b z)
/-- what is spoken, n deep yet; B: the bodies -/
def vSp (B : Nat → Int32) (kd k m : Int32) : Nat → Int32 → Int32 → Int32 → vS → Int32 × vS
  | 0, _, _, _, z => (0, z)
  | n + 1, u, v, x, z => if z.2.2 = 0 ∧ 0 ≤ 4 * u + v ∧ 4 * u + v ≤ 27 then vWk (vSp B kd k m n) kd k m (B (nn (4 * u + v))) x z else (0, z)
