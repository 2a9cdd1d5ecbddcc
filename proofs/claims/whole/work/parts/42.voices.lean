/-! ===== voices ===== -/
/-! ===== voices ===== -/
set_option maxHeartbeats 4000000 in
set_option maxRecDepth 100000 in
theorem k_X5_partOfDifference {G : jG} {w : jWd} {x : Int32} : jKd G 0 yX5_partOfDifference cX5_partOfDifference 3 (some .int) [.ref 57, .int x] w (some (.int (if w.1 57 4 - w.1 57 3 = 0 then 0 else x / (w.1 57 4 - w.1 57 3)))) (if w.1 57 4 - w.1 57 3 = 0 then jset w 57 5 1 else w) := by
  refine jK_of (own := RX5) [some (.ref 57), some (.int x), none] pn5 rfl (Nat.le_of_ble_eq_true rfl) rfl ?_
  refine J_aload_n (pc' := 1) dX5_partOfDifference_0 rfl rfl ?_
  refine J_getI (pc' := 4) dX5_partOfDifference_1 fl_5_19 (ly_57) (l84_57) rfl rfl ?_
  refine J_aload_n (pc' := 5) dX5_partOfDifference_4 rfl rfl ?_
  refine J_getI (pc' := 8) dX5_partOfDifference_5 fl_5_15 (ly_57) (l84_57) rfl rfl ?_
  refine J_isub (pc' := 9) dX5_partOfDifference_8 rfl ?_
  refine J_istore_n (pc' := 10) dX5_partOfDifference_9 (Nat.le_of_ble_eq_true rfl) (jst2 rfl rfl) rfl ?_
  refine J_iload_n (pc' := 11) dX5_partOfDifference_10 rfl rfl ?_
  refine J_if_ne 21 (pc' := 14) dX5_partOfDifference_11 (by decide) rfl (fun h_11 => ?_) (fun h_11 => ?_)
  · refine J_iload_n (pc' := 22) dX5_partOfDifference_21 rfl rfl ?_
    refine J_iload_n (pc' := 23) dX5_partOfDifference_22 rfl rfl ?_
    refine J_idiv (pc' := 24) dX5_partOfDifference_23 h_11 rfl ?_
    first | exact J_iret dX5_partOfDifference_24  ⟨by rw [if_pos h_11], by rw [if_pos h_11]⟩ | exact J_iret dX5_partOfDifference_24  ⟨by rw [if_neg h_11], by rw [if_neg h_11]⟩
  · refine J_aload_n (pc' := 15) dX5_partOfDifference_14 rfl rfl ?_
    refine J_iconst (v := 1) (pc' := 16) dX5_partOfDifference_15 (by decide) rfl ?_
    refine J_putZ (pc' := 19) dX5_partOfDifference_16 fp_5_25 (ly_57) (l84_57) rfl (by decide) rfl ?_
    refine J_iconst (v := 0) (pc' := 20) dX5_partOfDifference_19 (by decide) rfl ?_
    first | exact J_iret dX5_partOfDifference_20  ⟨by rw [if_pos h_11], by rw [if_pos h_11]⟩ | exact J_iret dX5_partOfDifference_20  ⟨by rw [if_neg h_11], by rw [if_neg h_11]⟩
