/-! ===== sheets are asked ===== -/
/-! ===== sheets are asked ===== -/
abbrev sBit (b : Int32) : Prop := b = 0 ∨ b = 8 ∨ b = 16 ∨ b = 32
theorem mmin_nI {a b : Nat} (ha : a ≤ 1000) (hb : b ≤ 1000) : (if nI b < nI a then nI b else nI a) = nI (Nat.min b a) ∧ Nat.min b a ≤ a ∧ Nat.min b a ≤ b := by
  refine ⟨?_, Nat.min_le_right _ _, Nat.min_le_left _ _⟩
  by_cases h : b < a
  · rw [if_pos (nI_lt h (by omega)), show Nat.min b a = b from Nat.min_eq_left (by omega)]
  · rw [if_neg (nI_nlt (by omega) (by omega)), show Nat.min b a = a from Nat.min_eq_right (by omega)]
def sJdg (r σ : sg) (s : Nat) : Nat → Nat → Int32
  | 0, i => nI i
  | n + 1, i => if r (2 + s) i = σ 4 i then sJdg r σ s n (i + 1) else nI i
def sTel (r : sg) (s : Nat) : Nat → Nat → sg → Int32 × sg
  | 0, i, σ => (nI i, σ)
  | n + 1, i, σ => if -20 ≤ r (2 + s) i ∧ r (2 + s) i ≤ 20 then sTel r s n (i + 1) (sg1 σ 4 i (r (2 + s) i)) else (nI i, σ)
def sTelN (r σ : sg) (s : Nat) : Nat := Nat.min (sM σ) (nn (r 7 s))
def sq_sheet (s k r : sg) (x : Int32) (b : Int32) (len : Int32) : sQI := if (0 ≤ x ∧ x ≤ 3) ∧ sBit b then (if b ≠ 0 ∧ len < 0 then (sErr 3, s, k, sEr r 3) else if b ≠ 0 ∧ 24 < len then (sErr 1, s, k, sEr r 1) else (1, s, k, sLay r (nn x) b (if b = 0 then 0 else len) 24)) else (sErr 1, s, k, sEr r 1)
set_option maxHeartbeats 4000000 in
set_option maxRecDepth 100000 in
theorem a_X6_sheet {G : jG} {w : jWd} (hX : XInv w) (hI : sInv (abX w 1)) {x : Int32} {b : Int32} {len : Int32} : jKp G 2 yX6_sheet cX6_sheet 5 (some .int) [.ref 0, .int x, .int b, .int len] w (some (.int (sq_sheet (abX w 1) (abX w 16) (restX w) x b len).1)) (fun w' => BQ w w' (sq_sheet (abX w 1) (abX w 16) (restX w) x b len).2) := by
  refine jK_of (own := RX6) [some (.ref 0), some (.int x), some (.int b), some (.int len), none] pn6 rfl (Nat.le_of_ble_eq_true rfl) rfl ?_
  refine J_iload_n (pc' := 1) dX6_sheet_0 rfl rfl ?_
  refine J_if_eq 22 (pc' := 4) dX6_sheet_1 (by decide) rfl (fun h_1 => ?_) (fun h_1 => ?_)
  · have hb4 : sBit b := by first | exact Or.inl h_1 | exact Or.inr (Or.inl h_7) | exact Or.inr (Or.inr (Or.inl h_13)) | exact Or.inr (Or.inr (Or.inr h_19)) | exact Or.inr (Or.inr (Or.inr (Decidable.not_not.mp h_19)))
    refine J_iconst (v := 1) (pc' := 23) dX6_sheet_22 (by decide) rfl ?_
    refine J_goto (pc' := 0) 27 dX6_sheet_23 (by decide) ?_
    refine J_istore (pc' := 29) dX6_sheet_27 (Nat.le_of_ble_eq_true rfl) (jst4 rfl rfl) rfl ?_
    refine J_iload_n (pc' := 30) dX6_sheet_29 rfl rfl ?_
    refine J_S1v (pc' := 33) dX6_sheet_30 lk_6_255 cd_X6_isSheet (k_X6_isSheet) (jroom_of rfl) (Nat.le_of_ble_eq_true rfl) rfl ?_
    refine J_if_eq 41 (pc' := 36) dX6_sheet_33 (by decide) rfl (fun h_33 => ?_) (fun h_33 => ?_)
    · refine J_aload_n (pc' := 42) dX6_sheet_41 rfl rfl ?_
      refine J_iconst (v := 1) (pc' := 43) dX6_sheet_42 (by decide) rfl ?_
      refine J_V1v (pc' := 46) dX6_sheet_43 lk_6_69 cd_X6_error (k_err1) (ly_0) (l84_0) rfl rfl (jroom_of rfl) (Nat.le_of_ble_eq_true rfl) rfl ?_
      exact J_iret dX6_sheet_46  (by unfold sq_sheet; rw [if_neg (fun q => by first | exact jb_0.mp h_33 q.1 | exact hb4 q.2)]; exact ⟨rfl, bq_err hX (by decide)⟩)
    · refine J_iload (pc' := 38) dX6_sheet_36 rfl rfl ?_
      refine J_if_ne 47 (pc' := 41) dX6_sheet_38 (by decide) rfl (fun h_38 => ?_) (fun h_38 => absurd h_38 (by decide))
      obtain ⟨s, hs3, rfl⟩ := rng0_ex (n := 3) (by omega) (jb_n h_33)
      have hs4 : s < 4 := by omega
      have hC : (0 ≤ nI s ∧ nI s ≤ 3) ∧ sBit b := ⟨jb_n h_33, hb4⟩
      refine J_iload_n (pc' := 48) dX6_sheet_47 rfl rfl ?_
      refine J_if_eq 61 (pc' := 51) dX6_sheet_48 (by decide) rfl (fun h_48 => ?_) (fun h_48 => ?_)
      · refine J_iload_n (pc' := 62) dX6_sheet_61 rfl rfl ?_
        refine J_if_eq 77 (pc' := 65) dX6_sheet_62 (by decide) rfl (fun h_62 => ?_) (fun h_62 => ?_)
        · refine J_aload_n (pc' := 78) dX6_sheet_77 rfl rfl ?_
          refine J_getR (pc' := 81) dX6_sheet_78 fl_6_52 (ly_0) (l84_0) rfl rfl ?_
          refine J_iload_n (pc' := 82) dX6_sheet_81 rfl rfl ?_
          refine J_iload_n (pc' := 83) dX6_sheet_82 rfl rfl ?_
          refine J_iload_n (pc' := 84) dX6_sheet_83 rfl rfl ?_
          refine J_if_ne 91 (pc' := 87) dX6_sheet_84 (by decide) rfl (fun h_84 => ?_) (fun h_84 => ?_)
          · refine J_iload_n (pc' := 92) dX6_sheet_91 rfl rfl ?_
            refine J_V3w (pc' := 95) dX6_sheet_92 lk_6_278 cd_X3_lay (k_X3_lay hs4) (ly_59) (l84_59) rfl rfl (jroom_of rfl) (Nat.le_of_ble_eq_true rfl) rfl (fun w92 hw92 => ?_)
            refine J_iconst (v := 1) (pc' := 96) dX6_sheet_95 (by decide) rfl ?_
            first | exact absurd h_1 h_48 | exact absurd h_1 h_62 | exact absurd h_1 h_84 | exact absurd h_48 h_1 | exact absurd h_48 h_62 | exact absurd h_48 h_84 | exact absurd h_62 h_1 | exact absurd h_62 h_48 | exact absurd h_62 h_84 | exact absurd h_84 h_1 | exact absurd h_84 h_48 | exact absurd h_84 h_62 | exact J_iret dX6_sheet_96  (by unfold sq_sheet; rw [if_pos hC, if_neg (fun q => by first | exact q.1 h_48 | exact Int32.not_le.mpr q.2 h_52), if_neg (fun q => by first | exact q.1 h_62 | exact Int32.not_le.mpr q.2 h_68), nn_nI (by omega)]; first | (rw [if_pos h_84]; exact ⟨rfl, bq_sh hX hw92.2 hw92.1⟩) | (rw [if_neg h_84]; exact ⟨rfl, bq_sh hX hw92.2 hw92.1⟩))
          · refine J_iconst (v := 0) (pc' := 88) dX6_sheet_87 (by decide) rfl ?_
            refine J_goto (pc' := 0) 92 dX6_sheet_88 (by decide) ?_
            refine J_V3w (pc' := 95) dX6_sheet_92 lk_6_278 cd_X3_lay (k_X3_lay hs4) (ly_59) (l84_59) rfl rfl (jroom_of rfl) (Nat.le_of_ble_eq_true rfl) rfl (fun w92 hw92 => ?_)
            refine J_iconst (v := 1) (pc' := 96) dX6_sheet_95 (by decide) rfl ?_
            first | exact absurd h_1 h_48 | exact absurd h_1 h_62 | exact absurd h_1 h_84 | exact absurd h_48 h_1 | exact absurd h_48 h_62 | exact absurd h_48 h_84 | exact absurd h_62 h_1 | exact absurd h_62 h_48 | exact absurd h_62 h_84 | exact absurd h_84 h_1 | exact absurd h_84 h_48 | exact absurd h_84 h_62 | exact J_iret dX6_sheet_96  (by unfold sq_sheet; rw [if_pos hC, if_neg (fun q => by first | exact q.1 h_48 | exact Int32.not_le.mpr q.2 h_52), if_neg (fun q => by first | exact q.1 h_62 | exact Int32.not_le.mpr q.2 h_68), nn_nI (by omega)]; first | (rw [if_pos h_84]; exact ⟨rfl, bq_sh hX hw92.2 hw92.1⟩) | (rw [if_neg h_84]; exact ⟨rfl, bq_sh hX hw92.2 hw92.1⟩))
        · refine J_iload_n (pc' := 66) dX6_sheet_65 rfl rfl ?_
          refine J_bipush (v := 24) (pc' := 68) dX6_sheet_66 (by decide) rfl ?_
          refine J_icmp_le 77 (pc' := 71) dX6_sheet_68 (by decide) rfl (fun h_68 => ?_) (fun h_68 => ?_)
          · refine J_aload_n (pc' := 78) dX6_sheet_77 rfl rfl ?_
            refine J_getR (pc' := 81) dX6_sheet_78 fl_6_52 (ly_0) (l84_0) rfl rfl ?_
            refine J_iload_n (pc' := 82) dX6_sheet_81 rfl rfl ?_
            refine J_iload_n (pc' := 83) dX6_sheet_82 rfl rfl ?_
            refine J_iload_n (pc' := 84) dX6_sheet_83 rfl rfl ?_
            refine J_if_ne 91 (pc' := 87) dX6_sheet_84 (by decide) rfl (fun h_84 => ?_) (fun h_84 => ?_)
            · refine J_iload_n (pc' := 92) dX6_sheet_91 rfl rfl ?_
              refine J_V3w (pc' := 95) dX6_sheet_92 lk_6_278 cd_X3_lay (k_X3_lay hs4) (ly_59) (l84_59) rfl rfl (jroom_of rfl) (Nat.le_of_ble_eq_true rfl) rfl (fun w92 hw92 => ?_)
              refine J_iconst (v := 1) (pc' := 96) dX6_sheet_95 (by decide) rfl ?_
              first | exact absurd h_1 h_48 | exact absurd h_1 h_62 | exact absurd h_1 h_84 | exact absurd h_48 h_1 | exact absurd h_48 h_62 | exact absurd h_48 h_84 | exact absurd h_62 h_1 | exact absurd h_62 h_48 | exact absurd h_62 h_84 | exact absurd h_84 h_1 | exact absurd h_84 h_48 | exact absurd h_84 h_62 | exact J_iret dX6_sheet_96  (by unfold sq_sheet; rw [if_pos hC, if_neg (fun q => by first | exact q.1 h_48 | exact Int32.not_le.mpr q.2 h_52), if_neg (fun q => by first | exact q.1 h_62 | exact Int32.not_le.mpr q.2 h_68), nn_nI (by omega)]; first | (rw [if_pos h_84]; exact ⟨rfl, bq_sh hX hw92.2 hw92.1⟩) | (rw [if_neg h_84]; exact ⟨rfl, bq_sh hX hw92.2 hw92.1⟩))
            · refine J_iconst (v := 0) (pc' := 88) dX6_sheet_87 (by decide) rfl ?_
              refine J_goto (pc' := 0) 92 dX6_sheet_88 (by decide) ?_
              refine J_V3w (pc' := 95) dX6_sheet_92 lk_6_278 cd_X3_lay (k_X3_lay hs4) (ly_59) (l84_59) rfl rfl (jroom_of rfl) (Nat.le_of_ble_eq_true rfl) rfl (fun w92 hw92 => ?_)
              refine J_iconst (v := 1) (pc' := 96) dX6_sheet_95 (by decide) rfl ?_
              first | exact absurd h_1 h_48 | exact absurd h_1 h_62 | exact absurd h_1 h_84 | exact absurd h_48 h_1 | exact absurd h_48 h_62 | exact absurd h_48 h_84 | exact absurd h_62 h_1 | exact absurd h_62 h_48 | exact absurd h_62 h_84 | exact absurd h_84 h_1 | exact absurd h_84 h_48 | exact absurd h_84 h_62 | exact J_iret dX6_sheet_96  (by unfold sq_sheet; rw [if_pos hC, if_neg (fun q => by first | exact q.1 h_48 | exact Int32.not_le.mpr q.2 h_52), if_neg (fun q => by first | exact q.1 h_62 | exact Int32.not_le.mpr q.2 h_68), nn_nI (by omega)]; first | (rw [if_pos h_84]; exact ⟨rfl, bq_sh hX hw92.2 hw92.1⟩) | (rw [if_neg h_84]; exact ⟨rfl, bq_sh hX hw92.2 hw92.1⟩))
          · refine J_aload_n (pc' := 72) dX6_sheet_71 rfl rfl ?_
            refine J_iconst (v := 1) (pc' := 73) dX6_sheet_72 (by decide) rfl ?_
            refine J_V1v (pc' := 76) dX6_sheet_73 lk_6_69 cd_X6_error (k_err1) (ly_0) (l84_0) rfl rfl (jroom_of rfl) (Nat.le_of_ble_eq_true rfl) rfl ?_
            first | exact absurd h_1 h_48 | exact absurd h_1 h_62 | exact absurd h_1 h_84 | exact absurd h_48 h_1 | exact absurd h_48 h_62 | exact absurd h_48 h_84 | exact absurd h_62 h_1 | exact absurd h_62 h_48 | exact absurd h_62 h_84 | exact absurd h_84 h_1 | exact absurd h_84 h_48 | exact absurd h_84 h_62 | exact J_iret dX6_sheet_76  (by unfold sq_sheet; rw [if_pos hC, if_neg (fun q => by first | exact q.1 h_48 | exact Int32.not_le.mpr q.2 h_52), if_pos ⟨h_62, Int32.not_le.mp h_68⟩]; exact ⟨rfl, bq_err hX (by decide)⟩)
      · refine J_iload_n (pc' := 52) dX6_sheet_51 rfl rfl ?_
        refine J_if_ge 61 (pc' := 55) dX6_sheet_52 (by decide) rfl (fun h_52 => ?_) (fun h_52 => ?_)
        · refine J_iload_n (pc' := 62) dX6_sheet_61 rfl rfl ?_
          refine J_if_eq 77 (pc' := 65) dX6_sheet_62 (by decide) rfl (fun h_62 => ?_) (fun h_62 => ?_)
          · refine J_aload_n (pc' := 78) dX6_sheet_77 rfl rfl ?_
            refine J_getR (pc' := 81) dX6_sheet_78 fl_6_52 (ly_0) (l84_0) rfl rfl ?_
            refine J_iload_n (pc' := 82) dX6_sheet_81 rfl rfl ?_
            refine J_iload_n (pc' := 83) dX6_sheet_82 rfl rfl ?_
            refine J_iload_n (pc' := 84) dX6_sheet_83 rfl rfl ?_
            refine J_if_ne 91 (pc' := 87) dX6_sheet_84 (by decide) rfl (fun h_84 => ?_) (fun h_84 => ?_)
            · refine J_iload_n (pc' := 92) dX6_sheet_91 rfl rfl ?_
              refine J_V3w (pc' := 95) dX6_sheet_92 lk_6_278 cd_X3_lay (k_X3_lay hs4) (ly_59) (l84_59) rfl rfl (jroom_of rfl) (Nat.le_of_ble_eq_true rfl) rfl (fun w92 hw92 => ?_)
              refine J_iconst (v := 1) (pc' := 96) dX6_sheet_95 (by decide) rfl ?_
              first | exact absurd h_1 h_48 | exact absurd h_1 h_62 | exact absurd h_1 h_84 | exact absurd h_48 h_1 | exact absurd h_48 h_62 | exact absurd h_48 h_84 | exact absurd h_62 h_1 | exact absurd h_62 h_48 | exact absurd h_62 h_84 | exact absurd h_84 h_1 | exact absurd h_84 h_48 | exact absurd h_84 h_62 | exact J_iret dX6_sheet_96  (by unfold sq_sheet; rw [if_pos hC, if_neg (fun q => by first | exact q.1 h_48 | exact Int32.not_le.mpr q.2 h_52), if_neg (fun q => by first | exact q.1 h_62 | exact Int32.not_le.mpr q.2 h_68), nn_nI (by omega)]; first | (rw [if_pos h_84]; exact ⟨rfl, bq_sh hX hw92.2 hw92.1⟩) | (rw [if_neg h_84]; exact ⟨rfl, bq_sh hX hw92.2 hw92.1⟩))
            · refine J_iconst (v := 0) (pc' := 88) dX6_sheet_87 (by decide) rfl ?_
              refine J_goto (pc' := 0) 92 dX6_sheet_88 (by decide) ?_
              refine J_V3w (pc' := 95) dX6_sheet_92 lk_6_278 cd_X3_lay (k_X3_lay hs4) (ly_59) (l84_59) rfl rfl (jroom_of rfl) (Nat.le_of_ble_eq_true rfl) rfl (fun w92 hw92 => ?_)
              refine J_iconst (v := 1) (pc' := 96) dX6_sheet_95 (by decide) rfl ?_
              first | exact absurd h_1 h_48 | exact absurd h_1 h_62 | exact absurd h_1 h_84 | exact absurd h_48 h_1 | exact absurd h_48 h_62 | exact absurd h_48 h_84 | exact absurd h_62 h_1 | exact absurd h_62 h_48 | exact absurd h_62 h_84 | exact absurd h_84 h_1 | exact absurd h_84 h_48 | exact absurd h_84 h_62 | exact J_iret dX6_sheet_96  (by unfold sq_sheet; rw [if_pos hC, if_neg (fun q => by first | exact q.1 h_48 | exact Int32.not_le.mpr q.2 h_52), if_neg (fun q => by first | exact q.1 h_62 | exact Int32.not_le.mpr q.2 h_68), nn_nI (by omega)]; first | (rw [if_pos h_84]; exact ⟨rfl, bq_sh hX hw92.2 hw92.1⟩) | (rw [if_neg h_84]; exact ⟨rfl, bq_sh hX hw92.2 hw92.1⟩))
          · refine J_iload_n (pc' := 66) dX6_sheet_65 rfl rfl ?_
            refine J_bipush (v := 24) (pc' := 68) dX6_sheet_66 (by decide) rfl ?_
            refine J_icmp_le 77 (pc' := 71) dX6_sheet_68 (by decide) rfl (fun h_68 => ?_) (fun h_68 => ?_)
            · refine J_aload_n (pc' := 78) dX6_sheet_77 rfl rfl ?_
              refine J_getR (pc' := 81) dX6_sheet_78 fl_6_52 (ly_0) (l84_0) rfl rfl ?_
              refine J_iload_n (pc' := 82) dX6_sheet_81 rfl rfl ?_
              refine J_iload_n (pc' := 83) dX6_sheet_82 rfl rfl ?_
              refine J_iload_n (pc' := 84) dX6_sheet_83 rfl rfl ?_
              refine J_if_ne 91 (pc' := 87) dX6_sheet_84 (by decide) rfl (fun h_84 => ?_) (fun h_84 => ?_)
              · refine J_iload_n (pc' := 92) dX6_sheet_91 rfl rfl ?_
                refine J_V3w (pc' := 95) dX6_sheet_92 lk_6_278 cd_X3_lay (k_X3_lay hs4) (ly_59) (l84_59) rfl rfl (jroom_of rfl) (Nat.le_of_ble_eq_true rfl) rfl (fun w92 hw92 => ?_)
                refine J_iconst (v := 1) (pc' := 96) dX6_sheet_95 (by decide) rfl ?_
                first | exact absurd h_1 h_48 | exact absurd h_1 h_62 | exact absurd h_1 h_84 | exact absurd h_48 h_1 | exact absurd h_48 h_62 | exact absurd h_48 h_84 | exact absurd h_62 h_1 | exact absurd h_62 h_48 | exact absurd h_62 h_84 | exact absurd h_84 h_1 | exact absurd h_84 h_48 | exact absurd h_84 h_62 | exact J_iret dX6_sheet_96  (by unfold sq_sheet; rw [if_pos hC, if_neg (fun q => by first | exact q.1 h_48 | exact Int32.not_le.mpr q.2 h_52), if_neg (fun q => by first | exact q.1 h_62 | exact Int32.not_le.mpr q.2 h_68), nn_nI (by omega)]; first | (rw [if_pos h_84]; exact ⟨rfl, bq_sh hX hw92.2 hw92.1⟩) | (rw [if_neg h_84]; exact ⟨rfl, bq_sh hX hw92.2 hw92.1⟩))
              · refine J_iconst (v := 0) (pc' := 88) dX6_sheet_87 (by decide) rfl ?_
                refine J_goto (pc' := 0) 92 dX6_sheet_88 (by decide) ?_
                refine J_V3w (pc' := 95) dX6_sheet_92 lk_6_278 cd_X3_lay (k_X3_lay hs4) (ly_59) (l84_59) rfl rfl (jroom_of rfl) (Nat.le_of_ble_eq_true rfl) rfl (fun w92 hw92 => ?_)
                refine J_iconst (v := 1) (pc' := 96) dX6_sheet_95 (by decide) rfl ?_
                first | exact absurd h_1 h_48 | exact absurd h_1 h_62 | exact absurd h_1 h_84 | exact absurd h_48 h_1 | exact absurd h_48 h_62 | exact absurd h_48 h_84 | exact absurd h_62 h_1 | exact absurd h_62 h_48 | exact absurd h_62 h_84 | exact absurd h_84 h_1 | exact absurd h_84 h_48 | exact absurd h_84 h_62 | exact J_iret dX6_sheet_96  (by unfold sq_sheet; rw [if_pos hC, if_neg (fun q => by first | exact q.1 h_48 | exact Int32.not_le.mpr q.2 h_52), if_neg (fun q => by first | exact q.1 h_62 | exact Int32.not_le.mpr q.2 h_68), nn_nI (by omega)]; first | (rw [if_pos h_84]; exact ⟨rfl, bq_sh hX hw92.2 hw92.1⟩) | (rw [if_neg h_84]; exact ⟨rfl, bq_sh hX hw92.2 hw92.1⟩))
            · refine J_aload_n (pc' := 72) dX6_sheet_71 rfl rfl ?_
              refine J_iconst (v := 1) (pc' := 73) dX6_sheet_72 (by decide) rfl ?_
              refine J_V1v (pc' := 76) dX6_sheet_73 lk_6_69 cd_X6_error (k_err1) (ly_0) (l84_0) rfl rfl (jroom_of rfl) (Nat.le_of_ble_eq_true rfl) rfl ?_
              first | exact absurd h_1 h_48 | exact absurd h_1 h_62 | exact absurd h_1 h_84 | exact absurd h_48 h_1 | exact absurd h_48 h_62 | exact absurd h_48 h_84 | exact absurd h_62 h_1 | exact absurd h_62 h_48 | exact absurd h_62 h_84 | exact absurd h_84 h_1 | exact absurd h_84 h_48 | exact absurd h_84 h_62 | exact J_iret dX6_sheet_76  (by unfold sq_sheet; rw [if_pos hC, if_neg (fun q => by first | exact q.1 h_48 | exact Int32.not_le.mpr q.2 h_52), if_pos ⟨h_62, Int32.not_le.mp h_68⟩]; exact ⟨rfl, bq_err hX (by decide)⟩)
        · refine J_aload_n (pc' := 56) dX6_sheet_55 rfl rfl ?_
          refine J_iconst (v := 3) (pc' := 57) dX6_sheet_56 (by decide) rfl ?_
          refine J_V1v (pc' := 60) dX6_sheet_57 lk_6_69 cd_X6_error (k_err3) (ly_0) (l84_0) rfl rfl (jroom_of rfl) (Nat.le_of_ble_eq_true rfl) rfl ?_
          first | exact absurd h_1 h_48 | exact absurd h_1 h_62 | exact absurd h_1 h_84 | exact absurd h_48 h_1 | exact absurd h_48 h_62 | exact absurd h_48 h_84 | exact absurd h_62 h_1 | exact absurd h_62 h_48 | exact absurd h_62 h_84 | exact absurd h_84 h_1 | exact absurd h_84 h_48 | exact absurd h_84 h_62 | exact J_iret dX6_sheet_60  (by unfold sq_sheet; rw [if_pos hC, if_pos ⟨by first | exact h_48 | exact fun q => h_48 q, Int32.not_le.mp h_52⟩]; exact ⟨rfl, bq_err hX (by decide)⟩)
  · refine J_iload_n (pc' := 5) dX6_sheet_4 rfl rfl ?_
    refine J_bipush (v := 8) (pc' := 7) dX6_sheet_5 (by decide) rfl ?_
    refine J_icmp_eq 22 (pc' := 10) dX6_sheet_7 (by decide) rfl (fun h_7 => ?_) (fun h_7 => ?_)
    · have hb4 : sBit b := by first | exact Or.inl h_1 | exact Or.inr (Or.inl h_7) | exact Or.inr (Or.inr (Or.inl h_13)) | exact Or.inr (Or.inr (Or.inr h_19)) | exact Or.inr (Or.inr (Or.inr (Decidable.not_not.mp h_19)))
      refine J_iconst (v := 1) (pc' := 23) dX6_sheet_22 (by decide) rfl ?_
      refine J_goto (pc' := 0) 27 dX6_sheet_23 (by decide) ?_
      refine J_istore (pc' := 29) dX6_sheet_27 (Nat.le_of_ble_eq_true rfl) (jst4 rfl rfl) rfl ?_
      refine J_iload_n (pc' := 30) dX6_sheet_29 rfl rfl ?_
      refine J_S1v (pc' := 33) dX6_sheet_30 lk_6_255 cd_X6_isSheet (k_X6_isSheet) (jroom_of rfl) (Nat.le_of_ble_eq_true rfl) rfl ?_
      refine J_if_eq 41 (pc' := 36) dX6_sheet_33 (by decide) rfl (fun h_33 => ?_) (fun h_33 => ?_)
      · refine J_aload_n (pc' := 42) dX6_sheet_41 rfl rfl ?_
        refine J_iconst (v := 1) (pc' := 43) dX6_sheet_42 (by decide) rfl ?_
        refine J_V1v (pc' := 46) dX6_sheet_43 lk_6_69 cd_X6_error (k_err1) (ly_0) (l84_0) rfl rfl (jroom_of rfl) (Nat.le_of_ble_eq_true rfl) rfl ?_
        exact J_iret dX6_sheet_46  (by unfold sq_sheet; rw [if_neg (fun q => by first | exact jb_0.mp h_33 q.1 | exact hb4 q.2)]; exact ⟨rfl, bq_err hX (by decide)⟩)
      · refine J_iload (pc' := 38) dX6_sheet_36 rfl rfl ?_
        refine J_if_ne 47 (pc' := 41) dX6_sheet_38 (by decide) rfl (fun h_38 => ?_) (fun h_38 => absurd h_38 (by decide))
        obtain ⟨s, hs3, rfl⟩ := rng0_ex (n := 3) (by omega) (jb_n h_33)
        have hs4 : s < 4 := by omega
        have hC : (0 ≤ nI s ∧ nI s ≤ 3) ∧ sBit b := ⟨jb_n h_33, hb4⟩
        refine J_iload_n (pc' := 48) dX6_sheet_47 rfl rfl ?_
        refine J_if_eq 61 (pc' := 51) dX6_sheet_48 (by decide) rfl (fun h_48 => ?_) (fun h_48 => ?_)
        · refine J_iload_n (pc' := 62) dX6_sheet_61 rfl rfl ?_
          refine J_if_eq 77 (pc' := 65) dX6_sheet_62 (by decide) rfl (fun h_62 => ?_) (fun h_62 => ?_)
          · refine J_aload_n (pc' := 78) dX6_sheet_77 rfl rfl ?_
            refine J_getR (pc' := 81) dX6_sheet_78 fl_6_52 (ly_0) (l84_0) rfl rfl ?_
            refine J_iload_n (pc' := 82) dX6_sheet_81 rfl rfl ?_
            refine J_iload_n (pc' := 83) dX6_sheet_82 rfl rfl ?_
            refine J_iload_n (pc' := 84) dX6_sheet_83 rfl rfl ?_
            refine J_if_ne 91 (pc' := 87) dX6_sheet_84 (by decide) rfl (fun h_84 => ?_) (fun h_84 => ?_)
            · refine J_iload_n (pc' := 92) dX6_sheet_91 rfl rfl ?_
              refine J_V3w (pc' := 95) dX6_sheet_92 lk_6_278 cd_X3_lay (k_X3_lay hs4) (ly_59) (l84_59) rfl rfl (jroom_of rfl) (Nat.le_of_ble_eq_true rfl) rfl (fun w92 hw92 => ?_)
              refine J_iconst (v := 1) (pc' := 96) dX6_sheet_95 (by decide) rfl ?_
              first | exact absurd h_1 h_48 | exact absurd h_1 h_62 | exact absurd h_1 h_84 | exact absurd h_48 h_1 | exact absurd h_48 h_62 | exact absurd h_48 h_84 | exact absurd h_62 h_1 | exact absurd h_62 h_48 | exact absurd h_62 h_84 | exact absurd h_84 h_1 | exact absurd h_84 h_48 | exact absurd h_84 h_62 | exact J_iret dX6_sheet_96  (by unfold sq_sheet; rw [if_pos hC, if_neg (fun q => by first | exact q.1 h_48 | exact Int32.not_le.mpr q.2 h_52), if_neg (fun q => by first | exact q.1 h_62 | exact Int32.not_le.mpr q.2 h_68), nn_nI (by omega)]; first | (rw [if_pos h_84]; exact ⟨rfl, bq_sh hX hw92.2 hw92.1⟩) | (rw [if_neg h_84]; exact ⟨rfl, bq_sh hX hw92.2 hw92.1⟩))
            · refine J_iconst (v := 0) (pc' := 88) dX6_sheet_87 (by decide) rfl ?_
              refine J_goto (pc' := 0) 92 dX6_sheet_88 (by decide) ?_
              refine J_V3w (pc' := 95) dX6_sheet_92 lk_6_278 cd_X3_lay (k_X3_lay hs4) (ly_59) (l84_59) rfl rfl (jroom_of rfl) (Nat.le_of_ble_eq_true rfl) rfl (fun w92 hw92 => ?_)
              refine J_iconst (v := 1) (pc' := 96) dX6_sheet_95 (by decide) rfl ?_
              first | exact absurd h_1 h_48 | exact absurd h_1 h_62 | exact absurd h_1 h_84 | exact absurd h_48 h_1 | exact absurd h_48 h_62 | exact absurd h_48 h_84 | exact absurd h_62 h_1 | exact absurd h_62 h_48 | exact absurd h_62 h_84 | exact absurd h_84 h_1 | exact absurd h_84 h_48 | exact absurd h_84 h_62 | exact J_iret dX6_sheet_96  (by unfold sq_sheet; rw [if_pos hC, if_neg (fun q => by first | exact q.1 h_48 | exact Int32.not_le.mpr q.2 h_52), if_neg (fun q => by first | exact q.1 h_62 | exact Int32.not_le.mpr q.2 h_68), nn_nI (by omega)]; first | (rw [if_pos h_84]; exact ⟨rfl, bq_sh hX hw92.2 hw92.1⟩) | (rw [if_neg h_84]; exact ⟨rfl, bq_sh hX hw92.2 hw92.1⟩))
          · refine J_iload_n (pc' := 66) dX6_sheet_65 rfl rfl ?_
            refine J_bipush (v := 24) (pc' := 68) dX6_sheet_66 (by decide) rfl ?_
            refine J_icmp_le 77 (pc' := 71) dX6_sheet_68 (by decide) rfl (fun h_68 => ?_) (fun h_68 => ?_)
            · refine J_aload_n (pc' := 78) dX6_sheet_77 rfl rfl ?_
              refine J_getR (pc' := 81) dX6_sheet_78 fl_6_52 (ly_0) (l84_0) rfl rfl ?_
              refine J_iload_n (pc' := 82) dX6_sheet_81 rfl rfl ?_
              refine J_iload_n (pc' := 83) dX6_sheet_82 rfl rfl ?_
              refine J_iload_n (pc' := 84) dX6_sheet_83 rfl rfl ?_
              refine J_if_ne 91 (pc' := 87) dX6_sheet_84 (by decide) rfl (fun h_84 => ?_) (fun h_84 => ?_)
              · refine J_iload_n (pc' := 92) dX6_sheet_91 rfl rfl ?_
                refine J_V3w (pc' := 95) dX6_sheet_92 lk_6_278 cd_X3_lay (k_X3_lay hs4) (ly_59) (l84_59) rfl rfl (jroom_of rfl) (Nat.le_of_ble_eq_true rfl) rfl (fun w92 hw92 => ?_)
                refine J_iconst (v := 1) (pc' := 96) dX6_sheet_95 (by decide) rfl ?_
                first | exact absurd h_1 h_48 | exact absurd h_1 h_62 | exact absurd h_1 h_84 | exact absurd h_48 h_1 | exact absurd h_48 h_62 | exact absurd h_48 h_84 | exact absurd h_62 h_1 | exact absurd h_62 h_48 | exact absurd h_62 h_84 | exact absurd h_84 h_1 | exact absurd h_84 h_48 | exact absurd h_84 h_62 | exact J_iret dX6_sheet_96  (by unfold sq_sheet; rw [if_pos hC, if_neg (fun q => by first | exact q.1 h_48 | exact Int32.not_le.mpr q.2 h_52), if_neg (fun q => by first | exact q.1 h_62 | exact Int32.not_le.mpr q.2 h_68), nn_nI (by omega)]; first | (rw [if_pos h_84]; exact ⟨rfl, bq_sh hX hw92.2 hw92.1⟩) | (rw [if_neg h_84]; exact ⟨rfl, bq_sh hX hw92.2 hw92.1⟩))
              · refine J_iconst (v := 0) (pc' := 88) dX6_sheet_87 (by decide) rfl ?_
                refine J_goto (pc' := 0) 92 dX6_sheet_88 (by decide) ?_
                refine J_V3w (pc' := 95) dX6_sheet_92 lk_6_278 cd_X3_lay (k_X3_lay hs4) (ly_59) (l84_59) rfl rfl (jroom_of rfl) (Nat.le_of_ble_eq_true rfl) rfl (fun w92 hw92 => ?_)
                refine J_iconst (v := 1) (pc' := 96) dX6_sheet_95 (by decide) rfl ?_
                first | exact absurd h_1 h_48 | exact absurd h_1 h_62 | exact absurd h_1 h_84 | exact absurd h_48 h_1 | exact absurd h_48 h_62 | exact absurd h_48 h_84 | exact absurd h_62 h_1 | exact absurd h_62 h_48 | exact absurd h_62 h_84 | exact absurd h_84 h_1 | exact absurd h_84 h_48 | exact absurd h_84 h_62 | exact J_iret dX6_sheet_96  (by unfold sq_sheet; rw [if_pos hC, if_neg (fun q => by first | exact q.1 h_48 | exact Int32.not_le.mpr q.2 h_52), if_neg (fun q => by first | exact q.1 h_62 | exact Int32.not_le.mpr q.2 h_68), nn_nI (by omega)]; first | (rw [if_pos h_84]; exact ⟨rfl, bq_sh hX hw92.2 hw92.1⟩) | (rw [if_neg h_84]; exact ⟨rfl, bq_sh hX hw92.2 hw92.1⟩))
            · refine J_aload_n (pc' := 72) dX6_sheet_71 rfl rfl ?_
              refine J_iconst (v := 1) (pc' := 73) dX6_sheet_72 (by decide) rfl ?_
              refine J_V1v (pc' := 76) dX6_sheet_73 lk_6_69 cd_X6_error (k_err1) (ly_0) (l84_0) rfl rfl (jroom_of rfl) (Nat.le_of_ble_eq_true rfl) rfl ?_
              first | exact absurd h_1 h_48 | exact absurd h_1 h_62 | exact absurd h_1 h_84 | exact absurd h_48 h_1 | exact absurd h_48 h_62 | exact absurd h_48 h_84 | exact absurd h_62 h_1 | exact absurd h_62 h_48 | exact absurd h_62 h_84 | exact absurd h_84 h_1 | exact absurd h_84 h_48 | exact absurd h_84 h_62 | exact J_iret dX6_sheet_76  (by unfold sq_sheet; rw [if_pos hC, if_neg (fun q => by first | exact q.1 h_48 | exact Int32.not_le.mpr q.2 h_52), if_pos ⟨h_62, Int32.not_le.mp h_68⟩]; exact ⟨rfl, bq_err hX (by decide)⟩)
        · refine J_iload_n (pc' := 52) dX6_sheet_51 rfl rfl ?_
          refine J_if_ge 61 (pc' := 55) dX6_sheet_52 (by decide) rfl (fun h_52 => ?_) (fun h_52 => ?_)
          · refine J_iload_n (pc' := 62) dX6_sheet_61 rfl rfl ?_
            refine J_if_eq 77 (pc' := 65) dX6_sheet_62 (by decide) rfl (fun h_62 => ?_) (fun h_62 => ?_)
            · refine J_aload_n (pc' := 78) dX6_sheet_77 rfl rfl ?_
              refine J_getR (pc' := 81) dX6_sheet_78 fl_6_52 (ly_0) (l84_0) rfl rfl ?_
              refine J_iload_n (pc' := 82) dX6_sheet_81 rfl rfl ?_
              refine J_iload_n (pc' := 83) dX6_sheet_82 rfl rfl ?_
              refine J_iload_n (pc' := 84) dX6_sheet_83 rfl rfl ?_
              refine J_if_ne 91 (pc' := 87) dX6_sheet_84 (by decide) rfl (fun h_84 => ?_) (fun h_84 => ?_)
              · refine J_iload_n (pc' := 92) dX6_sheet_91 rfl rfl ?_
                refine J_V3w (pc' := 95) dX6_sheet_92 lk_6_278 cd_X3_lay (k_X3_lay hs4) (ly_59) (l84_59) rfl rfl (jroom_of rfl) (Nat.le_of_ble_eq_true rfl) rfl (fun w92 hw92 => ?_)
                refine J_iconst (v := 1) (pc' := 96) dX6_sheet_95 (by decide) rfl ?_
                first | exact absurd h_1 h_48 | exact absurd h_1 h_62 | exact absurd h_1 h_84 | exact absurd h_48 h_1 | exact absurd h_48 h_62 | exact absurd h_48 h_84 | exact absurd h_62 h_1 | exact absurd h_62 h_48 | exact absurd h_62 h_84 | exact absurd h_84 h_1 | exact absurd h_84 h_48 | exact absurd h_84 h_62 | exact J_iret dX6_sheet_96  (by unfold sq_sheet; rw [if_pos hC, if_neg (fun q => by first | exact q.1 h_48 | exact Int32.not_le.mpr q.2 h_52), if_neg (fun q => by first | exact q.1 h_62 | exact Int32.not_le.mpr q.2 h_68), nn_nI (by omega)]; first | (rw [if_pos h_84]; exact ⟨rfl, bq_sh hX hw92.2 hw92.1⟩) | (rw [if_neg h_84]; exact ⟨rfl, bq_sh hX hw92.2 hw92.1⟩))
              · refine J_iconst (v := 0) (pc' := 88) dX6_sheet_87 (by decide) rfl ?_
                refine J_goto (pc' := 0) 92 dX6_sheet_88 (by decide) ?_
                refine J_V3w (pc' := 95) dX6_sheet_92 lk_6_278 cd_X3_lay (k_X3_lay hs4) (ly_59) (l84_59) rfl rfl (jroom_of rfl) (Nat.le_of_ble_eq_true rfl) rfl (fun w92 hw92 => ?_)
                refine J_iconst (v := 1) (pc' := 96) dX6_sheet_95 (by decide) rfl ?_
                first | exact absurd h_1 h_48 | exact absurd h_1 h_62 | exact absurd h_1 h_84 | exact absurd h_48 h_1 | exact absurd h_48 h_62 | exact absurd h_48 h_84 | exact absurd h_62 h_1 | exact absurd h_62 h_48 | exact absurd h_62 h_84 | exact absurd h_84 h_1 | exact absurd h_84 h_48 | exact absurd h_84 h_62 | exact J_iret dX6_sheet_96  (by unfold sq_sheet; rw [if_pos hC, if_neg (fun q => by first | exact q.1 h_48 | exact Int32.not_le.mpr q.2 h_52), if_neg (fun q => by first | exact q.1 h_62 | exact Int32.not_le.mpr q.2 h_68), nn_nI (by omega)]; first | (rw [if_pos h_84]; exact ⟨rfl, bq_sh hX hw92.2 hw92.1⟩) | (rw [if_neg h_84]; exact ⟨rfl, bq_sh hX hw92.2 hw92.1⟩))
            · refine J_iload_n (pc' := 66) dX6_sheet_65 rfl rfl ?_
              refine J_bipush (v := 24) (pc' := 68) dX6_sheet_66 (by decide) rfl ?_
              refine J_icmp_le 77 (pc' := 71) dX6_sheet_68 (by decide) rfl (fun h_68 => ?_) (fun h_68 => ?_)
              · refine J_aload_n (pc' := 78) dX6_sheet_77 rfl rfl ?_
                refine J_getR (pc' := 81) dX6_sheet_78 fl_6_52 (ly_0) (l84_0) rfl rfl ?_
                refine J_iload_n (pc' := 82) dX6_sheet_81 rfl rfl ?_
                refine J_iload_n (pc' := 83) dX6_sheet_82 rfl rfl ?_
                refine J_iload_n (pc' := 84) dX6_sheet_83 rfl rfl ?_
                refine J_if_ne 91 (pc' := 87) dX6_sheet_84 (by decide) rfl (fun h_84 => ?_) (fun h_84 => ?_)
                · refine J_iload_n (pc' := 92) dX6_sheet_91 rfl rfl ?_
                  refine J_V3w (pc' := 95) dX6_sheet_92 lk_6_278 cd_X3_lay (k_X3_lay hs4) (ly_59) (l84_59) rfl rfl (jroom_of rfl) (Nat.le_of_ble_eq_true rfl) rfl (fun w92 hw92 => ?_)
                  refine J_iconst (v := 1) (pc' := 96) dX6_sheet_95 (by decide) rfl ?_
                  first | exact absurd h_1 h_48 | exact absurd h_1 h_62 | exact absurd h_1 h_84 | exact absurd h_48 h_1 | exact absurd h_48 h_62 | exact absurd h_48 h_84 | exact absurd h_62 h_1 | exact absurd h_62 h_48 | exact absurd h_62 h_84 | exact absurd h_84 h_1 | exact absurd h_84 h_48 | exact absurd h_84 h_62 | exact J_iret dX6_sheet_96  (by unfold sq_sheet; rw [if_pos hC, if_neg (fun q => by first | exact q.1 h_48 | exact Int32.not_le.mpr q.2 h_52), if_neg (fun q => by first | exact q.1 h_62 | exact Int32.not_le.mpr q.2 h_68), nn_nI (by omega)]; first | (rw [if_pos h_84]; exact ⟨rfl, bq_sh hX hw92.2 hw92.1⟩) | (rw [if_neg h_84]; exact ⟨rfl, bq_sh hX hw92.2 hw92.1⟩))
                · refine J_iconst (v := 0) (pc' := 88) dX6_sheet_87 (by decide) rfl ?_
                  refine J_goto (pc' := 0) 92 dX6_sheet_88 (by decide) ?_
                  refine J_V3w (pc' := 95) dX6_sheet_92 lk_6_278 cd_X3_lay (k_X3_lay hs4) (ly_59) (l84_59) rfl rfl (jroom_of rfl) (Nat.le_of_ble_eq_true rfl) rfl (fun w92 hw92 => ?_)
                  refine J_iconst (v := 1) (pc' := 96) dX6_sheet_95 (by decide) rfl ?_
                  first | exact absurd h_1 h_48 | exact absurd h_1 h_62 | exact absurd h_1 h_84 | exact absurd h_48 h_1 | exact absurd h_48 h_62 | exact absurd h_48 h_84 | exact absurd h_62 h_1 | exact absurd h_62 h_48 | exact absurd h_62 h_84 | exact absurd h_84 h_1 | exact absurd h_84 h_48 | exact absurd h_84 h_62 | exact J_iret dX6_sheet_96  (by unfold sq_sheet; rw [if_pos hC, if_neg (fun q => by first | exact q.1 h_48 | exact Int32.not_le.mpr q.2 h_52), if_neg (fun q => by first | exact q.1 h_62 | exact Int32.not_le.mpr q.2 h_68), nn_nI (by omega)]; first | (rw [if_pos h_84]; exact ⟨rfl, bq_sh hX hw92.2 hw92.1⟩) | (rw [if_neg h_84]; exact ⟨rfl, bq_sh hX hw92.2 hw92.1⟩))
              · refine J_aload_n (pc' := 72) dX6_sheet_71 rfl rfl ?_
                refine J_iconst (v := 1) (pc' := 73) dX6_sheet_72 (by decide) rfl ?_
                refine J_V1v (pc' := 76) dX6_sheet_73 lk_6_69 cd_X6_error (k_err1) (ly_0) (l84_0) rfl rfl (jroom_of rfl) (Nat.le_of_ble_eq_true rfl) rfl ?_
                first | exact absurd h_1 h_48 | exact absurd h_1 h_62 | exact absurd h_1 h_84 | exact absurd h_48 h_1 | exact absurd h_48 h_62 | exact absurd h_48 h_84 | exact absurd h_62 h_1 | exact absurd h_62 h_48 | exact absurd h_62 h_84 | exact absurd h_84 h_1 | exact absurd h_84 h_48 | exact absurd h_84 h_62 | exact J_iret dX6_sheet_76  (by unfold sq_sheet; rw [if_pos hC, if_neg (fun q => by first | exact q.1 h_48 | exact Int32.not_le.mpr q.2 h_52), if_pos ⟨h_62, Int32.not_le.mp h_68⟩]; exact ⟨rfl, bq_err hX (by decide)⟩)
          · refine J_aload_n (pc' := 56) dX6_sheet_55 rfl rfl ?_
            refine J_iconst (v := 3) (pc' := 57) dX6_sheet_56 (by decide) rfl ?_
            refine J_V1v (pc' := 60) dX6_sheet_57 lk_6_69 cd_X6_error (k_err3) (ly_0) (l84_0) rfl rfl (jroom_of rfl) (Nat.le_of_ble_eq_true rfl) rfl ?_
            first | exact absurd h_1 h_48 | exact absurd h_1 h_62 | exact absurd h_1 h_84 | exact absurd h_48 h_1 | exact absurd h_48 h_62 | exact absurd h_48 h_84 | exact absurd h_62 h_1 | exact absurd h_62 h_48 | exact absurd h_62 h_84 | exact absurd h_84 h_1 | exact absurd h_84 h_48 | exact absurd h_84 h_62 | exact J_iret dX6_sheet_60  (by unfold sq_sheet; rw [if_pos hC, if_pos ⟨by first | exact h_48 | exact fun q => h_48 q, Int32.not_le.mp h_52⟩]; exact ⟨rfl, bq_err hX (by decide)⟩)
    · refine J_iload_n (pc' := 11) dX6_sheet_10 rfl rfl ?_
      refine J_bipush (v := 16) (pc' := 13) dX6_sheet_11 (by decide) rfl ?_
      refine J_icmp_eq 22 (pc' := 16) dX6_sheet_13 (by decide) rfl (fun h_13 => ?_) (fun h_13 => ?_)
      · have hb4 : sBit b := by first | exact Or.inl h_1 | exact Or.inr (Or.inl h_7) | exact Or.inr (Or.inr (Or.inl h_13)) | exact Or.inr (Or.inr (Or.inr h_19)) | exact Or.inr (Or.inr (Or.inr (Decidable.not_not.mp h_19)))
        refine J_iconst (v := 1) (pc' := 23) dX6_sheet_22 (by decide) rfl ?_
        refine J_goto (pc' := 0) 27 dX6_sheet_23 (by decide) ?_
        refine J_istore (pc' := 29) dX6_sheet_27 (Nat.le_of_ble_eq_true rfl) (jst4 rfl rfl) rfl ?_
        refine J_iload_n (pc' := 30) dX6_sheet_29 rfl rfl ?_
        refine J_S1v (pc' := 33) dX6_sheet_30 lk_6_255 cd_X6_isSheet (k_X6_isSheet) (jroom_of rfl) (Nat.le_of_ble_eq_true rfl) rfl ?_
        refine J_if_eq 41 (pc' := 36) dX6_sheet_33 (by decide) rfl (fun h_33 => ?_) (fun h_33 => ?_)
        · refine J_aload_n (pc' := 42) dX6_sheet_41 rfl rfl ?_
          refine J_iconst (v := 1) (pc' := 43) dX6_sheet_42 (by decide) rfl ?_
          refine J_V1v (pc' := 46) dX6_sheet_43 lk_6_69 cd_X6_error (k_err1) (ly_0) (l84_0) rfl rfl (jroom_of rfl) (Nat.le_of_ble_eq_true rfl) rfl ?_
          exact J_iret dX6_sheet_46  (by unfold sq_sheet; rw [if_neg (fun q => by first | exact jb_0.mp h_33 q.1 | exact hb4 q.2)]; exact ⟨rfl, bq_err hX (by decide)⟩)
        · refine J_iload (pc' := 38) dX6_sheet_36 rfl rfl ?_
          refine J_if_ne 47 (pc' := 41) dX6_sheet_38 (by decide) rfl (fun h_38 => ?_) (fun h_38 => absurd h_38 (by decide))
          obtain ⟨s, hs3, rfl⟩ := rng0_ex (n := 3) (by omega) (jb_n h_33)
          have hs4 : s < 4 := by omega
          have hC : (0 ≤ nI s ∧ nI s ≤ 3) ∧ sBit b := ⟨jb_n h_33, hb4⟩
          refine J_iload_n (pc' := 48) dX6_sheet_47 rfl rfl ?_
          refine J_if_eq 61 (pc' := 51) dX6_sheet_48 (by decide) rfl (fun h_48 => ?_) (fun h_48 => ?_)
          · refine J_iload_n (pc' := 62) dX6_sheet_61 rfl rfl ?_
            refine J_if_eq 77 (pc' := 65) dX6_sheet_62 (by decide) rfl (fun h_62 => ?_) (fun h_62 => ?_)
            · refine J_aload_n (pc' := 78) dX6_sheet_77 rfl rfl ?_
              refine J_getR (pc' := 81) dX6_sheet_78 fl_6_52 (ly_0) (l84_0) rfl rfl ?_
              refine J_iload_n (pc' := 82) dX6_sheet_81 rfl rfl ?_
              refine J_iload_n (pc' := 83) dX6_sheet_82 rfl rfl ?_
              refine J_iload_n (pc' := 84) dX6_sheet_83 rfl rfl ?_
              refine J_if_ne 91 (pc' := 87) dX6_sheet_84 (by decide) rfl (fun h_84 => ?_) (fun h_84 => ?_)
              · refine J_iload_n (pc' := 92) dX6_sheet_91 rfl rfl ?_
                refine J_V3w (pc' := 95) dX6_sheet_92 lk_6_278 cd_X3_lay (k_X3_lay hs4) (ly_59) (l84_59) rfl rfl (jroom_of rfl) (Nat.le_of_ble_eq_true rfl) rfl (fun w92 hw92 => ?_)
                refine J_iconst (v := 1) (pc' := 96) dX6_sheet_95 (by decide) rfl ?_
                first | exact absurd h_1 h_48 | exact absurd h_1 h_62 | exact absurd h_1 h_84 | exact absurd h_48 h_1 | exact absurd h_48 h_62 | exact absurd h_48 h_84 | exact absurd h_62 h_1 | exact absurd h_62 h_48 | exact absurd h_62 h_84 | exact absurd h_84 h_1 | exact absurd h_84 h_48 | exact absurd h_84 h_62 | exact J_iret dX6_sheet_96  (by unfold sq_sheet; rw [if_pos hC, if_neg (fun q => by first | exact q.1 h_48 | exact Int32.not_le.mpr q.2 h_52), if_neg (fun q => by first | exact q.1 h_62 | exact Int32.not_le.mpr q.2 h_68), nn_nI (by omega)]; first | (rw [if_pos h_84]; exact ⟨rfl, bq_sh hX hw92.2 hw92.1⟩) | (rw [if_neg h_84]; exact ⟨rfl, bq_sh hX hw92.2 hw92.1⟩))
              · refine J_iconst (v := 0) (pc' := 88) dX6_sheet_87 (by decide) rfl ?_
                refine J_goto (pc' := 0) 92 dX6_sheet_88 (by decide) ?_
                refine J_V3w (pc' := 95) dX6_sheet_92 lk_6_278 cd_X3_lay (k_X3_lay hs4) (ly_59) (l84_59) rfl rfl (jroom_of rfl) (Nat.le_of_ble_eq_true rfl) rfl (fun w92 hw92 => ?_)
                refine J_iconst (v := 1) (pc' := 96) dX6_sheet_95 (by decide) rfl ?_
                first | exact absurd h_1 h_48 | exact absurd h_1 h_62 | exact absurd h_1 h_84 | exact absurd h_48 h_1 | exact absurd h_48 h_62 | exact absurd h_48 h_84 | exact absurd h_62 h_1 | exact absurd h_62 h_48 | exact absurd h_62 h_84 | exact absurd h_84 h_1 | exact absurd h_84 h_48 | exact absurd h_84 h_62 | exact J_iret dX6_sheet_96  (by unfold sq_sheet; rw [if_pos hC, if_neg (fun q => by first | exact q.1 h_48 | exact Int32.not_le.mpr q.2 h_52), if_neg (fun q => by first | exact q.1 h_62 | exact Int32.not_le.mpr q.2 h_68), nn_nI (by omega)]; first | (rw [if_pos h_84]; exact ⟨rfl, bq_sh hX hw92.2 hw92.1⟩) | (rw [if_neg h_84]; exact ⟨rfl, bq_sh hX hw92.2 hw92.1⟩))
            · refine J_iload_n (pc' := 66) dX6_sheet_65 rfl rfl ?_
              refine J_bipush (v := 24) (pc' := 68) dX6_sheet_66 (by decide) rfl ?_
              refine J_icmp_le 77 (pc' := 71) dX6_sheet_68 (by decide) rfl (fun h_68 => ?_) (fun h_68 => ?_)
              · refine J_aload_n (pc' := 78) dX6_sheet_77 rfl rfl ?_
                refine J_getR (pc' := 81) dX6_sheet_78 fl_6_52 (ly_0) (l84_0) rfl rfl ?_
                refine J_iload_n (pc' := 82) dX6_sheet_81 rfl rfl ?_
                refine J_iload_n (pc' := 83) dX6_sheet_82 rfl rfl ?_
                refine J_iload_n (pc' := 84) dX6_sheet_83 rfl rfl ?_
                refine J_if_ne 91 (pc' := 87) dX6_sheet_84 (by decide) rfl (fun h_84 => ?_) (fun h_84 => ?_)
                · refine J_iload_n (pc' := 92) dX6_sheet_91 rfl rfl ?_
                  refine J_V3w (pc' := 95) dX6_sheet_92 lk_6_278 cd_X3_lay (k_X3_lay hs4) (ly_59) (l84_59) rfl rfl (jroom_of rfl) (Nat.le_of_ble_eq_true rfl) rfl (fun w92 hw92 => ?_)
                  refine J_iconst (v := 1) (pc' := 96) dX6_sheet_95 (by decide) rfl ?_
                  first | exact absurd h_1 h_48 | exact absurd h_1 h_62 | exact absurd h_1 h_84 | exact absurd h_48 h_1 | exact absurd h_48 h_62 | exact absurd h_48 h_84 | exact absurd h_62 h_1 | exact absurd h_62 h_48 | exact absurd h_62 h_84 | exact absurd h_84 h_1 | exact absurd h_84 h_48 | exact absurd h_84 h_62 | exact J_iret dX6_sheet_96  (by unfold sq_sheet; rw [if_pos hC, if_neg (fun q => by first | exact q.1 h_48 | exact Int32.not_le.mpr q.2 h_52), if_neg (fun q => by first | exact q.1 h_62 | exact Int32.not_le.mpr q.2 h_68), nn_nI (by omega)]; first | (rw [if_pos h_84]; exact ⟨rfl, bq_sh hX hw92.2 hw92.1⟩) | (rw [if_neg h_84]; exact ⟨rfl, bq_sh hX hw92.2 hw92.1⟩))
                · refine J_iconst (v := 0) (pc' := 88) dX6_sheet_87 (by decide) rfl ?_
                  refine J_goto (pc' := 0) 92 dX6_sheet_88 (by decide) ?_
                  refine J_V3w (pc' := 95) dX6_sheet_92 lk_6_278 cd_X3_lay (k_X3_lay hs4) (ly_59) (l84_59) rfl rfl (jroom_of rfl) (Nat.le_of_ble_eq_true rfl) rfl (fun w92 hw92 => ?_)
                  refine J_iconst (v := 1) (pc' := 96) dX6_sheet_95 (by decide) rfl ?_
                  first | exact absurd h_1 h_48 | exact absurd h_1 h_62 | exact absurd h_1 h_84 | exact absurd h_48 h_1 | exact absurd h_48 h_62 | exact absurd h_48 h_84 | exact absurd h_62 h_1 | exact absurd h_62 h_48 | exact absurd h_62 h_84 | exact absurd h_84 h_1 | exact absurd h_84 h_48 | exact absurd h_84 h_62 | exact J_iret dX6_sheet_96  (by unfold sq_sheet; rw [if_pos hC, if_neg (fun q => by first | exact q.1 h_48 | exact Int32.not_le.mpr q.2 h_52), if_neg (fun q => by first | exact q.1 h_62 | exact Int32.not_le.mpr q.2 h_68), nn_nI (by omega)]; first | (rw [if_pos h_84]; exact ⟨rfl, bq_sh hX hw92.2 hw92.1⟩) | (rw [if_neg h_84]; exact ⟨rfl, bq_sh hX hw92.2 hw92.1⟩))
              · refine J_aload_n (pc' := 72) dX6_sheet_71 rfl rfl ?_
                refine J_iconst (v := 1) (pc' := 73) dX6_sheet_72 (by decide) rfl ?_
                refine J_V1v (pc' := 76) dX6_sheet_73 lk_6_69 cd_X6_error (k_err1) (ly_0) (l84_0) rfl rfl (jroom_of rfl) (Nat.le_of_ble_eq_true rfl) rfl ?_
                first | exact absurd h_1 h_48 | exact absurd h_1 h_62 | exact absurd h_1 h_84 | exact absurd h_48 h_1 | exact absurd h_48 h_62 | exact absurd h_48 h_84 | exact absurd h_62 h_1 | exact absurd h_62 h_48 | exact absurd h_62 h_84 | exact absurd h_84 h_1 | exact absurd h_84 h_48 | exact absurd h_84 h_62 | exact J_iret dX6_sheet_76  (by unfold sq_sheet; rw [if_pos hC, if_neg (fun q => by first | exact q.1 h_48 | exact Int32.not_le.mpr q.2 h_52), if_pos ⟨h_62, Int32.not_le.mp h_68⟩]; exact ⟨rfl, bq_err hX (by decide)⟩)
          · refine J_iload_n (pc' := 52) dX6_sheet_51 rfl rfl ?_
            refine J_if_ge 61 (pc' := 55) dX6_sheet_52 (by decide) rfl (fun h_52 => ?_) (fun h_52 => ?_)
            · refine J_iload_n (pc' := 62) dX6_sheet_61 rfl rfl ?_
              refine J_if_eq 77 (pc' := 65) dX6_sheet_62 (by decide) rfl (fun h_62 => ?_) (fun h_62 => ?_)
              · refine J_aload_n (pc' := 78) dX6_sheet_77 rfl rfl ?_
                refine J_getR (pc' := 81) dX6_sheet_78 fl_6_52 (ly_0) (l84_0) rfl rfl ?_
                refine J_iload_n (pc' := 82) dX6_sheet_81 rfl rfl ?_
                refine J_iload_n (pc' := 83) dX6_sheet_82 rfl rfl ?_
                refine J_iload_n (pc' := 84) dX6_sheet_83 rfl rfl ?_
                refine J_if_ne 91 (pc' := 87) dX6_sheet_84 (by decide) rfl (fun h_84 => ?_) (fun h_84 => ?_)
                · refine J_iload_n (pc' := 92) dX6_sheet_91 rfl rfl ?_
                  refine J_V3w (pc' := 95) dX6_sheet_92 lk_6_278 cd_X3_lay (k_X3_lay hs4) (ly_59) (l84_59) rfl rfl (jroom_of rfl) (Nat.le_of_ble_eq_true rfl) rfl (fun w92 hw92 => ?_)
                  refine J_iconst (v := 1) (pc' := 96) dX6_sheet_95 (by decide) rfl ?_
                  first | exact absurd h_1 h_48 | exact absurd h_1 h_62 | exact absurd h_1 h_84 | exact absurd h_48 h_1 | exact absurd h_48 h_62 | exact absurd h_48 h_84 | exact absurd h_62 h_1 | exact absurd h_62 h_48 | exact absurd h_62 h_84 | exact absurd h_84 h_1 | exact absurd h_84 h_48 | exact absurd h_84 h_62 | exact J_iret dX6_sheet_96  (by unfold sq_sheet; rw [if_pos hC, if_neg (fun q => by first | exact q.1 h_48 | exact Int32.not_le.mpr q.2 h_52), if_neg (fun q => by first | exact q.1 h_62 | exact Int32.not_le.mpr q.2 h_68), nn_nI (by omega)]; first | (rw [if_pos h_84]; exact ⟨rfl, bq_sh hX hw92.2 hw92.1⟩) | (rw [if_neg h_84]; exact ⟨rfl, bq_sh hX hw92.2 hw92.1⟩))
                · refine J_iconst (v := 0) (pc' := 88) dX6_sheet_87 (by decide) rfl ?_
                  refine J_goto (pc' := 0) 92 dX6_sheet_88 (by decide) ?_
                  refine J_V3w (pc' := 95) dX6_sheet_92 lk_6_278 cd_X3_lay (k_X3_lay hs4) (ly_59) (l84_59) rfl rfl (jroom_of rfl) (Nat.le_of_ble_eq_true rfl) rfl (fun w92 hw92 => ?_)
                  refine J_iconst (v := 1) (pc' := 96) dX6_sheet_95 (by decide) rfl ?_
                  first | exact absurd h_1 h_48 | exact absurd h_1 h_62 | exact absurd h_1 h_84 | exact absurd h_48 h_1 | exact absurd h_48 h_62 | exact absurd h_48 h_84 | exact absurd h_62 h_1 | exact absurd h_62 h_48 | exact absurd h_62 h_84 | exact absurd h_84 h_1 | exact absurd h_84 h_48 | exact absurd h_84 h_62 | exact J_iret dX6_sheet_96  (by unfold sq_sheet; rw [if_pos hC, if_neg (fun q => by first | exact q.1 h_48 | exact Int32.not_le.mpr q.2 h_52), if_neg (fun q => by first | exact q.1 h_62 | exact Int32.not_le.mpr q.2 h_68), nn_nI (by omega)]; first | (rw [if_pos h_84]; exact ⟨rfl, bq_sh hX hw92.2 hw92.1⟩) | (rw [if_neg h_84]; exact ⟨rfl, bq_sh hX hw92.2 hw92.1⟩))
              · refine J_iload_n (pc' := 66) dX6_sheet_65 rfl rfl ?_
                refine J_bipush (v := 24) (pc' := 68) dX6_sheet_66 (by decide) rfl ?_
                refine J_icmp_le 77 (pc' := 71) dX6_sheet_68 (by decide) rfl (fun h_68 => ?_) (fun h_68 => ?_)
                · refine J_aload_n (pc' := 78) dX6_sheet_77 rfl rfl ?_
                  refine J_getR (pc' := 81) dX6_sheet_78 fl_6_52 (ly_0) (l84_0) rfl rfl ?_
                  refine J_iload_n (pc' := 82) dX6_sheet_81 rfl rfl ?_
                  refine J_iload_n (pc' := 83) dX6_sheet_82 rfl rfl ?_
                  refine J_iload_n (pc' := 84) dX6_sheet_83 rfl rfl ?_
                  refine J_if_ne 91 (pc' := 87) dX6_sheet_84 (by decide) rfl (fun h_84 => ?_) (fun h_84 => ?_)
                  · refine J_iload_n (pc' := 92) dX6_sheet_91 rfl rfl ?_
                    refine J_V3w (pc' := 95) dX6_sheet_92 lk_6_278 cd_X3_lay (k_X3_lay hs4) (ly_59) (l84_59) rfl rfl (jroom_of rfl) (Nat.le_of_ble_eq_true rfl) rfl (fun w92 hw92 => ?_)
                    refine J_iconst (v := 1) (pc' := 96) dX6_sheet_95 (by decide) rfl ?_
                    first | exact absurd h_1 h_48 | exact absurd h_1 h_62 | exact absurd h_1 h_84 | exact absurd h_48 h_1 | exact absurd h_48 h_62 | exact absurd h_48 h_84 | exact absurd h_62 h_1 | exact absurd h_62 h_48 | exact absurd h_62 h_84 | exact absurd h_84 h_1 | exact absurd h_84 h_48 | exact absurd h_84 h_62 | exact J_iret dX6_sheet_96  (by unfold sq_sheet; rw [if_pos hC, if_neg (fun q => by first | exact q.1 h_48 | exact Int32.not_le.mpr q.2 h_52), if_neg (fun q => by first | exact q.1 h_62 | exact Int32.not_le.mpr q.2 h_68), nn_nI (by omega)]; first | (rw [if_pos h_84]; exact ⟨rfl, bq_sh hX hw92.2 hw92.1⟩) | (rw [if_neg h_84]; exact ⟨rfl, bq_sh hX hw92.2 hw92.1⟩))
                  · refine J_iconst (v := 0) (pc' := 88) dX6_sheet_87 (by decide) rfl ?_
                    refine J_goto (pc' := 0) 92 dX6_sheet_88 (by decide) ?_
                    refine J_V3w (pc' := 95) dX6_sheet_92 lk_6_278 cd_X3_lay (k_X3_lay hs4) (ly_59) (l84_59) rfl rfl (jroom_of rfl) (Nat.le_of_ble_eq_true rfl) rfl (fun w92 hw92 => ?_)
                    refine J_iconst (v := 1) (pc' := 96) dX6_sheet_95 (by decide) rfl ?_
                    first | exact absurd h_1 h_48 | exact absurd h_1 h_62 | exact absurd h_1 h_84 | exact absurd h_48 h_1 | exact absurd h_48 h_62 | exact absurd h_48 h_84 | exact absurd h_62 h_1 | exact absurd h_62 h_48 | exact absurd h_62 h_84 | exact absurd h_84 h_1 | exact absurd h_84 h_48 | exact absurd h_84 h_62 | exact J_iret dX6_sheet_96  (by unfold sq_sheet; rw [if_pos hC, if_neg (fun q => by first | exact q.1 h_48 | exact Int32.not_le.mpr q.2 h_52), if_neg (fun q => by first | exact q.1 h_62 | exact Int32.not_le.mpr q.2 h_68), nn_nI (by omega)]; first | (rw [if_pos h_84]; exact ⟨rfl, bq_sh hX hw92.2 hw92.1⟩) | (rw [if_neg h_84]; exact ⟨rfl, bq_sh hX hw92.2 hw92.1⟩))
                · refine J_aload_n (pc' := 72) dX6_sheet_71 rfl rfl ?_
                  refine J_iconst (v := 1) (pc' := 73) dX6_sheet_72 (by decide) rfl ?_
                  refine J_V1v (pc' := 76) dX6_sheet_73 lk_6_69 cd_X6_error (k_err1) (ly_0) (l84_0) rfl rfl (jroom_of rfl) (Nat.le_of_ble_eq_true rfl) rfl ?_
                  first | exact absurd h_1 h_48 | exact absurd h_1 h_62 | exact absurd h_1 h_84 | exact absurd h_48 h_1 | exact absurd h_48 h_62 | exact absurd h_48 h_84 | exact absurd h_62 h_1 | exact absurd h_62 h_48 | exact absurd h_62 h_84 | exact absurd h_84 h_1 | exact absurd h_84 h_48 | exact absurd h_84 h_62 | exact J_iret dX6_sheet_76  (by unfold sq_sheet; rw [if_pos hC, if_neg (fun q => by first | exact q.1 h_48 | exact Int32.not_le.mpr q.2 h_52), if_pos ⟨h_62, Int32.not_le.mp h_68⟩]; exact ⟨rfl, bq_err hX (by decide)⟩)
            · refine J_aload_n (pc' := 56) dX6_sheet_55 rfl rfl ?_
              refine J_iconst (v := 3) (pc' := 57) dX6_sheet_56 (by decide) rfl ?_
              refine J_V1v (pc' := 60) dX6_sheet_57 lk_6_69 cd_X6_error (k_err3) (ly_0) (l84_0) rfl rfl (jroom_of rfl) (Nat.le_of_ble_eq_true rfl) rfl ?_
              first | exact absurd h_1 h_48 | exact absurd h_1 h_62 | exact absurd h_1 h_84 | exact absurd h_48 h_1 | exact absurd h_48 h_62 | exact absurd h_48 h_84 | exact absurd h_62 h_1 | exact absurd h_62 h_48 | exact absurd h_62 h_84 | exact absurd h_84 h_1 | exact absurd h_84 h_48 | exact absurd h_84 h_62 | exact J_iret dX6_sheet_60  (by unfold sq_sheet; rw [if_pos hC, if_pos ⟨by first | exact h_48 | exact fun q => h_48 q, Int32.not_le.mp h_52⟩]; exact ⟨rfl, bq_err hX (by decide)⟩)
      · refine J_iload_n (pc' := 17) dX6_sheet_16 rfl rfl ?_
        refine J_bipush (v := 32) (pc' := 19) dX6_sheet_17 (by decide) rfl ?_
        refine J_icmp_ne 26 (pc' := 22) dX6_sheet_19 (by decide) rfl (fun h_19 => ?_) (fun h_19 => ?_)
        · have hb4 : ¬ sBit b := fun q => by rcases q with q | q | q | q; exact h_1 q; exact h_7 q; exact h_13 q; exact h_19 q
          refine J_iconst (v := 0) (pc' := 27) dX6_sheet_26 (by decide) rfl ?_
          refine J_istore (pc' := 29) dX6_sheet_27 (Nat.le_of_ble_eq_true rfl) (jst4 rfl rfl) rfl ?_
          refine J_iload_n (pc' := 30) dX6_sheet_29 rfl rfl ?_
          refine J_S1v (pc' := 33) dX6_sheet_30 lk_6_255 cd_X6_isSheet (k_X6_isSheet) (jroom_of rfl) (Nat.le_of_ble_eq_true rfl) rfl ?_
          refine J_if_eq 41 (pc' := 36) dX6_sheet_33 (by decide) rfl (fun h_33 => ?_) (fun h_33 => ?_)
          · refine J_aload_n (pc' := 42) dX6_sheet_41 rfl rfl ?_
            refine J_iconst (v := 1) (pc' := 43) dX6_sheet_42 (by decide) rfl ?_
            refine J_V1v (pc' := 46) dX6_sheet_43 lk_6_69 cd_X6_error (k_err1) (ly_0) (l84_0) rfl rfl (jroom_of rfl) (Nat.le_of_ble_eq_true rfl) rfl ?_
            exact J_iret dX6_sheet_46  (by unfold sq_sheet; rw [if_neg (fun q => by first | exact jb_0.mp h_33 q.1 | exact hb4 q.2)]; exact ⟨rfl, bq_err hX (by decide)⟩)
          · refine J_iload (pc' := 38) dX6_sheet_36 rfl rfl ?_
            refine J_if_ne 47 (pc' := 41) dX6_sheet_38 (by decide) rfl (fun h_38 => absurd (by decide) h_38) (fun h_38 => ?_)
            refine J_aload_n (pc' := 42) dX6_sheet_41 rfl rfl ?_
            refine J_iconst (v := 1) (pc' := 43) dX6_sheet_42 (by decide) rfl ?_
            refine J_V1v (pc' := 46) dX6_sheet_43 lk_6_69 cd_X6_error (k_err1) (ly_0) (l84_0) rfl rfl (jroom_of rfl) (Nat.le_of_ble_eq_true rfl) rfl ?_
            exact J_iret dX6_sheet_46  (by unfold sq_sheet; rw [if_neg (fun q => by first | exact jb_0.mp h_33 q.1 | exact hb4 q.2)]; exact ⟨rfl, bq_err hX (by decide)⟩)
        · have hb4 : sBit b := by first | exact Or.inl h_1 | exact Or.inr (Or.inl h_7) | exact Or.inr (Or.inr (Or.inl h_13)) | exact Or.inr (Or.inr (Or.inr h_19)) | exact Or.inr (Or.inr (Or.inr (Decidable.not_not.mp h_19)))
          refine J_iconst (v := 1) (pc' := 23) dX6_sheet_22 (by decide) rfl ?_
          refine J_goto (pc' := 0) 27 dX6_sheet_23 (by decide) ?_
          refine J_istore (pc' := 29) dX6_sheet_27 (Nat.le_of_ble_eq_true rfl) (jst4 rfl rfl) rfl ?_
          refine J_iload_n (pc' := 30) dX6_sheet_29 rfl rfl ?_
          refine J_S1v (pc' := 33) dX6_sheet_30 lk_6_255 cd_X6_isSheet (k_X6_isSheet) (jroom_of rfl) (Nat.le_of_ble_eq_true rfl) rfl ?_
          refine J_if_eq 41 (pc' := 36) dX6_sheet_33 (by decide) rfl (fun h_33 => ?_) (fun h_33 => ?_)
          · refine J_aload_n (pc' := 42) dX6_sheet_41 rfl rfl ?_
            refine J_iconst (v := 1) (pc' := 43) dX6_sheet_42 (by decide) rfl ?_
            refine J_V1v (pc' := 46) dX6_sheet_43 lk_6_69 cd_X6_error (k_err1) (ly_0) (l84_0) rfl rfl (jroom_of rfl) (Nat.le_of_ble_eq_true rfl) rfl ?_
            exact J_iret dX6_sheet_46  (by unfold sq_sheet; rw [if_neg (fun q => by first | exact jb_0.mp h_33 q.1 | exact hb4 q.2)]; exact ⟨rfl, bq_err hX (by decide)⟩)
          · refine J_iload (pc' := 38) dX6_sheet_36 rfl rfl ?_
            refine J_if_ne 47 (pc' := 41) dX6_sheet_38 (by decide) rfl (fun h_38 => ?_) (fun h_38 => absurd h_38 (by decide))
            obtain ⟨s, hs3, rfl⟩ := rng0_ex (n := 3) (by omega) (jb_n h_33)
            have hs4 : s < 4 := by omega
            have hC : (0 ≤ nI s ∧ nI s ≤ 3) ∧ sBit b := ⟨jb_n h_33, hb4⟩
            refine J_iload_n (pc' := 48) dX6_sheet_47 rfl rfl ?_
            refine J_if_eq 61 (pc' := 51) dX6_sheet_48 (by decide) rfl (fun h_48 => ?_) (fun h_48 => ?_)
            · refine J_iload_n (pc' := 62) dX6_sheet_61 rfl rfl ?_
              refine J_if_eq 77 (pc' := 65) dX6_sheet_62 (by decide) rfl (fun h_62 => ?_) (fun h_62 => ?_)
              · refine J_aload_n (pc' := 78) dX6_sheet_77 rfl rfl ?_
                refine J_getR (pc' := 81) dX6_sheet_78 fl_6_52 (ly_0) (l84_0) rfl rfl ?_
                refine J_iload_n (pc' := 82) dX6_sheet_81 rfl rfl ?_
                refine J_iload_n (pc' := 83) dX6_sheet_82 rfl rfl ?_
                refine J_iload_n (pc' := 84) dX6_sheet_83 rfl rfl ?_
                refine J_if_ne 91 (pc' := 87) dX6_sheet_84 (by decide) rfl (fun h_84 => ?_) (fun h_84 => ?_)
                · refine J_iload_n (pc' := 92) dX6_sheet_91 rfl rfl ?_
                  refine J_V3w (pc' := 95) dX6_sheet_92 lk_6_278 cd_X3_lay (k_X3_lay hs4) (ly_59) (l84_59) rfl rfl (jroom_of rfl) (Nat.le_of_ble_eq_true rfl) rfl (fun w92 hw92 => ?_)
                  refine J_iconst (v := 1) (pc' := 96) dX6_sheet_95 (by decide) rfl ?_
                  first | exact absurd h_1 h_48 | exact absurd h_1 h_62 | exact absurd h_1 h_84 | exact absurd h_48 h_1 | exact absurd h_48 h_62 | exact absurd h_48 h_84 | exact absurd h_62 h_1 | exact absurd h_62 h_48 | exact absurd h_62 h_84 | exact absurd h_84 h_1 | exact absurd h_84 h_48 | exact absurd h_84 h_62 | exact J_iret dX6_sheet_96  (by unfold sq_sheet; rw [if_pos hC, if_neg (fun q => by first | exact q.1 h_48 | exact Int32.not_le.mpr q.2 h_52), if_neg (fun q => by first | exact q.1 h_62 | exact Int32.not_le.mpr q.2 h_68), nn_nI (by omega)]; first | (rw [if_pos h_84]; exact ⟨rfl, bq_sh hX hw92.2 hw92.1⟩) | (rw [if_neg h_84]; exact ⟨rfl, bq_sh hX hw92.2 hw92.1⟩))
                · refine J_iconst (v := 0) (pc' := 88) dX6_sheet_87 (by decide) rfl ?_
                  refine J_goto (pc' := 0) 92 dX6_sheet_88 (by decide) ?_
                  refine J_V3w (pc' := 95) dX6_sheet_92 lk_6_278 cd_X3_lay (k_X3_lay hs4) (ly_59) (l84_59) rfl rfl (jroom_of rfl) (Nat.le_of_ble_eq_true rfl) rfl (fun w92 hw92 => ?_)
                  refine J_iconst (v := 1) (pc' := 96) dX6_sheet_95 (by decide) rfl ?_
                  first | exact absurd h_1 h_48 | exact absurd h_1 h_62 | exact absurd h_1 h_84 | exact absurd h_48 h_1 | exact absurd h_48 h_62 | exact absurd h_48 h_84 | exact absurd h_62 h_1 | exact absurd h_62 h_48 | exact absurd h_62 h_84 | exact absurd h_84 h_1 | exact absurd h_84 h_48 | exact absurd h_84 h_62 | exact J_iret dX6_sheet_96  (by unfold sq_sheet; rw [if_pos hC, if_neg (fun q => by first | exact q.1 h_48 | exact Int32.not_le.mpr q.2 h_52), if_neg (fun q => by first | exact q.1 h_62 | exact Int32.not_le.mpr q.2 h_68), nn_nI (by omega)]; first | (rw [if_pos h_84]; exact ⟨rfl, bq_sh hX hw92.2 hw92.1⟩) | (rw [if_neg h_84]; exact ⟨rfl, bq_sh hX hw92.2 hw92.1⟩))
              · refine J_iload_n (pc' := 66) dX6_sheet_65 rfl rfl ?_
                refine J_bipush (v := 24) (pc' := 68) dX6_sheet_66 (by decide) rfl ?_
                refine J_icmp_le 77 (pc' := 71) dX6_sheet_68 (by decide) rfl (fun h_68 => ?_) (fun h_68 => ?_)
                · refine J_aload_n (pc' := 78) dX6_sheet_77 rfl rfl ?_
                  refine J_getR (pc' := 81) dX6_sheet_78 fl_6_52 (ly_0) (l84_0) rfl rfl ?_
                  refine J_iload_n (pc' := 82) dX6_sheet_81 rfl rfl ?_
                  refine J_iload_n (pc' := 83) dX6_sheet_82 rfl rfl ?_
                  refine J_iload_n (pc' := 84) dX6_sheet_83 rfl rfl ?_
                  refine J_if_ne 91 (pc' := 87) dX6_sheet_84 (by decide) rfl (fun h_84 => ?_) (fun h_84 => ?_)
                  · refine J_iload_n (pc' := 92) dX6_sheet_91 rfl rfl ?_
                    refine J_V3w (pc' := 95) dX6_sheet_92 lk_6_278 cd_X3_lay (k_X3_lay hs4) (ly_59) (l84_59) rfl rfl (jroom_of rfl) (Nat.le_of_ble_eq_true rfl) rfl (fun w92 hw92 => ?_)
                    refine J_iconst (v := 1) (pc' := 96) dX6_sheet_95 (by decide) rfl ?_
                    first | exact absurd h_1 h_48 | exact absurd h_1 h_62 | exact absurd h_1 h_84 | exact absurd h_48 h_1 | exact absurd h_48 h_62 | exact absurd h_48 h_84 | exact absurd h_62 h_1 | exact absurd h_62 h_48 | exact absurd h_62 h_84 | exact absurd h_84 h_1 | exact absurd h_84 h_48 | exact absurd h_84 h_62 | exact J_iret dX6_sheet_96  (by unfold sq_sheet; rw [if_pos hC, if_neg (fun q => by first | exact q.1 h_48 | exact Int32.not_le.mpr q.2 h_52), if_neg (fun q => by first | exact q.1 h_62 | exact Int32.not_le.mpr q.2 h_68), nn_nI (by omega)]; first | (rw [if_pos h_84]; exact ⟨rfl, bq_sh hX hw92.2 hw92.1⟩) | (rw [if_neg h_84]; exact ⟨rfl, bq_sh hX hw92.2 hw92.1⟩))
                  · refine J_iconst (v := 0) (pc' := 88) dX6_sheet_87 (by decide) rfl ?_
                    refine J_goto (pc' := 0) 92 dX6_sheet_88 (by decide) ?_
                    refine J_V3w (pc' := 95) dX6_sheet_92 lk_6_278 cd_X3_lay (k_X3_lay hs4) (ly_59) (l84_59) rfl rfl (jroom_of rfl) (Nat.le_of_ble_eq_true rfl) rfl (fun w92 hw92 => ?_)
                    refine J_iconst (v := 1) (pc' := 96) dX6_sheet_95 (by decide) rfl ?_
                    first | exact absurd h_1 h_48 | exact absurd h_1 h_62 | exact absurd h_1 h_84 | exact absurd h_48 h_1 | exact absurd h_48 h_62 | exact absurd h_48 h_84 | exact absurd h_62 h_1 | exact absurd h_62 h_48 | exact absurd h_62 h_84 | exact absurd h_84 h_1 | exact absurd h_84 h_48 | exact absurd h_84 h_62 | exact J_iret dX6_sheet_96  (by unfold sq_sheet; rw [if_pos hC, if_neg (fun q => by first | exact q.1 h_48 | exact Int32.not_le.mpr q.2 h_52), if_neg (fun q => by first | exact q.1 h_62 | exact Int32.not_le.mpr q.2 h_68), nn_nI (by omega)]; first | (rw [if_pos h_84]; exact ⟨rfl, bq_sh hX hw92.2 hw92.1⟩) | (rw [if_neg h_84]; exact ⟨rfl, bq_sh hX hw92.2 hw92.1⟩))
                · refine J_aload_n (pc' := 72) dX6_sheet_71 rfl rfl ?_
                  refine J_iconst (v := 1) (pc' := 73) dX6_sheet_72 (by decide) rfl ?_
                  refine J_V1v (pc' := 76) dX6_sheet_73 lk_6_69 cd_X6_error (k_err1) (ly_0) (l84_0) rfl rfl (jroom_of rfl) (Nat.le_of_ble_eq_true rfl) rfl ?_
                  first | exact absurd h_1 h_48 | exact absurd h_1 h_62 | exact absurd h_1 h_84 | exact absurd h_48 h_1 | exact absurd h_48 h_62 | exact absurd h_48 h_84 | exact absurd h_62 h_1 | exact absurd h_62 h_48 | exact absurd h_62 h_84 | exact absurd h_84 h_1 | exact absurd h_84 h_48 | exact absurd h_84 h_62 | exact J_iret dX6_sheet_76  (by unfold sq_sheet; rw [if_pos hC, if_neg (fun q => by first | exact q.1 h_48 | exact Int32.not_le.mpr q.2 h_52), if_pos ⟨h_62, Int32.not_le.mp h_68⟩]; exact ⟨rfl, bq_err hX (by decide)⟩)
            · refine J_iload_n (pc' := 52) dX6_sheet_51 rfl rfl ?_
              refine J_if_ge 61 (pc' := 55) dX6_sheet_52 (by decide) rfl (fun h_52 => ?_) (fun h_52 => ?_)
              · refine J_iload_n (pc' := 62) dX6_sheet_61 rfl rfl ?_
                refine J_if_eq 77 (pc' := 65) dX6_sheet_62 (by decide) rfl (fun h_62 => ?_) (fun h_62 => ?_)
                · refine J_aload_n (pc' := 78) dX6_sheet_77 rfl rfl ?_
                  refine J_getR (pc' := 81) dX6_sheet_78 fl_6_52 (ly_0) (l84_0) rfl rfl ?_
                  refine J_iload_n (pc' := 82) dX6_sheet_81 rfl rfl ?_
                  refine J_iload_n (pc' := 83) dX6_sheet_82 rfl rfl ?_
                  refine J_iload_n (pc' := 84) dX6_sheet_83 rfl rfl ?_
                  refine J_if_ne 91 (pc' := 87) dX6_sheet_84 (by decide) rfl (fun h_84 => ?_) (fun h_84 => ?_)
                  · refine J_iload_n (pc' := 92) dX6_sheet_91 rfl rfl ?_
                    refine J_V3w (pc' := 95) dX6_sheet_92 lk_6_278 cd_X3_lay (k_X3_lay hs4) (ly_59) (l84_59) rfl rfl (jroom_of rfl) (Nat.le_of_ble_eq_true rfl) rfl (fun w92 hw92 => ?_)
                    refine J_iconst (v := 1) (pc' := 96) dX6_sheet_95 (by decide) rfl ?_
                    first | exact absurd h_1 h_48 | exact absurd h_1 h_62 | exact absurd h_1 h_84 | exact absurd h_48 h_1 | exact absurd h_48 h_62 | exact absurd h_48 h_84 | exact absurd h_62 h_1 | exact absurd h_62 h_48 | exact absurd h_62 h_84 | exact absurd h_84 h_1 | exact absurd h_84 h_48 | exact absurd h_84 h_62 | exact J_iret dX6_sheet_96  (by unfold sq_sheet; rw [if_pos hC, if_neg (fun q => by first | exact q.1 h_48 | exact Int32.not_le.mpr q.2 h_52), if_neg (fun q => by first | exact q.1 h_62 | exact Int32.not_le.mpr q.2 h_68), nn_nI (by omega)]; first | (rw [if_pos h_84]; exact ⟨rfl, bq_sh hX hw92.2 hw92.1⟩) | (rw [if_neg h_84]; exact ⟨rfl, bq_sh hX hw92.2 hw92.1⟩))
                  · refine J_iconst (v := 0) (pc' := 88) dX6_sheet_87 (by decide) rfl ?_
                    refine J_goto (pc' := 0) 92 dX6_sheet_88 (by decide) ?_
                    refine J_V3w (pc' := 95) dX6_sheet_92 lk_6_278 cd_X3_lay (k_X3_lay hs4) (ly_59) (l84_59) rfl rfl (jroom_of rfl) (Nat.le_of_ble_eq_true rfl) rfl (fun w92 hw92 => ?_)
                    refine J_iconst (v := 1) (pc' := 96) dX6_sheet_95 (by decide) rfl ?_
                    first | exact absurd h_1 h_48 | exact absurd h_1 h_62 | exact absurd h_1 h_84 | exact absurd h_48 h_1 | exact absurd h_48 h_62 | exact absurd h_48 h_84 | exact absurd h_62 h_1 | exact absurd h_62 h_48 | exact absurd h_62 h_84 | exact absurd h_84 h_1 | exact absurd h_84 h_48 | exact absurd h_84 h_62 | exact J_iret dX6_sheet_96  (by unfold sq_sheet; rw [if_pos hC, if_neg (fun q => by first | exact q.1 h_48 | exact Int32.not_le.mpr q.2 h_52), if_neg (fun q => by first | exact q.1 h_62 | exact Int32.not_le.mpr q.2 h_68), nn_nI (by omega)]; first | (rw [if_pos h_84]; exact ⟨rfl, bq_sh hX hw92.2 hw92.1⟩) | (rw [if_neg h_84]; exact ⟨rfl, bq_sh hX hw92.2 hw92.1⟩))
                · refine J_iload_n (pc' := 66) dX6_sheet_65 rfl rfl ?_
                  refine J_bipush (v := 24) (pc' := 68) dX6_sheet_66 (by decide) rfl ?_
                  refine J_icmp_le 77 (pc' := 71) dX6_sheet_68 (by decide) rfl (fun h_68 => ?_) (fun h_68 => ?_)
                  · refine J_aload_n (pc' := 78) dX6_sheet_77 rfl rfl ?_
                    refine J_getR (pc' := 81) dX6_sheet_78 fl_6_52 (ly_0) (l84_0) rfl rfl ?_
                    refine J_iload_n (pc' := 82) dX6_sheet_81 rfl rfl ?_
                    refine J_iload_n (pc' := 83) dX6_sheet_82 rfl rfl ?_
                    refine J_iload_n (pc' := 84) dX6_sheet_83 rfl rfl ?_
                    refine J_if_ne 91 (pc' := 87) dX6_sheet_84 (by decide) rfl (fun h_84 => ?_) (fun h_84 => ?_)
                    · refine J_iload_n (pc' := 92) dX6_sheet_91 rfl rfl ?_
                      refine J_V3w (pc' := 95) dX6_sheet_92 lk_6_278 cd_X3_lay (k_X3_lay hs4) (ly_59) (l84_59) rfl rfl (jroom_of rfl) (Nat.le_of_ble_eq_true rfl) rfl (fun w92 hw92 => ?_)
                      refine J_iconst (v := 1) (pc' := 96) dX6_sheet_95 (by decide) rfl ?_
                      first | exact absurd h_1 h_48 | exact absurd h_1 h_62 | exact absurd h_1 h_84 | exact absurd h_48 h_1 | exact absurd h_48 h_62 | exact absurd h_48 h_84 | exact absurd h_62 h_1 | exact absurd h_62 h_48 | exact absurd h_62 h_84 | exact absurd h_84 h_1 | exact absurd h_84 h_48 | exact absurd h_84 h_62 | exact J_iret dX6_sheet_96  (by unfold sq_sheet; rw [if_pos hC, if_neg (fun q => by first | exact q.1 h_48 | exact Int32.not_le.mpr q.2 h_52), if_neg (fun q => by first | exact q.1 h_62 | exact Int32.not_le.mpr q.2 h_68), nn_nI (by omega)]; first | (rw [if_pos h_84]; exact ⟨rfl, bq_sh hX hw92.2 hw92.1⟩) | (rw [if_neg h_84]; exact ⟨rfl, bq_sh hX hw92.2 hw92.1⟩))
                    · refine J_iconst (v := 0) (pc' := 88) dX6_sheet_87 (by decide) rfl ?_
                      refine J_goto (pc' := 0) 92 dX6_sheet_88 (by decide) ?_
                      refine J_V3w (pc' := 95) dX6_sheet_92 lk_6_278 cd_X3_lay (k_X3_lay hs4) (ly_59) (l84_59) rfl rfl (jroom_of rfl) (Nat.le_of_ble_eq_true rfl) rfl (fun w92 hw92 => ?_)
                      refine J_iconst (v := 1) (pc' := 96) dX6_sheet_95 (by decide) rfl ?_
                      first | exact absurd h_1 h_48 | exact absurd h_1 h_62 | exact absurd h_1 h_84 | exact absurd h_48 h_1 | exact absurd h_48 h_62 | exact absurd h_48 h_84 | exact absurd h_62 h_1 | exact absurd h_62 h_48 | exact absurd h_62 h_84 | exact absurd h_84 h_1 | exact absurd h_84 h_48 | exact absurd h_84 h_62 | exact J_iret dX6_sheet_96  (by unfold sq_sheet; rw [if_pos hC, if_neg (fun q => by first | exact q.1 h_48 | exact Int32.not_le.mpr q.2 h_52), if_neg (fun q => by first | exact q.1 h_62 | exact Int32.not_le.mpr q.2 h_68), nn_nI (by omega)]; first | (rw [if_pos h_84]; exact ⟨rfl, bq_sh hX hw92.2 hw92.1⟩) | (rw [if_neg h_84]; exact ⟨rfl, bq_sh hX hw92.2 hw92.1⟩))
                  · refine J_aload_n (pc' := 72) dX6_sheet_71 rfl rfl ?_
                    refine J_iconst (v := 1) (pc' := 73) dX6_sheet_72 (by decide) rfl ?_
                    refine J_V1v (pc' := 76) dX6_sheet_73 lk_6_69 cd_X6_error (k_err1) (ly_0) (l84_0) rfl rfl (jroom_of rfl) (Nat.le_of_ble_eq_true rfl) rfl ?_
                    first | exact absurd h_1 h_48 | exact absurd h_1 h_62 | exact absurd h_1 h_84 | exact absurd h_48 h_1 | exact absurd h_48 h_62 | exact absurd h_48 h_84 | exact absurd h_62 h_1 | exact absurd h_62 h_48 | exact absurd h_62 h_84 | exact absurd h_84 h_1 | exact absurd h_84 h_48 | exact absurd h_84 h_62 | exact J_iret dX6_sheet_76  (by unfold sq_sheet; rw [if_pos hC, if_neg (fun q => by first | exact q.1 h_48 | exact Int32.not_le.mpr q.2 h_52), if_pos ⟨h_62, Int32.not_le.mp h_68⟩]; exact ⟨rfl, bq_err hX (by decide)⟩)
              · refine J_aload_n (pc' := 56) dX6_sheet_55 rfl rfl ?_
                refine J_iconst (v := 3) (pc' := 57) dX6_sheet_56 (by decide) rfl ?_
                refine J_V1v (pc' := 60) dX6_sheet_57 lk_6_69 cd_X6_error (k_err3) (ly_0) (l84_0) rfl rfl (jroom_of rfl) (Nat.le_of_ble_eq_true rfl) rfl ?_
                first | exact absurd h_1 h_48 | exact absurd h_1 h_62 | exact absurd h_1 h_84 | exact absurd h_48 h_1 | exact absurd h_48 h_62 | exact absurd h_48 h_84 | exact absurd h_62 h_1 | exact absurd h_62 h_48 | exact absurd h_62 h_84 | exact absurd h_84 h_1 | exact absurd h_84 h_48 | exact absurd h_84 h_62 | exact J_iret dX6_sheet_60  (by unfold sq_sheet; rw [if_pos hC, if_pos ⟨by first | exact h_48 | exact fun q => h_48 q, Int32.not_le.mp h_52⟩]; exact ⟨rfl, bq_err hX (by decide)⟩)
def sq_put (s k r : sg) (x : Int32) (p : Int32) (v : Int32) : sQI := if 0 ≤ x ∧ x ≤ 3 then (if r 6 (nn x) = 0 then (sErr 2, s, k, sEr r 2) else if 0 ≤ p ∧ p ≤ r 7 (nn x) - 1 then (1, s, k, sg1 r (2 + nn x) (nn p) (sNar (r 6 (nn x)) v)) else (sErr 1, s, k, sEr r 1)) else (sErr 1, s, k, sEr r 1)
set_option maxHeartbeats 4000000 in
set_option maxRecDepth 100000 in
theorem a_X6_put {G : jG} {w : jWd} (hX : XInv w) (hI : sInv (abX w 1)) (hR : rInv (restX w)) {x : Int32} {p : Int32} {v : Int32} : jKp G 2 yX6_put cX6_put 4 (some .int) [.ref 0, .int x, .int p, .int v] w (some (.int (sq_put (abX w 1) (abX w 16) (restX w) x p v).1)) (fun w' => BQ w w' (sq_put (abX w 1) (abX w 16) (restX w) x p v).2) := by
  refine jK_of (own := RX6) [some (.ref 0), some (.int x), some (.int p), some (.int v)] pn6 rfl (Nat.le_of_ble_eq_true rfl) rfl ?_
  refine J_iload_n (pc' := 1) dX6_put_0 rfl rfl ?_
  refine J_S1v (pc' := 4) dX6_put_1 lk_6_255 cd_X6_isSheet (k_X6_isSheet) (jroom_of rfl) (Nat.le_of_ble_eq_true rfl) rfl ?_
  refine J_if_ne 13 (pc' := 7) dX6_put_4 (by decide) rfl (fun h_4 => ?_) (fun h_4 => ?_)
  · obtain ⟨s, hs3, rfl⟩ := rng0_ex (n := 3) (by omega) (jb_n h_4)
    have hs4 : s < 4 := by omega
    obtain ⟨⟨T, hT, hT24⟩, -⟩ := hR.2 s hs4
    refine J_aload_n (pc' := 14) dX6_put_13 rfl rfl ?_
    refine J_getR (pc' := 17) dX6_put_14 fl_6_52 (ly_0) (l84_0) rfl rfl ?_
    refine J_iload_n (pc' := 18) dX6_put_17 rfl rfl ?_
    refine J_V1v (pc' := 21) dX6_put_18 lk_6_258 cd_X3_isMissing (k_X3_isMissing hs4) (ly_59) (l84_59) rfl rfl (jroom_of rfl) (Nat.le_of_ble_eq_true rfl) rfl ?_
    refine J_if_eq 30 (pc' := 24) dX6_put_21 (by decide) rfl (fun h_21 => ?_) (fun h_21 => ?_)
    · refine J_iload_n (pc' := 31) dX6_put_30 rfl rfl ?_
      refine J_iconst (v := 0) (pc' := 32) dX6_put_31 (by decide) rfl ?_
      refine J_aload_n (pc' := 33) dX6_put_32 rfl rfl ?_
      refine J_getR (pc' := 36) dX6_put_33 fl_6_52 (ly_0) (l84_0) rfl rfl ?_
      refine J_getR (pc' := 39) dX6_put_36 fl_6_282 (ly_59) (l84_59) rfl rfl ?_
      refine J_iload_n (pc' := 40) dX6_put_39 rfl rfl ?_
      refine J_iald s (pc' := 41) dX6_put_40 (ly_66) (l84_66) rfl hs4 (by decide) rfl ?_
      rw [rx_7 hs4]
      refine J_iconst (v := 1) (pc' := 42) dX6_put_41 (by decide) rfl ?_
      refine J_isub (pc' := 43) dX6_put_42 rfl ?_
      refine J_S3v (pc' := 46) dX6_put_43 lk_6_108 cd_X6_isWithin (k_X6_isWithin) (jroom_of rfl) (Nat.le_of_ble_eq_true rfl) rfl ?_
      refine J_if_ne 55 (pc' := 49) dX6_put_46 (by decide) rfl (fun h_46 => ?_) (fun h_46 => ?_)
      · obtain ⟨p, hpT, rfl⟩ := sIs_ex hT (by omega) (jb_n h_46)
        have hp : p < 24 := by omega
        refine J_aload_n (pc' := 56) dX6_put_55 rfl rfl ?_
        refine J_getR (pc' := 59) dX6_put_56 fl_6_52 (ly_0) (l84_0) rfl rfl ?_
        refine J_iload_n (pc' := 60) dX6_put_59 rfl rfl ?_
        refine J_iload_n (pc' := 61) dX6_put_60 rfl rfl ?_
        refine J_iload_n (pc' := 62) dX6_put_61 rfl rfl ?_
        refine J_V3w (pc' := 65) dX6_put_62 lk_6_285 cd_X3_write (k_X3_write hs4 hp) (ly_59) (l84_59) rfl rfl (jroom_of rfl) (Nat.le_of_ble_eq_true rfl) rfl (fun w62 hw62 => ?_)
        refine J_iconst (v := 1) (pc' := 66) dX6_put_65 (by decide) rfl ?_
        exact J_iret dX6_put_66  (by unfold sq_put; rw [if_pos (jb_n h_4), nn_nI (by omega), if_neg (jb_0.mp (by first | exact h_21 | exact Decidable.not_not.mp h_21)), if_pos (jb_n (by first | exact h_46 | exact Decidable.not_not.mp h_46)), nn_nI (by omega)]; exact ⟨rfl, bq_sh hX hw62.2 hw62.1⟩)
      · refine J_aload_n (pc' := 50) dX6_put_49 rfl rfl ?_
        refine J_iconst (v := 1) (pc' := 51) dX6_put_50 (by decide) rfl ?_
        refine J_V1v (pc' := 54) dX6_put_51 lk_6_69 cd_X6_error (k_err1) (ly_0) (l84_0) rfl rfl (jroom_of rfl) (Nat.le_of_ble_eq_true rfl) rfl ?_
        exact J_iret dX6_put_54  (by unfold sq_put; rw [if_pos (jb_n h_4), nn_nI (by omega), if_neg (jb_0.mp (by first | exact h_21 | exact Decidable.not_not.mp h_21)), if_neg (jb_0.mp (by first | exact h_46 | exact Decidable.not_not.mp h_46))]; exact ⟨rfl, bq_err hX (by decide)⟩)
    · refine J_aload_n (pc' := 25) dX6_put_24 rfl rfl ?_
      refine J_iconst (v := 2) (pc' := 26) dX6_put_25 (by decide) rfl ?_
      refine J_V1v (pc' := 29) dX6_put_26 lk_6_69 cd_X6_error (k_err2) (ly_0) (l84_0) rfl rfl (jroom_of rfl) (Nat.le_of_ble_eq_true rfl) rfl ?_
      exact J_iret dX6_put_29  (by unfold sq_put; rw [if_pos (jb_n h_4), nn_nI (by omega), if_pos (jb_n (by first | exact h_21 | exact Decidable.not_not.mp h_21))]; exact ⟨rfl, bq_err hX (by decide)⟩)
  · refine J_aload_n (pc' := 8) dX6_put_7 rfl rfl ?_
    refine J_iconst (v := 1) (pc' := 9) dX6_put_8 (by decide) rfl ?_
    refine J_V1v (pc' := 12) dX6_put_9 lk_6_69 cd_X6_error (k_err1) (ly_0) (l84_0) rfl rfl (jroom_of rfl) (Nat.le_of_ble_eq_true rfl) rfl ?_
    exact J_iret dX6_put_12  (by unfold sq_put; rw [if_neg (fun q => by first | exact jb_0.mp h_4 q)]; exact ⟨rfl, bq_err hX (by decide)⟩)
