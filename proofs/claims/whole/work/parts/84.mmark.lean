/-! ===== the reference: mark ===== -/
/-! ===== the reference: mark ===== -/
set_option maxHeartbeats 4000000 in
set_option maxRecDepth 100000 in
theorem b_X7_mark {G : jG} {w : jWd} (hV : MInv w) (hI : sInv (abM (w.1 69))) {km : Int32} {f : Int32} {t : Int32} {td : Int32} : jKp G 2 yX7_mark cX7_mark 6 (some .int) [.ref 68, .int km, .int f, .int t, .int td] w (some (.int (sq_mark (abM (w.1 69)) (abM (w.1 70)) (restM w) km f t td).1)) (fun w' => RQ w w' (sq_mark (abM (w.1 69)) (abM (w.1 70)) (restM w) km f t td).2) := by
  have hM : w.1 69 2 = nI (sM (abM (w.1 69))) := (sIM hI).1
  have hM8 := (sIM hI).2
  have h88 : 8 ≤ (abM (w.1 69)) 6 0 ↔ 8 ≤ (sM (abM (w.1 69))) := by rw [(sIM hI).1, nIc_8]; exact nI_leI (by omega) (by omega)
  have hT := hV.1
  refine jK_of (own := RX7) [some (.ref 68), some (.int km), some (.int f), some (.int t), some (.int td), none] pn7 rfl (Nat.le_of_ble_eq_true rfl) rfl ?_
  refine J_iload_n (pc' := 1) dX7_mark_0 rfl rfl ?_
  refine J_S1v (pc' := 4) dX7_mark_1 lk_7_119 cd_X7_isKm (k_X7_isKm) (jroom_of rfl) (Nat.le_of_ble_eq_true rfl) rfl ?_
  refine J_if_eq 45 (pc' := 7) dX7_mark_4 (by decide) rfl (fun h_4 => ?_) (fun h_4 => ?_)
  · refine J_aload_n (pc' := 46) dX7_mark_45 rfl rfl ?_
    refine J_ldc (pc' := 48) dX7_mark_46 kc_7_125 rfl ?_
    refine J_V1v (pc' := 51) dX7_mark_48 lk_7_126 cd_X7_error (k_merr (k := 1) (by decide) (by decide)) (ly_68) (l84_68) rfl rfl (jroom_of rfl) (Nat.le_of_ble_eq_true rfl) rfl ?_
    exact J_iret dX7_mark_51  (by unfold sq_mark; rw [if_neg (show ¬ ((0 ≤ km ∧ km ≤ 69) ∧ (f = -1 ∨ sIsP (abM (w.1 69)) f) ∧ sIsP (abM (w.1 69)) t ∧ f ≠ t ∧ (-20 ≤ td ∧ td ≤ 20)) from fun q => by first | exact jb_0.mp h_4 q.1 | exact q.2.1.elim h_9 (jb_0.mp h_17) | exact jb_0.mp h_25 q.2.2.1 | exact q.2.2.2.1 h_30 | exact jb_0.mp (by first | exact h_42 | exact Decidable.not_not.mp h_42) q.2.2.2.2)]; exact ⟨rfl, mq_err hV (by decide)⟩)
  · refine J_iload_n (pc' := 8) dX7_mark_7 rfl rfl ?_
    refine J_iconst (v := -1) (pc' := 9) dX7_mark_8 (by decide) rfl ?_
    refine J_icmp_eq 20 (pc' := 12) dX7_mark_9 (by decide) rfl (fun h_9 => ?_) (fun h_9 => ?_)
    · refine J_aload_n (pc' := 21) dX7_mark_20 rfl rfl ?_
      refine J_iload_n (pc' := 22) dX7_mark_21 rfl rfl ?_
      refine J_V1v (pc' := 25) dX7_mark_22 lk_7_122 cd_X7_isPicture (k_X7_isPicture) (ly_68) (l84_68) rfl rfl (jroom_of rfl) (Nat.le_of_ble_eq_true rfl) rfl ?_
      refine J_if_eq 45 (pc' := 28) dX7_mark_25 (by decide) rfl (fun h_25 => ?_) (fun h_25 => ?_)
      · refine J_aload_n (pc' := 46) dX7_mark_45 rfl rfl ?_
        refine J_ldc (pc' := 48) dX7_mark_46 kc_7_125 rfl ?_
        refine J_V1v (pc' := 51) dX7_mark_48 lk_7_126 cd_X7_error (k_merr (k := 1) (by decide) (by decide)) (ly_68) (l84_68) rfl rfl (jroom_of rfl) (Nat.le_of_ble_eq_true rfl) rfl ?_
        exact J_iret dX7_mark_51  (by unfold sq_mark; rw [if_neg (show ¬ ((0 ≤ km ∧ km ≤ 69) ∧ (f = -1 ∨ sIsP (abM (w.1 69)) f) ∧ sIsP (abM (w.1 69)) t ∧ f ≠ t ∧ (-20 ≤ td ∧ td ≤ 20)) from fun q => by first | exact jb_0.mp h_4 q.1 | exact q.2.1.elim h_9 (jb_0.mp h_17) | exact jb_0.mp h_25 q.2.2.1 | exact q.2.2.2.1 h_30 | exact jb_0.mp (by first | exact h_42 | exact Decidable.not_not.mp h_42) q.2.2.2.2)]; exact ⟨rfl, mq_err hV (by decide)⟩)
      · refine J_iload_n (pc' := 29) dX7_mark_28 rfl rfl ?_
        refine J_iload_n (pc' := 30) dX7_mark_29 rfl rfl ?_
        refine J_icmp_eq 45 (pc' := 33) dX7_mark_30 (by decide) rfl (fun h_30 => ?_) (fun h_30 => ?_)
        · refine J_aload_n (pc' := 46) dX7_mark_45 rfl rfl ?_
          refine J_ldc (pc' := 48) dX7_mark_46 kc_7_125 rfl ?_
          refine J_V1v (pc' := 51) dX7_mark_48 lk_7_126 cd_X7_error (k_merr (k := 1) (by decide) (by decide)) (ly_68) (l84_68) rfl rfl (jroom_of rfl) (Nat.le_of_ble_eq_true rfl) rfl ?_
          exact J_iret dX7_mark_51  (by unfold sq_mark; rw [if_neg (show ¬ ((0 ≤ km ∧ km ≤ 69) ∧ (f = -1 ∨ sIsP (abM (w.1 69)) f) ∧ sIsP (abM (w.1 69)) t ∧ f ≠ t ∧ (-20 ≤ td ∧ td ≤ 20)) from fun q => by first | exact jb_0.mp h_4 q.1 | exact q.2.1.elim h_9 (jb_0.mp h_17) | exact jb_0.mp h_25 q.2.2.1 | exact q.2.2.2.1 h_30 | exact jb_0.mp (by first | exact h_42 | exact Decidable.not_not.mp h_42) q.2.2.2.2)]; exact ⟨rfl, mq_err hV (by decide)⟩)
        · refine J_iload (pc' := 35) dX7_mark_33 rfl rfl ?_
          refine J_bipush (v := (-20)) (pc' := 37) dX7_mark_35 (by decide) rfl ?_
          refine J_bipush (v := 20) (pc' := 39) dX7_mark_37 (by decide) rfl ?_
          refine J_S3v (pc' := 42) dX7_mark_39 lk_7_61 cd_X7_in (k_X7_in) (jroom_of rfl) (Nat.le_of_ble_eq_true rfl) rfl ?_
          refine J_if_ne 52 (pc' := 45) dX7_mark_42 (by decide) rfl (fun h_42 => ?_) (fun h_42 => ?_)
          · refine J_aload_n (pc' := 53) dX7_mark_52 rfl rfl ?_
            refine J_getR (pc' := 56) dX7_mark_53 fl_7_9 (ly_68) (l84_68) rfl rfl ?_
            refine J_iconst (v := 2) (pc' := 57) dX7_mark_56 (by decide) rfl ?_
            refine J_iald 2 (pc' := 58) dX7_mark_57 (ly_69) (l84_69) nIc_2 (by decide) (by decide) rfl ?_
            rw [hM]
            refine J_istore (pc' := 60) dX7_mark_58 (Nat.le_of_ble_eq_true rfl) (jst5 rfl rfl) rfl ?_
            refine J_iload (pc' := 62) dX7_mark_60 rfl rfl ?_
            refine J_bipush (v := 8) (pc' := 64) dX7_mark_62 (by decide) rfl ?_
            refine J_icmp_ne 74 (pc' := 67) dX7_mark_64 (by decide) rfl (fun h_64 => ?_) (fun h_64 => ?_)
            · have hM8b : (sM (abM (w.1 69))) < 8 := by have : ¬ (sM (abM (w.1 69))) = 8 := fun q => h_64 (by rw [q]; decide); omega
              have h8b : ¬ 8 ≤ (abM (w.1 69)) 6 0 := fun q => by have := h88.mp q; omega
              refine J_aload_n (pc' := 75) dX7_mark_74 rfl rfl ?_
              refine J_getR (pc' := 78) dX7_mark_75 fl_7_9 (ly_68) (l84_68) rfl rfl ?_
              refine J_iconst (v := 2) (pc' := 79) dX7_mark_78 (by decide) rfl ?_
              refine J_dup2 (pc' := 80) dX7_mark_79 rfl rfl rfl ?_
              refine J_iald 2 (pc' := 81) dX7_mark_80 (ly_69) (l84_69) nIc_2 (by decide) (by decide) rfl ?_
              rw [hM]
              refine J_iconst (v := 1) (pc' := 82) dX7_mark_81 (by decide) rfl ?_
              refine J_iadd (pc' := 83) dX7_mark_82 rfl ?_
              refine J_iast 2 (pc' := 84) dX7_mark_83 (ly_69) (l84_69) nIc_2 (by decide) (by decide) rfl ?_
              refine J_aload_n (pc' := 85) dX7_mark_84 rfl rfl ?_
              refine J_iload (pc' := 87) dX7_mark_85 rfl rfl ?_
              refine J_iconst (v := 0) (pc' := 88) dX7_mark_87 (by decide) rfl ?_
              refine J_iload_n (pc' := 89) dX7_mark_88 rfl rfl ?_
              refine J_bipush (v := 10) (pc' := 91) dX7_mark_89 (by decide) rfl ?_
              refine J_idiv (pc' := 92) dX7_mark_91 (by decide) rfl ?_
              refine J_V30 (pc' := 95) dX7_mark_92 lk_7_130 cd_X7_puts (k_mputs hM8b (c := 0) (by decide) nIc_0) (ly_68) (l84_68) rfl rfl (jroom_of rfl) (Nat.le_of_ble_eq_true rfl) rfl ?_
              refine J_aload_n (pc' := 96) dX7_mark_95 rfl rfl ?_
              refine J_iload (pc' := 98) dX7_mark_96 rfl rfl ?_
              refine J_iconst (v := 1) (pc' := 99) dX7_mark_98 (by decide) rfl ?_
              refine J_iload_n (pc' := 100) dX7_mark_99 rfl rfl ?_
              refine J_bipush (v := 10) (pc' := 102) dX7_mark_100 (by decide) rfl ?_
              refine J_irem (pc' := 103) dX7_mark_102 (by decide) rfl ?_
              refine J_V30 (pc' := 106) dX7_mark_103 lk_7_130 cd_X7_puts (k_mputs hM8b (c := 1) (by decide) nIc_1) (ly_68) (l84_68) rfl rfl (jroom_of rfl) (Nat.le_of_ble_eq_true rfl) rfl ?_
              refine J_aload_n (pc' := 107) dX7_mark_106 rfl rfl ?_
              refine J_iload (pc' := 109) dX7_mark_107 rfl rfl ?_
              refine J_iconst (v := 2) (pc' := 110) dX7_mark_109 (by decide) rfl ?_
              refine J_iload_n (pc' := 111) dX7_mark_110 rfl rfl ?_
              refine J_V30 (pc' := 114) dX7_mark_111 lk_7_130 cd_X7_puts (k_mputs hM8b (c := 2) (by decide) nIc_2) (ly_68) (l84_68) rfl rfl (jroom_of rfl) (Nat.le_of_ble_eq_true rfl) rfl ?_
              refine J_aload_n (pc' := 115) dX7_mark_114 rfl rfl ?_
              refine J_iload (pc' := 117) dX7_mark_115 rfl rfl ?_
              refine J_iconst (v := 3) (pc' := 118) dX7_mark_117 (by decide) rfl ?_
              refine J_iload_n (pc' := 119) dX7_mark_118 rfl rfl ?_
              refine J_V30 (pc' := 122) dX7_mark_119 lk_7_130 cd_X7_puts (k_mputs hM8b (c := 3) (by decide) nIc_3) (ly_68) (l84_68) rfl rfl (jroom_of rfl) (Nat.le_of_ble_eq_true rfl) rfl ?_
              refine J_aload_n (pc' := 123) dX7_mark_122 rfl rfl ?_
              refine J_iload (pc' := 125) dX7_mark_123 rfl rfl ?_
              refine J_iconst (v := 4) (pc' := 126) dX7_mark_125 (by decide) rfl ?_
              refine J_iload (pc' := 128) dX7_mark_126 rfl rfl ?_
              refine J_V30 (pc' := 131) dX7_mark_128 lk_7_130 cd_X7_puts (k_mputs hM8b (c := 4) (by decide) nIc_4) (ly_68) (l84_68) rfl rfl (jroom_of rfl) (Nat.le_of_ble_eq_true rfl) rfl ?_
              refine J_aload_n (pc' := 132) dX7_mark_131 rfl rfl ?_
              refine J_iload (pc' := 134) dX7_mark_132 rfl rfl ?_
              refine J_iconst (v := 5) (pc' := 135) dX7_mark_134 (by decide) rfl ?_
              refine J_iconst (v := 1) (pc' := 136) dX7_mark_135 (by decide) rfl ?_
              refine J_V30 (pc' := 139) dX7_mark_136 lk_7_130 cd_X7_puts (k_mputs hM8b (c := 5) (by decide) nIc_5) (ly_68) (l84_68) rfl rfl (jroom_of rfl) (Nat.le_of_ble_eq_true rfl) rfl ?_
              refine J_iload (pc' := 141) dX7_mark_139 rfl rfl ?_
              exact J_iret dX7_mark_141  (by unfold sq_mark; rw [if_pos (show (0 ≤ km ∧ km ≤ 69) ∧ (f = -1 ∨ sIsP (abM (w.1 69)) f) ∧ sIsP (abM (w.1 69)) t ∧ f ≠ t ∧ (-20 ≤ td ∧ td ≤ 20) from ⟨jb_n h_4, by first | exact Or.inl h_9 | exact Or.inr (jb_n h_17), jb_n h_25, h_30, jb_n h_42⟩), if_neg h8b]; exact ⟨jv (sIM hI).1.symm, mq_row hV ((((((((frG.rf w).set (i := 2) (by omega)).set (i := 8 + 6 * (sM (abM (w.1 69))) + 0) (by omega)).set (i := 8 + 6 * (sM (abM (w.1 69))) + 1) (by omega)).set (i := 8 + 6 * (sM (abM (w.1 69))) + 2) (by omega)).set (i := 8 + 6 * (sM (abM (w.1 69))) + 3) (by omega)).set (i := 8 + 6 * (sM (abM (w.1 69))) + 4) (by omega)).set (i := 8 + 6 * (sM (abM (w.1 69))) + 5) (by omega)) (by rw [ams5 hM8b, ams4 hM8b, ams3 hM8b, ams2 hM8b, ams1 hM8b, ams0 hM8b, amc2, nI_1]; unfold sAdd; rw [sg1_sw (f := 6) (g := 0) (by decide), sg1_sw (f := 6) (g := 1) (by decide), sg1_sw (f := 6) (g := 2) (by decide), sg1_sw (f := 6) (g := 3) (by decide), sg1_sw (f := 6) (g := 4) (by decide), sg1_sw (f := 6) (g := 5) (by decide)])⟩)
            · refine J_aload_n (pc' := 68) dX7_mark_67 rfl rfl ?_
              refine J_ldc (pc' := 70) dX7_mark_68 kc_7_129 rfl ?_
              refine J_V1v (pc' := 73) dX7_mark_70 lk_7_126 cd_X7_error (k_merr (k := 4) (by decide) (by decide)) (ly_68) (l84_68) rfl rfl (jroom_of rfl) (Nat.le_of_ble_eq_true rfl) rfl ?_
              exact J_iret dX7_mark_73  (by unfold sq_mark; rw [if_pos (show (0 ≤ km ∧ km ≤ 69) ∧ (f = -1 ∨ sIsP (abM (w.1 69)) f) ∧ sIsP (abM (w.1 69)) t ∧ f ≠ t ∧ (-20 ≤ td ∧ td ≤ 20) from ⟨jb_n h_4, by first | exact Or.inl h_9 | exact Or.inr (jb_n h_17), jb_n h_25, h_30, jb_n h_42⟩), if_pos (h88.mpr (by have q := (nI_eq (a := (sM (abM (w.1 69)))) (b := 8) (by omega) (by omega)).mp (by first | exact h_64 | exact Decidable.not_not.mp h_64); omega))]; exact ⟨rfl, mq_err hV (by decide)⟩)
          · refine J_aload_n (pc' := 46) dX7_mark_45 rfl rfl ?_
            refine J_ldc (pc' := 48) dX7_mark_46 kc_7_125 rfl ?_
            refine J_V1v (pc' := 51) dX7_mark_48 lk_7_126 cd_X7_error (k_merr (k := 1) (by decide) (by decide)) (ly_68) (l84_68) rfl rfl (jroom_of rfl) (Nat.le_of_ble_eq_true rfl) rfl ?_
            exact J_iret dX7_mark_51  (by unfold sq_mark; rw [if_neg (show ¬ ((0 ≤ km ∧ km ≤ 69) ∧ (f = -1 ∨ sIsP (abM (w.1 69)) f) ∧ sIsP (abM (w.1 69)) t ∧ f ≠ t ∧ (-20 ≤ td ∧ td ≤ 20)) from fun q => by first | exact jb_0.mp h_4 q.1 | exact q.2.1.elim h_9 (jb_0.mp h_17) | exact jb_0.mp h_25 q.2.2.1 | exact q.2.2.2.1 h_30 | exact jb_0.mp (by first | exact h_42 | exact Decidable.not_not.mp h_42) q.2.2.2.2)]; exact ⟨rfl, mq_err hV (by decide)⟩)
    · refine J_aload_n (pc' := 13) dX7_mark_12 rfl rfl ?_
      refine J_iload_n (pc' := 14) dX7_mark_13 rfl rfl ?_
      refine J_V1v (pc' := 17) dX7_mark_14 lk_7_122 cd_X7_isPicture (k_X7_isPicture) (ly_68) (l84_68) rfl rfl (jroom_of rfl) (Nat.le_of_ble_eq_true rfl) rfl ?_
      refine J_if_eq 45 (pc' := 20) dX7_mark_17 (by decide) rfl (fun h_17 => ?_) (fun h_17 => ?_)
      · refine J_aload_n (pc' := 46) dX7_mark_45 rfl rfl ?_
        refine J_ldc (pc' := 48) dX7_mark_46 kc_7_125 rfl ?_
        refine J_V1v (pc' := 51) dX7_mark_48 lk_7_126 cd_X7_error (k_merr (k := 1) (by decide) (by decide)) (ly_68) (l84_68) rfl rfl (jroom_of rfl) (Nat.le_of_ble_eq_true rfl) rfl ?_
        exact J_iret dX7_mark_51  (by unfold sq_mark; rw [if_neg (show ¬ ((0 ≤ km ∧ km ≤ 69) ∧ (f = -1 ∨ sIsP (abM (w.1 69)) f) ∧ sIsP (abM (w.1 69)) t ∧ f ≠ t ∧ (-20 ≤ td ∧ td ≤ 20)) from fun q => by first | exact jb_0.mp h_4 q.1 | exact q.2.1.elim h_9 (jb_0.mp h_17) | exact jb_0.mp h_25 q.2.2.1 | exact q.2.2.2.1 h_30 | exact jb_0.mp (by first | exact h_42 | exact Decidable.not_not.mp h_42) q.2.2.2.2)]; exact ⟨rfl, mq_err hV (by decide)⟩)
      · refine J_aload_n (pc' := 21) dX7_mark_20 rfl rfl ?_
        refine J_iload_n (pc' := 22) dX7_mark_21 rfl rfl ?_
        refine J_V1v (pc' := 25) dX7_mark_22 lk_7_122 cd_X7_isPicture (k_X7_isPicture) (ly_68) (l84_68) rfl rfl (jroom_of rfl) (Nat.le_of_ble_eq_true rfl) rfl ?_
        refine J_if_eq 45 (pc' := 28) dX7_mark_25 (by decide) rfl (fun h_25 => ?_) (fun h_25 => ?_)
        · refine J_aload_n (pc' := 46) dX7_mark_45 rfl rfl ?_
          refine J_ldc (pc' := 48) dX7_mark_46 kc_7_125 rfl ?_
          refine J_V1v (pc' := 51) dX7_mark_48 lk_7_126 cd_X7_error (k_merr (k := 1) (by decide) (by decide)) (ly_68) (l84_68) rfl rfl (jroom_of rfl) (Nat.le_of_ble_eq_true rfl) rfl ?_
          exact J_iret dX7_mark_51  (by unfold sq_mark; rw [if_neg (show ¬ ((0 ≤ km ∧ km ≤ 69) ∧ (f = -1 ∨ sIsP (abM (w.1 69)) f) ∧ sIsP (abM (w.1 69)) t ∧ f ≠ t ∧ (-20 ≤ td ∧ td ≤ 20)) from fun q => by first | exact jb_0.mp h_4 q.1 | exact q.2.1.elim h_9 (jb_0.mp h_17) | exact jb_0.mp h_25 q.2.2.1 | exact q.2.2.2.1 h_30 | exact jb_0.mp (by first | exact h_42 | exact Decidable.not_not.mp h_42) q.2.2.2.2)]; exact ⟨rfl, mq_err hV (by decide)⟩)
        · refine J_iload_n (pc' := 29) dX7_mark_28 rfl rfl ?_
          refine J_iload_n (pc' := 30) dX7_mark_29 rfl rfl ?_
          refine J_icmp_eq 45 (pc' := 33) dX7_mark_30 (by decide) rfl (fun h_30 => ?_) (fun h_30 => ?_)
          · refine J_aload_n (pc' := 46) dX7_mark_45 rfl rfl ?_
            refine J_ldc (pc' := 48) dX7_mark_46 kc_7_125 rfl ?_
            refine J_V1v (pc' := 51) dX7_mark_48 lk_7_126 cd_X7_error (k_merr (k := 1) (by decide) (by decide)) (ly_68) (l84_68) rfl rfl (jroom_of rfl) (Nat.le_of_ble_eq_true rfl) rfl ?_
            exact J_iret dX7_mark_51  (by unfold sq_mark; rw [if_neg (show ¬ ((0 ≤ km ∧ km ≤ 69) ∧ (f = -1 ∨ sIsP (abM (w.1 69)) f) ∧ sIsP (abM (w.1 69)) t ∧ f ≠ t ∧ (-20 ≤ td ∧ td ≤ 20)) from fun q => by first | exact jb_0.mp h_4 q.1 | exact q.2.1.elim h_9 (jb_0.mp h_17) | exact jb_0.mp h_25 q.2.2.1 | exact q.2.2.2.1 h_30 | exact jb_0.mp (by first | exact h_42 | exact Decidable.not_not.mp h_42) q.2.2.2.2)]; exact ⟨rfl, mq_err hV (by decide)⟩)
          · refine J_iload (pc' := 35) dX7_mark_33 rfl rfl ?_
            refine J_bipush (v := (-20)) (pc' := 37) dX7_mark_35 (by decide) rfl ?_
            refine J_bipush (v := 20) (pc' := 39) dX7_mark_37 (by decide) rfl ?_
            refine J_S3v (pc' := 42) dX7_mark_39 lk_7_61 cd_X7_in (k_X7_in) (jroom_of rfl) (Nat.le_of_ble_eq_true rfl) rfl ?_
            refine J_if_ne 52 (pc' := 45) dX7_mark_42 (by decide) rfl (fun h_42 => ?_) (fun h_42 => ?_)
            · refine J_aload_n (pc' := 53) dX7_mark_52 rfl rfl ?_
              refine J_getR (pc' := 56) dX7_mark_53 fl_7_9 (ly_68) (l84_68) rfl rfl ?_
              refine J_iconst (v := 2) (pc' := 57) dX7_mark_56 (by decide) rfl ?_
              refine J_iald 2 (pc' := 58) dX7_mark_57 (ly_69) (l84_69) nIc_2 (by decide) (by decide) rfl ?_
              rw [hM]
              refine J_istore (pc' := 60) dX7_mark_58 (Nat.le_of_ble_eq_true rfl) (jst5 rfl rfl) rfl ?_
              refine J_iload (pc' := 62) dX7_mark_60 rfl rfl ?_
              refine J_bipush (v := 8) (pc' := 64) dX7_mark_62 (by decide) rfl ?_
              refine J_icmp_ne 74 (pc' := 67) dX7_mark_64 (by decide) rfl (fun h_64 => ?_) (fun h_64 => ?_)
              · have hM8b : (sM (abM (w.1 69))) < 8 := by have : ¬ (sM (abM (w.1 69))) = 8 := fun q => h_64 (by rw [q]; decide); omega
                have h8b : ¬ 8 ≤ (abM (w.1 69)) 6 0 := fun q => by have := h88.mp q; omega
                refine J_aload_n (pc' := 75) dX7_mark_74 rfl rfl ?_
                refine J_getR (pc' := 78) dX7_mark_75 fl_7_9 (ly_68) (l84_68) rfl rfl ?_
                refine J_iconst (v := 2) (pc' := 79) dX7_mark_78 (by decide) rfl ?_
                refine J_dup2 (pc' := 80) dX7_mark_79 rfl rfl rfl ?_
                refine J_iald 2 (pc' := 81) dX7_mark_80 (ly_69) (l84_69) nIc_2 (by decide) (by decide) rfl ?_
                rw [hM]
                refine J_iconst (v := 1) (pc' := 82) dX7_mark_81 (by decide) rfl ?_
                refine J_iadd (pc' := 83) dX7_mark_82 rfl ?_
                refine J_iast 2 (pc' := 84) dX7_mark_83 (ly_69) (l84_69) nIc_2 (by decide) (by decide) rfl ?_
                refine J_aload_n (pc' := 85) dX7_mark_84 rfl rfl ?_
                refine J_iload (pc' := 87) dX7_mark_85 rfl rfl ?_
                refine J_iconst (v := 0) (pc' := 88) dX7_mark_87 (by decide) rfl ?_
                refine J_iload_n (pc' := 89) dX7_mark_88 rfl rfl ?_
                refine J_bipush (v := 10) (pc' := 91) dX7_mark_89 (by decide) rfl ?_
                refine J_idiv (pc' := 92) dX7_mark_91 (by decide) rfl ?_
                refine J_V30 (pc' := 95) dX7_mark_92 lk_7_130 cd_X7_puts (k_mputs hM8b (c := 0) (by decide) nIc_0) (ly_68) (l84_68) rfl rfl (jroom_of rfl) (Nat.le_of_ble_eq_true rfl) rfl ?_
                refine J_aload_n (pc' := 96) dX7_mark_95 rfl rfl ?_
                refine J_iload (pc' := 98) dX7_mark_96 rfl rfl ?_
                refine J_iconst (v := 1) (pc' := 99) dX7_mark_98 (by decide) rfl ?_
                refine J_iload_n (pc' := 100) dX7_mark_99 rfl rfl ?_
                refine J_bipush (v := 10) (pc' := 102) dX7_mark_100 (by decide) rfl ?_
                refine J_irem (pc' := 103) dX7_mark_102 (by decide) rfl ?_
                refine J_V30 (pc' := 106) dX7_mark_103 lk_7_130 cd_X7_puts (k_mputs hM8b (c := 1) (by decide) nIc_1) (ly_68) (l84_68) rfl rfl (jroom_of rfl) (Nat.le_of_ble_eq_true rfl) rfl ?_
                refine J_aload_n (pc' := 107) dX7_mark_106 rfl rfl ?_
                refine J_iload (pc' := 109) dX7_mark_107 rfl rfl ?_
                refine J_iconst (v := 2) (pc' := 110) dX7_mark_109 (by decide) rfl ?_
                refine J_iload_n (pc' := 111) dX7_mark_110 rfl rfl ?_
                refine J_V30 (pc' := 114) dX7_mark_111 lk_7_130 cd_X7_puts (k_mputs hM8b (c := 2) (by decide) nIc_2) (ly_68) (l84_68) rfl rfl (jroom_of rfl) (Nat.le_of_ble_eq_true rfl) rfl ?_
                refine J_aload_n (pc' := 115) dX7_mark_114 rfl rfl ?_
                refine J_iload (pc' := 117) dX7_mark_115 rfl rfl ?_
                refine J_iconst (v := 3) (pc' := 118) dX7_mark_117 (by decide) rfl ?_
                refine J_iload_n (pc' := 119) dX7_mark_118 rfl rfl ?_
                refine J_V30 (pc' := 122) dX7_mark_119 lk_7_130 cd_X7_puts (k_mputs hM8b (c := 3) (by decide) nIc_3) (ly_68) (l84_68) rfl rfl (jroom_of rfl) (Nat.le_of_ble_eq_true rfl) rfl ?_
                refine J_aload_n (pc' := 123) dX7_mark_122 rfl rfl ?_
                refine J_iload (pc' := 125) dX7_mark_123 rfl rfl ?_
                refine J_iconst (v := 4) (pc' := 126) dX7_mark_125 (by decide) rfl ?_
                refine J_iload (pc' := 128) dX7_mark_126 rfl rfl ?_
                refine J_V30 (pc' := 131) dX7_mark_128 lk_7_130 cd_X7_puts (k_mputs hM8b (c := 4) (by decide) nIc_4) (ly_68) (l84_68) rfl rfl (jroom_of rfl) (Nat.le_of_ble_eq_true rfl) rfl ?_
                refine J_aload_n (pc' := 132) dX7_mark_131 rfl rfl ?_
                refine J_iload (pc' := 134) dX7_mark_132 rfl rfl ?_
                refine J_iconst (v := 5) (pc' := 135) dX7_mark_134 (by decide) rfl ?_
                refine J_iconst (v := 1) (pc' := 136) dX7_mark_135 (by decide) rfl ?_
                refine J_V30 (pc' := 139) dX7_mark_136 lk_7_130 cd_X7_puts (k_mputs hM8b (c := 5) (by decide) nIc_5) (ly_68) (l84_68) rfl rfl (jroom_of rfl) (Nat.le_of_ble_eq_true rfl) rfl ?_
                refine J_iload (pc' := 141) dX7_mark_139 rfl rfl ?_
                exact J_iret dX7_mark_141  (by unfold sq_mark; rw [if_pos (show (0 ≤ km ∧ km ≤ 69) ∧ (f = -1 ∨ sIsP (abM (w.1 69)) f) ∧ sIsP (abM (w.1 69)) t ∧ f ≠ t ∧ (-20 ≤ td ∧ td ≤ 20) from ⟨jb_n h_4, by first | exact Or.inl h_9 | exact Or.inr (jb_n h_17), jb_n h_25, h_30, jb_n h_42⟩), if_neg h8b]; exact ⟨jv (sIM hI).1.symm, mq_row hV ((((((((frG.rf w).set (i := 2) (by omega)).set (i := 8 + 6 * (sM (abM (w.1 69))) + 0) (by omega)).set (i := 8 + 6 * (sM (abM (w.1 69))) + 1) (by omega)).set (i := 8 + 6 * (sM (abM (w.1 69))) + 2) (by omega)).set (i := 8 + 6 * (sM (abM (w.1 69))) + 3) (by omega)).set (i := 8 + 6 * (sM (abM (w.1 69))) + 4) (by omega)).set (i := 8 + 6 * (sM (abM (w.1 69))) + 5) (by omega)) (by rw [ams5 hM8b, ams4 hM8b, ams3 hM8b, ams2 hM8b, ams1 hM8b, ams0 hM8b, amc2, nI_1]; unfold sAdd; rw [sg1_sw (f := 6) (g := 0) (by decide), sg1_sw (f := 6) (g := 1) (by decide), sg1_sw (f := 6) (g := 2) (by decide), sg1_sw (f := 6) (g := 3) (by decide), sg1_sw (f := 6) (g := 4) (by decide), sg1_sw (f := 6) (g := 5) (by decide)])⟩)
              · refine J_aload_n (pc' := 68) dX7_mark_67 rfl rfl ?_
                refine J_ldc (pc' := 70) dX7_mark_68 kc_7_129 rfl ?_
                refine J_V1v (pc' := 73) dX7_mark_70 lk_7_126 cd_X7_error (k_merr (k := 4) (by decide) (by decide)) (ly_68) (l84_68) rfl rfl (jroom_of rfl) (Nat.le_of_ble_eq_true rfl) rfl ?_
                exact J_iret dX7_mark_73  (by unfold sq_mark; rw [if_pos (show (0 ≤ km ∧ km ≤ 69) ∧ (f = -1 ∨ sIsP (abM (w.1 69)) f) ∧ sIsP (abM (w.1 69)) t ∧ f ≠ t ∧ (-20 ≤ td ∧ td ≤ 20) from ⟨jb_n h_4, by first | exact Or.inl h_9 | exact Or.inr (jb_n h_17), jb_n h_25, h_30, jb_n h_42⟩), if_pos (h88.mpr (by have q := (nI_eq (a := (sM (abM (w.1 69)))) (b := 8) (by omega) (by omega)).mp (by first | exact h_64 | exact Decidable.not_not.mp h_64); omega))]; exact ⟨rfl, mq_err hV (by decide)⟩)
            · refine J_aload_n (pc' := 46) dX7_mark_45 rfl rfl ?_
              refine J_ldc (pc' := 48) dX7_mark_46 kc_7_125 rfl ?_
              refine J_V1v (pc' := 51) dX7_mark_48 lk_7_126 cd_X7_error (k_merr (k := 1) (by decide) (by decide)) (ly_68) (l84_68) rfl rfl (jroom_of rfl) (Nat.le_of_ble_eq_true rfl) rfl ?_
              exact J_iret dX7_mark_51  (by unfold sq_mark; rw [if_neg (show ¬ ((0 ≤ km ∧ km ≤ 69) ∧ (f = -1 ∨ sIsP (abM (w.1 69)) f) ∧ sIsP (abM (w.1 69)) t ∧ f ≠ t ∧ (-20 ≤ td ∧ td ≤ 20)) from fun q => by first | exact jb_0.mp h_4 q.1 | exact q.2.1.elim h_9 (jb_0.mp h_17) | exact jb_0.mp h_25 q.2.2.1 | exact q.2.2.2.1 h_30 | exact jb_0.mp (by first | exact h_42 | exact Decidable.not_not.mp h_42) q.2.2.2.2)]; exact ⟨rfl, mq_err hV (by decide)⟩)
