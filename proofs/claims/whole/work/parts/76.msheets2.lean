/-! ===== the reference: sheets, more ===== -/
/-! ===== the reference: sheets, more ===== -/
/-- why a sheet has no numbers, or 0 -/
def nTh (r : sg) (x : Int32) : Int32 := if 0 ≤ x ∧ x ≤ 3 then (if r 6 (nn x) = 0 then sErr 2 else 0) else sErr 1
theorem sE1 : (-1000000001 : Int32) = sErr 1 := by decide
theorem sE2 : (-1000000002 : Int32) = sErr 2 := by decide
theorem sE5 : (-1000000005 : Int32) = sErr 5 := by decide
set_option maxHeartbeats 4000000 in
set_option maxRecDepth 100000 in
theorem k_mnt {G : jG} {w : jWd} {x : Int32} : jKd G 2 yX7_notThere cX7_notThere 2 (some .int) [.ref 68, .int x] w (some (.int (nTh (restM w) x))) w := by
  refine jK_of (own := RX7) [some (.ref 68), some (.int x)] pn7 rfl (Nat.le_of_ble_eq_true rfl) rfl ?_
  refine J_iload_n (pc' := 1) dX7_notThere_0 rfl rfl ?_
  refine J_S1v (pc' := 4) dX7_notThere_1 lk_7_256 cd_X7_isSheet (k_X7_isSheet) (jroom_of rfl) (Nat.le_of_ble_eq_true rfl) rfl ?_
  refine J_if_ne 12 (pc' := 7) dX7_notThere_4 (by decide) rfl (fun h_4 => ?_) (fun h_4 => ?_)
  · obtain ⟨s0, hs0, rfl⟩ := rng0_ex (n := 3) (by omega) (show 0 ≤ x ∧ x ≤ nI 3 from jb_n h_4)
    have s04 : s0 < 4 := by omega
    have h6 : w.1 73 s0 = restM w 6 s0 := rm_6 s04
    refine J_aload_n (pc' := 13) dX7_notThere_12 rfl rfl ?_
    refine J_getR (pc' := 16) dX7_notThere_13 fl_7_22 (ly_68) (l84_68) rfl rfl ?_
    refine J_iload_n (pc' := 17) dX7_notThere_16 rfl rfl ?_
    refine J_iald s0 (pc' := 18) dX7_notThere_17 (ly_73) (l84_73) rfl s04 (by decide) rfl ?_
    rw [h6]
    refine J_if_ne 26 (pc' := 21) dX7_notThere_18 (by decide) rfl (fun h_18 => ?_) (fun h_18 => ?_)
    · refine J_iconst (v := 0) (pc' := 27) dX7_notThere_26 (by decide) rfl ?_
      first | exact J_iret dX7_notThere_27  (by unfold nTh; rw [if_neg (show ¬ (0 ≤ x ∧ x ≤ 3) from jb_0.mp (by first | exact h_4 | exact Decidable.not_not.mp h_4))]; exact ⟨jv sE1, rfl⟩) | exact J_iret dX7_notThere_27  (by unfold nTh; rw [if_pos (show 0 ≤ nI s0 ∧ nI s0 ≤ 3 from jb_n h_4), nn_nI (by omega), if_pos (by first | exact h_18 | exact Decidable.not_not.mp h_18)]; exact ⟨jv sE2, rfl⟩) | exact J_iret dX7_notThere_27  (by unfold nTh; rw [if_pos (show 0 ≤ nI s0 ∧ nI s0 ≤ 3 from jb_n h_4), nn_nI (by omega), if_neg h_18]; exact ⟨rfl, rfl⟩)
    · refine J_ldc (pc' := 23) dX7_notThere_21 kc_7_248 rfl ?_
      refine J_goto (pc' := 0) 27 dX7_notThere_23 (by decide) ?_
      first | exact J_iret dX7_notThere_27  (by unfold nTh; rw [if_neg (show ¬ (0 ≤ x ∧ x ≤ 3) from jb_0.mp (by first | exact h_4 | exact Decidable.not_not.mp h_4))]; exact ⟨jv sE1, rfl⟩) | exact J_iret dX7_notThere_27  (by unfold nTh; rw [if_pos (show 0 ≤ nI s0 ∧ nI s0 ≤ 3 from jb_n h_4), nn_nI (by omega), if_pos (by first | exact h_18 | exact Decidable.not_not.mp h_18)]; exact ⟨jv sE2, rfl⟩) | exact J_iret dX7_notThere_27  (by unfold nTh; rw [if_pos (show 0 ≤ nI s0 ∧ nI s0 ≤ 3 from jb_n h_4), nn_nI (by omega), if_neg h_18]; exact ⟨rfl, rfl⟩)
  · refine J_ldc (pc' := 9) dX7_notThere_7 kc_7_125 rfl ?_
    refine J_goto (pc' := 0) 27 dX7_notThere_9 (by decide) ?_
    first | exact J_iret dX7_notThere_27  (by unfold nTh; rw [if_neg (show ¬ (0 ≤ x ∧ x ≤ 3) from jb_0.mp (by first | exact h_4 | exact Decidable.not_not.mp h_4))]; exact ⟨jv sE1, rfl⟩) | exact J_iret dX7_notThere_27  (by unfold nTh; rw [if_pos (show 0 ≤ nI s0 ∧ nI s0 ≤ 3 from jb_n h_4), nn_nI (by omega), if_pos (by first | exact h_18 | exact Decidable.not_not.mp h_18)]; exact ⟨jv sE2, rfl⟩) | exact J_iret dX7_notThere_27  (by unfold nTh; rw [if_pos (show 0 ≤ nI s0 ∧ nI s0 ≤ 3 from jb_n h_4), nn_nI (by omega), if_neg h_18]; exact ⟨rfl, rfl⟩)
set_option maxHeartbeats 4000000 in
set_option maxRecDepth 100000 in
theorem b_X7_put {G : jG} {w : jWd} (hV : MInv w) (hI : sInv (abM (w.1 69))) (hRI : rInv (restM w)) {x : Int32} {p : Int32} {v : Int32} : jKp G 3 yX7_put cX7_put 5 (some .int) [.ref 68, .int x, .int p, .int v] w (some (.int (sq_put (abM (w.1 69)) (abM (w.1 70)) (restM w) x p v).1)) (fun w' => RQ w w' (sq_put (abM (w.1 69)) (abM (w.1 70)) (restM w) x p v).2) := by
  have hT := hV.1
  refine jK_of (own := RX7) [some (.ref 68), some (.int x), some (.int p), some (.int v), none] pn7 rfl (Nat.le_of_ble_eq_true rfl) rfl ?_
  refine J_aload_n (pc' := 1) dX7_put_0 rfl rfl ?_
  refine J_iload_n (pc' := 2) dX7_put_1 rfl rfl ?_
  refine J_V1v (pc' := 5) dX7_put_2 lk_7_302 cd_X7_notThere (k_mnt) (ly_68) (l84_68) rfl rfl (jroom_of rfl) (Nat.le_of_ble_eq_true rfl) rfl ?_
  refine J_istore (pc' := 7) dX7_put_5 (Nat.le_of_ble_eq_true rfl) (jst4 rfl rfl) rfl ?_
  by_cases hx : 0 ≤ x ∧ x ≤ 3
  · obtain ⟨s0, hs0, rfl⟩ := rng0_ex (n := 3) (by omega) (show 0 ≤ x ∧ x ≤ nI 3 from hx)
    have s04 : s0 < 4 := by omega
    by_cases h6 : restM w 6 s0 = 0
    · rw [show nTh (restM w) (nI s0) = sErr 2 from (if_pos hx).trans (if_pos (by rw [nn_nI (by omega)]; exact h6))]
      refine J_iload (pc' := 9) dX7_put_7 rfl rfl ?_
      refine J_if_ne 33 (pc' := 12) dX7_put_9 (by decide) rfl (fun h_9 => ?_) (fun h_9 => absurd h_9 (by decide))
      refine J_iload (pc' := 35) dX7_put_33 rfl rfl ?_
      refine J_istore (pc' := 37) dX7_put_35 (Nat.le_of_ble_eq_true rfl) (jst4 rfl rfl) rfl ?_
      refine J_iload (pc' := 39) dX7_put_37 rfl rfl ?_
      refine J_if_eq 49 (pc' := 42) dX7_put_39 (by decide) rfl (fun h_39 => absurd h_39 (by decide)) (fun h_39 => ?_)
      refine J_aload_n (pc' := 43) dX7_put_42 rfl rfl ?_
      refine J_iload (pc' := 45) dX7_put_43 rfl rfl ?_
      refine J_V1v (pc' := 48) dX7_put_45 lk_7_126 cd_X7_error (k_merr (k := 2) (by decide) (by decide)) (ly_68) (l84_68) rfl rfl (jroom_of rfl) (Nat.le_of_ble_eq_true rfl) rfl ?_
      exact J_iret dX7_put_48  (by unfold sq_put; rw [if_pos hx, nn_nI (by omega), if_pos h6]; exact ⟨rfl, mq_err hV (by decide)⟩)
    · rw [show nTh (restM w) (nI s0) = 0 from (if_pos hx).trans (if_neg (by rw [nn_nI (by omega)]; exact h6))]
      obtain ⟨T, hsz, hT24⟩ := (hRI.2 s0 s04).1
      have hnT : nn (restM w 7 s0) = T := by rw [hsz, nn_nI (by omega)]
      have h7 : w.1 74 s0 = nI T := (rm_7 s04).trans hsz
      have hb6 := rm_6 (w := w) s04
      refine J_iload (pc' := 9) dX7_put_7 rfl rfl ?_
      refine J_if_ne 33 (pc' := 12) dX7_put_9 (by decide) rfl (fun h_9 => absurd rfl h_9) (fun h_9 => ?_)
      refine J_iload_n (pc' := 13) dX7_put_12 rfl rfl ?_
      refine J_iconst (v := 0) (pc' := 14) dX7_put_13 (by decide) rfl ?_
      refine J_aload_n (pc' := 15) dX7_put_14 rfl rfl ?_
      refine J_getR (pc' := 18) dX7_put_15 fl_7_25 (ly_68) (l84_68) rfl rfl ?_
      refine J_iload_n (pc' := 19) dX7_put_18 rfl rfl ?_
      refine J_iald s0 (pc' := 20) dX7_put_19 (ly_74) (l84_74) rfl s04 (by decide) rfl ?_
      rw [h7]
      refine J_iconst (v := 1) (pc' := 21) dX7_put_20 (by decide) rfl ?_
      refine J_isub (pc' := 22) dX7_put_21 rfl ?_
      refine J_S3v (pc' := 25) dX7_put_22 lk_7_61 cd_X7_in (k_X7_in) (jroom_of rfl) (Nat.le_of_ble_eq_true rfl) rfl ?_
      refine J_if_ne 33 (pc' := 28) dX7_put_25 (by decide) rfl (fun h_25 => ?_) (fun h_25 => ?_)
      · refine J_iload (pc' := 35) dX7_put_33 rfl rfl ?_
        refine J_istore (pc' := 37) dX7_put_35 (Nat.le_of_ble_eq_true rfl) (jst4 rfl rfl) rfl ?_
        refine J_iload (pc' := 39) dX7_put_37 rfl rfl ?_
        refine J_if_eq 49 (pc' := 42) dX7_put_39 (by decide) rfl (fun h_39 => ?_) (fun h_39 => absurd rfl h_39)
        obtain ⟨p0, hp0, rfl⟩ := sIs_ex (c := nI T) rfl (by omega) (jb_n h_25)
        have hpT : p0 < 24 := by omega
        refine J_aload_n (pc' := 50) dX7_put_49 rfl rfl ?_
        refine J_getR (pc' := 53) dX7_put_50 fl_7_28 (ly_68) (l84_68) rfl rfl ?_
        refine J_bipush (v := 24) (pc' := 55) dX7_put_53 (by decide) rfl ?_
        refine J_iload_n (pc' := 56) dX7_put_55 rfl rfl ?_
        refine J_imul (pc' := 57) dX7_put_56 rfl ?_
        refine J_iload_n (pc' := 58) dX7_put_57 rfl rfl ?_
        refine J_iadd (pc' := 59) dX7_put_58 rfl ?_
        refine J_aload_n (pc' := 60) dX7_put_59 rfl rfl ?_
        refine J_getR (pc' := 63) dX7_put_60 fl_7_22 (ly_68) (l84_68) rfl rfl ?_
        refine J_iload_n (pc' := 64) dX7_put_63 rfl rfl ?_
        refine J_iald s0 (pc' := 65) dX7_put_64 (ly_73) (l84_73) rfl s04 (by decide) rfl ?_
        rw [hb6]
        refine J_bipush (v := 8) (pc' := 67) dX7_put_65 (by decide) rfl ?_
        refine J_icmp_ne 75 (pc' := 70) dX7_put_67 (by decide) rfl (fun h_67 => ?_) (fun h_67 => ?_)
        · refine J_aload_n (pc' := 76) dX7_put_75 rfl rfl ?_
          refine J_getR (pc' := 79) dX7_put_76 fl_7_22 (ly_68) (l84_68) rfl rfl ?_
          refine J_iload_n (pc' := 80) dX7_put_79 rfl rfl ?_
          refine J_iald s0 (pc' := 81) dX7_put_80 (ly_73) (l84_73) rfl s04 (by decide) rfl ?_
          rw [hb6]
          refine J_bipush (v := 16) (pc' := 83) dX7_put_81 (by decide) rfl ?_
          refine J_icmp_ne 91 (pc' := 86) dX7_put_83 (by decide) rfl (fun h_83 => ?_) (fun h_83 => ?_)
          · refine J_iload_n (pc' := 92) dX7_put_91 rfl rfl ?_
            refine J_iast (24 * s0 + p0) (pc' := 93) dX7_put_92 (ly_75) (l84_75) (jadd (jmul nIc_24 rfl) rfl) (by omega) (by decide) rfl ?_
            refine J_iconst (v := 1) (pc' := 94) dX7_put_93 (by decide) rfl ?_
            have eN : v = sNar (restM w 6 s0) v := ((if_neg h_67).trans (if_neg h_83)).symm
            exact J_iret dX7_put_94  (by unfold sq_put; rw [if_pos hx, nn_nI (by omega), if_neg h6, if_pos (show 0 ≤ nI p0 ∧ nI p0 ≤ restM w 7 s0 - 1 from by rw [hsz]; exact jb_n h_25), nn_nI (by omega)]; rw [← eN]; exact ⟨rfl, mq_sh hV ((frC.rf w).set (a := 75) (k := 24 * s0 + p0) (by decide) (by decide)) (rm_row s04 (by omega))⟩)
          · refine J_iload_n (pc' := 87) dX7_put_86 rfl rfl ?_
            refine J_i2s (pc' := 88) dX7_put_87 rfl ?_
            refine J_goto (pc' := 0) 92 dX7_put_88 (by decide) ?_
            refine J_iast (24 * s0 + p0) (pc' := 93) dX7_put_92 (ly_75) (l84_75) (jadd (jmul nIc_24 rfl) rfl) (by omega) (by decide) rfl ?_
            refine J_iconst (v := 1) (pc' := 94) dX7_put_93 (by decide) rfl ?_
            have eN : v.toInt16.toInt32 = sNar (restM w 6 s0) v := ((if_neg h_67).trans (if_pos (by first | exact h_83 | exact Decidable.not_not.mp h_83))).symm
            exact J_iret dX7_put_94  (by unfold sq_put; rw [if_pos hx, nn_nI (by omega), if_neg h6, if_pos (show 0 ≤ nI p0 ∧ nI p0 ≤ restM w 7 s0 - 1 from by rw [hsz]; exact jb_n h_25), nn_nI (by omega)]; rw [← eN]; exact ⟨rfl, mq_sh hV ((frC.rf w).set (a := 75) (k := 24 * s0 + p0) (by decide) (by decide)) (rm_row s04 (by omega))⟩)
        · refine J_iload_n (pc' := 71) dX7_put_70 rfl rfl ?_
          refine J_i2b (pc' := 72) dX7_put_71 rfl ?_
          refine J_goto (pc' := 0) 92 dX7_put_72 (by decide) ?_
          refine J_iast (24 * s0 + p0) (pc' := 93) dX7_put_92 (ly_75) (l84_75) (jadd (jmul nIc_24 rfl) rfl) (by omega) (by decide) rfl ?_
          refine J_iconst (v := 1) (pc' := 94) dX7_put_93 (by decide) rfl ?_
          have eN : v.toInt8.toInt32 = sNar (restM w 6 s0) v := (if_pos (by first | exact h_67 | exact Decidable.not_not.mp h_67)).symm
          exact J_iret dX7_put_94  (by unfold sq_put; rw [if_pos hx, nn_nI (by omega), if_neg h6, if_pos (show 0 ≤ nI p0 ∧ nI p0 ≤ restM w 7 s0 - 1 from by rw [hsz]; exact jb_n h_25), nn_nI (by omega)]; rw [← eN]; exact ⟨rfl, mq_sh hV ((frC.rf w).set (a := 75) (k := 24 * s0 + p0) (by decide) (by decide)) (rm_row s04 (by omega))⟩)
      · refine J_ldc (pc' := 30) dX7_put_28 kc_7_125 rfl ?_
        refine J_goto (pc' := 0) 35 dX7_put_30 (by decide) ?_
        refine J_istore (pc' := 37) dX7_put_35 (Nat.le_of_ble_eq_true rfl) (jst4 rfl rfl) rfl ?_
        refine J_iload (pc' := 39) dX7_put_37 rfl rfl ?_
        refine J_if_eq 49 (pc' := 42) dX7_put_39 (by decide) rfl (fun h_39 => absurd h_39 (by decide)) (fun h_39 => ?_)
        refine J_aload_n (pc' := 43) dX7_put_42 rfl rfl ?_
        refine J_iload (pc' := 45) dX7_put_43 rfl rfl ?_
        refine J_V1v (pc' := 48) dX7_put_45 lk_7_126 cd_X7_error (k_merr (k := 1) (by decide) (by decide)) (ly_68) (l84_68) rfl rfl (jroom_of rfl) (Nat.le_of_ble_eq_true rfl) rfl ?_
        exact J_iret dX7_put_48  (by unfold sq_put; rw [if_pos hx, nn_nI (by omega), if_neg h6, if_neg (show ¬ (0 ≤ p ∧ p ≤ restM w 7 s0 - 1) from by rw [hsz]; exact jb_0.mp h_25)]; exact ⟨rfl, mq_err hV (by decide)⟩)
  · rw [show nTh (restM w) x = sErr 1 from if_neg hx]
    refine J_iload (pc' := 9) dX7_put_7 rfl rfl ?_
    refine J_if_ne 33 (pc' := 12) dX7_put_9 (by decide) rfl (fun h_9 => ?_) (fun h_9 => absurd h_9 (by decide))
    refine J_iload (pc' := 35) dX7_put_33 rfl rfl ?_
    refine J_istore (pc' := 37) dX7_put_35 (Nat.le_of_ble_eq_true rfl) (jst4 rfl rfl) rfl ?_
    refine J_iload (pc' := 39) dX7_put_37 rfl rfl ?_
    refine J_if_eq 49 (pc' := 42) dX7_put_39 (by decide) rfl (fun h_39 => absurd h_39 (by decide)) (fun h_39 => ?_)
    refine J_aload_n (pc' := 43) dX7_put_42 rfl rfl ?_
    refine J_iload (pc' := 45) dX7_put_43 rfl rfl ?_
    refine J_V1v (pc' := 48) dX7_put_45 lk_7_126 cd_X7_error (k_merr (k := 1) (by decide) (by decide)) (ly_68) (l84_68) rfl rfl (jroom_of rfl) (Nat.le_of_ble_eq_true rfl) rfl ?_
    exact J_iret dX7_put_48  (by unfold sq_put; rw [if_neg hx]; exact ⟨rfl, mq_err hV (by decide)⟩)
theorem min_l {a b j : Nat} (h : j = Nat.min a b) : a ≤ j ∨ b ≤ j := by
  have h2 : j = min a b := h
  omega
theorem min_s {a b j : Nat} (h : j < Nat.min a b) : j < a ∧ j < b := ⟨Nat.lt_of_lt_of_le h (Nat.min_le_left a b), Nat.lt_of_lt_of_le h (Nat.min_le_right a b)⟩
set_option maxHeartbeats 4000000 in
set_option maxRecDepth 100000 in
theorem l_mju {G : jG} {w : jWd} (hI : sInv (abM (w.1 69))) {s0 T : Nat} (s04 : s0 < 4) (hT24 : T ≤ 24) (h7 : w.1 74 s0 = nI T) {K : Nat} (hK : K = Nat.min (sM (abM (w.1 69))) T) {Q : Option Value → jWd → Prop} (hQ : Q (some (.int (sJdg (restM w) (abM (w.1 69)) s0 K 0))) w) : ∀ n j : Nat, j + n = K → ∀ (_ : sJdg (restM w) (abM (w.1 69)) s0 K 0 = sJdg (restM w) (abM (w.1 69)) s0 n j), J G (jM G 4 RX7 cX7_judge 4 (some .int) (Q)) w 18 [some (.ref 68), some (.int (nI s0)), none, some (.int (nI j))] [] := by
  have hM : w.1 69 2 = nI (sM (abM (w.1 69))) := (sIM hI).1
  have hM8 := (sIM hI).2
  intro n
  induction n with
  | zero =>
    intro j hj hr
    have hjT : j ≤ T := by rw [show j = K by omega, hK]; exact Nat.min_le_right _ _
    refine J_iload_n (pc' := 19) dX7_judge_18 rfl rfl ?_
    refine J_aload_n (pc' := 20) dX7_judge_19 rfl rfl ?_
    refine J_getR (pc' := 23) dX7_judge_20 fl_7_25 (ly_68) (l84_68) rfl rfl ?_
    refine J_iload_n (pc' := 24) dX7_judge_23 rfl rfl ?_
    refine J_iald s0 (pc' := 25) dX7_judge_24 (ly_74) (l84_74) rfl s04 (by decide) rfl ?_
    rw [h7]
    refine J_icmp_ge 64 (pc' := 28) dX7_judge_25 (by decide) rfl (fun h_25 => ?_) (fun h_25 => ?_)
    · refine J_iload_n (pc' := 65) dX7_judge_64 rfl rfl ?_
      exact J_iret dX7_judge_65  (by rw [hr] at hQ; exact hQ)
    · refine J_iload_n (pc' := 29) dX7_judge_28 rfl rfl ?_
      refine J_aload_n (pc' := 30) dX7_judge_29 rfl rfl ?_
      refine J_getR (pc' := 33) dX7_judge_30 fl_7_9 (ly_68) (l84_68) rfl rfl ?_
      refine J_iconst (v := 2) (pc' := 34) dX7_judge_33 (by decide) rfl ?_
      refine J_iald 2 (pc' := 35) dX7_judge_34 (ly_69) (l84_69) nIc_2 (by decide) (by decide) rfl ?_
      refine J_icmp_ge 64 (pc' := 38) dX7_judge_35 (by decide) rfl (fun h_35 => ?_) (fun h_35 => absurd (by rw [hM]; have q1 := mt (fun q => nI_le (a := T) (b := j) q (by omega)) h_25; have q2 := min_l (show j = Nat.min (sM (abM (w.1 69))) T by omega); exact nI_le (by omega) (by omega)) h_35)
      refine J_iload_n (pc' := 65) dX7_judge_64 rfl rfl ?_
      exact J_iret dX7_judge_65  (by rw [hr] at hQ; exact hQ)
  | succ n ih =>
    intro j hj hr
    have hjm := min_s (a := sM (abM (w.1 69))) (b := T) (j := j) (by omega)
    have h8 : j < 8 := by omega
    refine J_iload_n (pc' := 19) dX7_judge_18 rfl rfl ?_
    refine J_aload_n (pc' := 20) dX7_judge_19 rfl rfl ?_
    refine J_getR (pc' := 23) dX7_judge_20 fl_7_25 (ly_68) (l84_68) rfl rfl ?_
    refine J_iload_n (pc' := 24) dX7_judge_23 rfl rfl ?_
    refine J_iald s0 (pc' := 25) dX7_judge_24 (ly_74) (l84_74) rfl s04 (by decide) rfl ?_
    rw [h7]
    refine J_icmp_ge 64 (pc' := 28) dX7_judge_25 (by decide) rfl (fun h_25 => absurd h_25 (nI_ge (by omega) (by omega))) (fun h_25 => ?_)
    refine J_iload_n (pc' := 29) dX7_judge_28 rfl rfl ?_
    refine J_aload_n (pc' := 30) dX7_judge_29 rfl rfl ?_
    refine J_getR (pc' := 33) dX7_judge_30 fl_7_9 (ly_68) (l84_68) rfl rfl ?_
    refine J_iconst (v := 2) (pc' := 34) dX7_judge_33 (by decide) rfl ?_
    refine J_iald 2 (pc' := 35) dX7_judge_34 (ly_69) (l84_69) nIc_2 (by decide) (by decide) rfl ?_
    refine J_icmp_ge 64 (pc' := 38) dX7_judge_35 (by decide) rfl (fun h_35 => absurd h_35 (by rw [hM]; exact nI_ge (by omega) (by omega))) (fun h_35 => ?_)
    refine J_aload_n (pc' := 39) dX7_judge_38 rfl rfl ?_
    refine J_getR (pc' := 42) dX7_judge_39 fl_7_28 (ly_68) (l84_68) rfl rfl ?_
    refine J_bipush (v := 24) (pc' := 44) dX7_judge_42 (by decide) rfl ?_
    refine J_iload_n (pc' := 45) dX7_judge_44 rfl rfl ?_
    refine J_imul (pc' := 46) dX7_judge_45 rfl ?_
    refine J_iload_n (pc' := 47) dX7_judge_46 rfl rfl ?_
    refine J_iadd (pc' := 48) dX7_judge_47 rfl ?_
    refine J_iald (24 * s0 + j) (pc' := 49) dX7_judge_48 (ly_75) (l84_75) (jadd (jmul nIc_24 rfl) rfl) (by omega) (by decide) rfl ?_
    rw [rm_c s04 (by omega)]
    refine J_aload_n (pc' := 50) dX7_judge_49 rfl rfl ?_
    refine J_iload_n (pc' := 51) dX7_judge_50 rfl rfl ?_
    refine J_iconst (v := 4) (pc' := 52) dX7_judge_51 (by decide) rfl ?_
    refine J_V2v (pc' := 55) dX7_judge_52 lk_7_65 cd_X7_of (k_mof4 h8) (ly_68) (l84_68) rfl rfl (jroom_of rfl) (Nat.le_of_ble_eq_true rfl) rfl ?_
    refine J_icmp_ne 64 (pc' := 58) dX7_judge_55 (by decide) rfl (fun h_55 => ?_) (fun h_55 => ?_)
    · refine J_iload_n (pc' := 65) dX7_judge_64 rfl rfl ?_
      exact J_iret dX7_judge_65  (by rw [hr.trans (if_neg h_55)] at hQ; exact hQ)
    · refine J_iinc (pc' := 61) dX7_judge_58 rfl (Nat.le_of_ble_eq_true rfl) (jst3 rfl rfl) rfl ?_
      refine J_goto (pc' := 0) 18 dX7_judge_61 (by decide) ?_
      have h2 := ih (j + 1) (by omega) (hr.trans (if_pos (by first | exact h_55 | exact Decidable.not_not.mp h_55)))
      rw [← z1 j] at h2
      exact h2
set_option maxHeartbeats 4000000 in
set_option maxRecDepth 100000 in
theorem b_X7_judge {G : jG} {w : jWd} (hV : MInv w) (hI : sInv (abM (w.1 69))) (hRI : rInv (restM w)) {x : Int32} : jKp G 4 yX7_judge cX7_judge 4 (some .int) [.ref 68, .int x] w (some (.int (sq_judge (abM (w.1 69)) (abM (w.1 70)) (restM w) x).1)) (fun w' => RQ w w' (sq_judge (abM (w.1 69)) (abM (w.1 70)) (restM w) x).2) := by
  have hT := hV.1
  refine jK_of (own := RX7) [some (.ref 68), some (.int x), none, none] pn7 rfl (Nat.le_of_ble_eq_true rfl) rfl ?_
  refine J_aload_n (pc' := 1) dX7_judge_0 rfl rfl ?_
  refine J_iload_n (pc' := 2) dX7_judge_1 rfl rfl ?_
  refine J_V1v (pc' := 5) dX7_judge_2 lk_7_302 cd_X7_notThere (k_mnt) (ly_68) (l84_68) rfl rfl (jroom_of rfl) (Nat.le_of_ble_eq_true rfl) rfl ?_
  refine J_istore_n (pc' := 6) dX7_judge_5 (Nat.le_of_ble_eq_true rfl) (jst2 rfl rfl) rfl ?_
  by_cases hx : 0 ≤ x ∧ x ≤ 3
  · obtain ⟨s0, hs0, rfl⟩ := rng0_ex (n := 3) (by omega) (show 0 ≤ x ∧ x ≤ nI 3 from hx)
    have s04 : s0 < 4 := by omega
    by_cases h6 : restM w 6 s0 = 0
    · rw [show nTh (restM w) (nI s0) = sErr 2 from (if_pos hx).trans (if_pos (by rw [nn_nI (by omega)]; exact h6))]
      refine J_iload_n (pc' := 7) dX7_judge_6 rfl rfl ?_
      refine J_if_eq 16 (pc' := 10) dX7_judge_7 (by decide) rfl (fun h_7 => absurd h_7 (by decide)) (fun h_7 => ?_)
      refine J_aload_n (pc' := 11) dX7_judge_10 rfl rfl ?_
      refine J_iload_n (pc' := 12) dX7_judge_11 rfl rfl ?_
      refine J_V1v (pc' := 15) dX7_judge_12 lk_7_126 cd_X7_error (k_merr (k := 2) (by decide) (by decide)) (ly_68) (l84_68) rfl rfl (jroom_of rfl) (Nat.le_of_ble_eq_true rfl) rfl ?_
      exact J_iret dX7_judge_15  (by unfold sq_judge; rw [if_pos hx, nn_nI (by omega), if_pos h6]; exact ⟨rfl, mq_err hV (by decide)⟩)
    · rw [show nTh (restM w) (nI s0) = 0 from (if_pos hx).trans (if_neg (by rw [nn_nI (by omega)]; exact h6))]
      obtain ⟨T, hsz, hT24⟩ := (hRI.2 s0 s04).1
      have hnT : nn (restM w 7 s0) = T := by rw [hsz, nn_nI (by omega)]
      have h7 : w.1 74 s0 = nI T := (rm_7 s04).trans hsz
      have hb6 := rm_6 (w := w) s04
      refine J_iload_n (pc' := 7) dX7_judge_6 rfl rfl ?_
      refine J_if_eq 16 (pc' := 10) dX7_judge_7 (by decide) rfl (fun h_7 => ?_) (fun h_7 => absurd rfl h_7)
      refine J_iconst (v := 0) (pc' := 17) dX7_judge_16 (by decide) rfl ?_
      refine J_istore_n (pc' := 18) dX7_judge_17 (Nat.le_of_ble_eq_true rfl) (jst3 rfl rfl) rfl ?_
      have hn2 : (sTelN (restM w) (abM (w.1 69)) s0) = Nat.min (sM (abM (w.1 69))) T := by unfold sTelN; rw [hnT]
      refine J_mask [true, true, false, true] (l_mju hI s04 hT24 h7 (K := Nat.min (sM (abM (w.1 69))) T) rfl ?_ (Nat.min (sM (abM (w.1 69))) T) 0 (by omega) rfl)
      unfold sq_judge
      rw [if_pos hx, nn_nI (by omega), if_neg h6, hn2]
      exact ⟨rfl, mq_rf hV⟩
  · rw [show nTh (restM w) x = sErr 1 from if_neg hx]
    refine J_iload_n (pc' := 7) dX7_judge_6 rfl rfl ?_
    refine J_if_eq 16 (pc' := 10) dX7_judge_7 (by decide) rfl (fun h_7 => absurd h_7 (by decide)) (fun h_7 => ?_)
    refine J_aload_n (pc' := 11) dX7_judge_10 rfl rfl ?_
    refine J_iload_n (pc' := 12) dX7_judge_11 rfl rfl ?_
    refine J_V1v (pc' := 15) dX7_judge_12 lk_7_126 cd_X7_error (k_merr (k := 1) (by decide) (by decide)) (ly_68) (l84_68) rfl rfl (jroom_of rfl) (Nat.le_of_ble_eq_true rfl) rfl ?_
    exact J_iret dX7_judge_15  (by unfold sq_judge; rw [if_neg hx]; exact ⟨rfl, mq_err hV (by decide)⟩)
set_option maxHeartbeats 4000000 in
set_option maxRecDepth 100000 in
theorem l_mte {G : jG} {w : jWd} (hI : sInv (abM (w.1 69))) {s0 T : Nat} (s04 : s0 < 4) (hT24 : T ≤ 24) (h7 : w.1 74 s0 = nI T) {K : Nat} (hK : K = Nat.min (sM (abM (w.1 69))) T) {Q : Option Value → jWd → Prop} (hQ : ∀ w2, abM (w2.1 69) = (sTel (restM w) s0 K 0 (abM (w.1 69))).2 → frG w w2 → Q (some (.int (sTel (restM w) s0 K 0 (abM (w.1 69))).1)) w2) : ∀ n j : Nat, j + n = K → ∀ (w2 : jWd) (τ : sg) (_ : abM (w2.1 69) = τ) (_ : w2.1 69 2 = nI (sM (abM (w.1 69)))) (_ : frG w w2) (_ : sTel (restM w) s0 K 0 (abM (w.1 69)) = sTel (restM w) s0 n j τ), J G (jM G 4 RX7 cX7_tells 4 (some .int) (Q)) w2 18 [some (.ref 68), some (.int (nI s0)), none, some (.int (nI j))] [] := by
  have hM : w.1 69 2 = nI (sM (abM (w.1 69))) := (sIM hI).1
  have hM8 := (sIM hI).2
  intro n
  induction n with
  | zero =>
    intro j hj w2 τ e2 hm fr hr
    have hM2 : w2.1 69 2 = nI (sM (abM (w.1 69))) := hm
    have h7w : w2.1 74 s0 = nI T := by rw [fr.1 74 (by decide)]; exact h7
    have hjT : j ≤ T := by rw [show j = K by omega, hK]; exact Nat.min_le_right _ _
    refine J_iload_n (pc' := 19) dX7_tells_18 rfl rfl ?_
    refine J_aload_n (pc' := 20) dX7_tells_19 rfl rfl ?_
    refine J_getR (pc' := 23) dX7_tells_20 fl_7_25 (ly_68) (l84_68) rfl rfl ?_
    refine J_iload_n (pc' := 24) dX7_tells_23 rfl rfl ?_
    refine J_iald s0 (pc' := 25) dX7_tells_24 (ly_74) (l84_74) rfl s04 (by decide) rfl ?_
    rw [h7w]
    refine J_icmp_ge 82 (pc' := 28) dX7_tells_25 (by decide) rfl (fun h_25 => ?_) (fun h_25 => ?_)
    · refine J_iload_n (pc' := 83) dX7_tells_82 rfl rfl ?_
      exact J_iret dX7_tells_83  (by have q := hQ w2 (by rw [hr]; exact e2) fr; rw [hr] at q; exact q)
    · refine J_iload_n (pc' := 29) dX7_tells_28 rfl rfl ?_
      refine J_aload_n (pc' := 30) dX7_tells_29 rfl rfl ?_
      refine J_getR (pc' := 33) dX7_tells_30 fl_7_9 (ly_68) (l84_68) rfl rfl ?_
      refine J_iconst (v := 2) (pc' := 34) dX7_tells_33 (by decide) rfl ?_
      refine J_iald 2 (pc' := 35) dX7_tells_34 (ly_69) (l84_69) nIc_2 (by decide) (by decide) rfl ?_
      refine J_icmp_ge 82 (pc' := 38) dX7_tells_35 (by decide) rfl (fun h_35 => ?_) (fun h_35 => absurd (by rw [hM2]; have q1 := mt (fun q => nI_le (a := T) (b := j) q (by omega)) h_25; have q2 := min_l (show j = Nat.min (sM (abM (w.1 69))) T by omega); exact nI_le (by omega) (by omega)) h_35)
      refine J_iload_n (pc' := 83) dX7_tells_82 rfl rfl ?_
      exact J_iret dX7_tells_83  (by have q := hQ w2 (by rw [hr]; exact e2) fr; rw [hr] at q; exact q)
  | succ n ih =>
    intro j hj w2 τ e2 hm fr hr
    have hM2 : w2.1 69 2 = nI (sM (abM (w.1 69))) := hm
    have h7w : w2.1 74 s0 = nI T := by rw [fr.1 74 (by decide)]; exact h7
    have hjm := min_s (a := sM (abM (w.1 69))) (b := T) (j := j) (by omega)
    have h8 : j < 8 := by omega
    have hcl : w2.1 75 (24 * s0 + j) = restM w (2 + s0) j := by rw [fr.1 75 (by decide)]; exact rm_c s04 (by omega)
    refine J_iload_n (pc' := 19) dX7_tells_18 rfl rfl ?_
    refine J_aload_n (pc' := 20) dX7_tells_19 rfl rfl ?_
    refine J_getR (pc' := 23) dX7_tells_20 fl_7_25 (ly_68) (l84_68) rfl rfl ?_
    refine J_iload_n (pc' := 24) dX7_tells_23 rfl rfl ?_
    refine J_iald s0 (pc' := 25) dX7_tells_24 (ly_74) (l84_74) rfl s04 (by decide) rfl ?_
    rw [h7w]
    refine J_icmp_ge 82 (pc' := 28) dX7_tells_25 (by decide) rfl (fun h_25 => absurd h_25 (nI_ge (by omega) (by omega))) (fun h_25 => ?_)
    refine J_iload_n (pc' := 29) dX7_tells_28 rfl rfl ?_
    refine J_aload_n (pc' := 30) dX7_tells_29 rfl rfl ?_
    refine J_getR (pc' := 33) dX7_tells_30 fl_7_9 (ly_68) (l84_68) rfl rfl ?_
    refine J_iconst (v := 2) (pc' := 34) dX7_tells_33 (by decide) rfl ?_
    refine J_iald 2 (pc' := 35) dX7_tells_34 (ly_69) (l84_69) nIc_2 (by decide) (by decide) rfl ?_
    refine J_icmp_ge 82 (pc' := 38) dX7_tells_35 (by decide) rfl (fun h_35 => absurd h_35 (by rw [hM2]; exact nI_ge (by omega) (by omega))) (fun h_35 => ?_)
    refine J_aload_n (pc' := 39) dX7_tells_38 rfl rfl ?_
    refine J_getR (pc' := 42) dX7_tells_39 fl_7_28 (ly_68) (l84_68) rfl rfl ?_
    refine J_bipush (v := 24) (pc' := 44) dX7_tells_42 (by decide) rfl ?_
    refine J_iload_n (pc' := 45) dX7_tells_44 rfl rfl ?_
    refine J_imul (pc' := 46) dX7_tells_45 rfl ?_
    refine J_iload_n (pc' := 47) dX7_tells_46 rfl rfl ?_
    refine J_iadd (pc' := 48) dX7_tells_47 rfl ?_
    refine J_iald (24 * s0 + j) (pc' := 49) dX7_tells_48 (ly_75) (l84_75) (jadd (jmul nIc_24 rfl) rfl) (by omega) (by decide) rfl ?_
    rw [hcl]
    refine J_bipush (v := (-20)) (pc' := 51) dX7_tells_49 (by decide) rfl ?_
    refine J_bipush (v := 20) (pc' := 53) dX7_tells_51 (by decide) rfl ?_
    refine J_S3v (pc' := 56) dX7_tells_53 lk_7_61 cd_X7_in (k_X7_in) (jroom_of rfl) (Nat.le_of_ble_eq_true rfl) rfl ?_
    refine J_if_eq 82 (pc' := 59) dX7_tells_56 (by decide) rfl (fun h_56 => ?_) (fun h_56 => ?_)
    · refine J_iload_n (pc' := 83) dX7_tells_82 rfl rfl ?_
      have hz : (sTel (restM w) s0 (n + 1) j τ) = (nI j, τ) := if_neg (jb_0.mp h_56)
      exact J_iret dX7_tells_83  (by have q := hQ w2 (by rw [hr, hz]; exact e2) fr; rw [hr, hz] at q; exact q)
    · refine J_aload_n (pc' := 60) dX7_tells_59 rfl rfl ?_
      refine J_iload_n (pc' := 61) dX7_tells_60 rfl rfl ?_
      refine J_iconst (v := 4) (pc' := 62) dX7_tells_61 (by decide) rfl ?_
      refine J_aload_n (pc' := 63) dX7_tells_62 rfl rfl ?_
      refine J_getR (pc' := 66) dX7_tells_63 fl_7_28 (ly_68) (l84_68) rfl rfl ?_
      refine J_bipush (v := 24) (pc' := 68) dX7_tells_66 (by decide) rfl ?_
      refine J_iload_n (pc' := 69) dX7_tells_68 rfl rfl ?_
      refine J_imul (pc' := 70) dX7_tells_69 rfl ?_
      refine J_iload_n (pc' := 71) dX7_tells_70 rfl rfl ?_
      refine J_iadd (pc' := 72) dX7_tells_71 rfl ?_
      refine J_iald (24 * s0 + j) (pc' := 73) dX7_tells_72 (ly_75) (l84_75) (jadd (jmul nIc_24 rfl) rfl) (by omega) (by decide) rfl ?_
      rw [hcl]
      refine J_V30 (pc' := 76) dX7_tells_73 lk_7_130 cd_X7_puts (k_mputs h8 (c := 4) (by decide) nIc_4) (ly_68) (l84_68) rfl rfl (jroom_of rfl) (Nat.le_of_ble_eq_true rfl) rfl ?_
      refine J_iinc (pc' := 79) dX7_tells_76 rfl (Nat.le_of_ble_eq_true rfl) (jst3 rfl rfl) rfl ?_
      refine J_goto (pc' := 0) 18 dX7_tells_79 (by decide) ?_
      have h2 := ih (j + 1) (by omega) _ (sg1 τ 4 j (restM w (2 + s0) j)) (by rw [ams4 h8, e2]) (by rw [jset_1, if_pos rfl, if_neg (by omega)]; exact hm) (fr.set (i := 8 + 6 * j + 4) (by omega)) (hr.trans (if_pos (jb_n h_56)))
      rw [← z1 j] at h2
      exact h2
set_option maxHeartbeats 4000000 in
set_option maxRecDepth 100000 in
theorem b_X7_tells {G : jG} {w : jWd} (hV : MInv w) (hI : sInv (abM (w.1 69))) (hRI : rInv (restM w)) {x : Int32} : jKp G 4 yX7_tells cX7_tells 4 (some .int) [.ref 68, .int x] w (some (.int (sq_tells (abM (w.1 69)) (abM (w.1 70)) (restM w) x).1)) (fun w' => RQ w w' (sq_tells (abM (w.1 69)) (abM (w.1 70)) (restM w) x).2) := by
  have hT := hV.1
  refine jK_of (own := RX7) [some (.ref 68), some (.int x), none, none] pn7 rfl (Nat.le_of_ble_eq_true rfl) rfl ?_
  refine J_aload_n (pc' := 1) dX7_tells_0 rfl rfl ?_
  refine J_iload_n (pc' := 2) dX7_tells_1 rfl rfl ?_
  refine J_V1v (pc' := 5) dX7_tells_2 lk_7_302 cd_X7_notThere (k_mnt) (ly_68) (l84_68) rfl rfl (jroom_of rfl) (Nat.le_of_ble_eq_true rfl) rfl ?_
  refine J_istore_n (pc' := 6) dX7_tells_5 (Nat.le_of_ble_eq_true rfl) (jst2 rfl rfl) rfl ?_
  by_cases hx : 0 ≤ x ∧ x ≤ 3
  · obtain ⟨s0, hs0, rfl⟩ := rng0_ex (n := 3) (by omega) (show 0 ≤ x ∧ x ≤ nI 3 from hx)
    have s04 : s0 < 4 := by omega
    by_cases h6 : restM w 6 s0 = 0
    · rw [show nTh (restM w) (nI s0) = sErr 2 from (if_pos hx).trans (if_pos (by rw [nn_nI (by omega)]; exact h6))]
      refine J_iload_n (pc' := 7) dX7_tells_6 rfl rfl ?_
      refine J_if_eq 16 (pc' := 10) dX7_tells_7 (by decide) rfl (fun h_7 => absurd h_7 (by decide)) (fun h_7 => ?_)
      refine J_aload_n (pc' := 11) dX7_tells_10 rfl rfl ?_
      refine J_iload_n (pc' := 12) dX7_tells_11 rfl rfl ?_
      refine J_V1v (pc' := 15) dX7_tells_12 lk_7_126 cd_X7_error (k_merr (k := 2) (by decide) (by decide)) (ly_68) (l84_68) rfl rfl (jroom_of rfl) (Nat.le_of_ble_eq_true rfl) rfl ?_
      exact J_iret dX7_tells_15  (by unfold sq_tells; rw [if_pos hx, nn_nI (by omega), if_pos h6]; exact ⟨rfl, mq_err hV (by decide)⟩)
    · rw [show nTh (restM w) (nI s0) = 0 from (if_pos hx).trans (if_neg (by rw [nn_nI (by omega)]; exact h6))]
      obtain ⟨T, hsz, hT24⟩ := (hRI.2 s0 s04).1
      have hnT : nn (restM w 7 s0) = T := by rw [hsz, nn_nI (by omega)]
      have h7 : w.1 74 s0 = nI T := (rm_7 s04).trans hsz
      have hb6 := rm_6 (w := w) s04
      refine J_iload_n (pc' := 7) dX7_tells_6 rfl rfl ?_
      refine J_if_eq 16 (pc' := 10) dX7_tells_7 (by decide) rfl (fun h_7 => ?_) (fun h_7 => absurd rfl h_7)
      refine J_iconst (v := 0) (pc' := 17) dX7_tells_16 (by decide) rfl ?_
      refine J_istore_n (pc' := 18) dX7_tells_17 (Nat.le_of_ble_eq_true rfl) (jst3 rfl rfl) rfl ?_
      have hn2 : (sTelN (restM w) (abM (w.1 69)) s0) = Nat.min (sM (abM (w.1 69))) T := by unfold sTelN; rw [hnT]
      refine J_mask [true, true, false, true] (l_mte hI s04 hT24 h7 (K := Nat.min (sM (abM (w.1 69))) T) rfl (fun w2 q1 q2 => ?_) (Nat.min (sM (abM (w.1 69))) T) 0 (by omega) w _ rfl (sIM hI).1 (frG.rf w) rfl)
      unfold sq_tells
      rw [if_pos hx, nn_nI (by omega), if_neg h6, hn2]
      exact ⟨rfl, mq_row hV q2 q1⟩
  · rw [show nTh (restM w) x = sErr 1 from if_neg hx]
    refine J_iload_n (pc' := 7) dX7_tells_6 rfl rfl ?_
    refine J_if_eq 16 (pc' := 10) dX7_tells_7 (by decide) rfl (fun h_7 => absurd h_7 (by decide)) (fun h_7 => ?_)
    refine J_aload_n (pc' := 11) dX7_tells_10 rfl rfl ?_
    refine J_iload_n (pc' := 12) dX7_tells_11 rfl rfl ?_
    refine J_V1v (pc' := 15) dX7_tells_12 lk_7_126 cd_X7_error (k_merr (k := 1) (by decide) (by decide)) (ly_68) (l84_68) rfl rfl (jroom_of rfl) (Nat.le_of_ble_eq_true rfl) rfl ?_
    exact J_iret dX7_tells_15  (by unfold sq_tells; rw [if_neg hx]; exact ⟨rfl, mq_err hV (by decide)⟩)
