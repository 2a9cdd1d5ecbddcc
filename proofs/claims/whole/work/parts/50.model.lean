/-! ===== the reference: small methods ===== -/
/-! ===== the reference: small methods ===== -/
theorem am0 {w : jWd} {k : Nat} (h : k < 8) : w.1 69 (8 + 6 * k + 0) = abM (w.1 69) 0 k := (if_pos h).symm
theorem am1 {w : jWd} {k : Nat} (h : k < 8) : w.1 69 (8 + 6 * k + 1) = abM (w.1 69) 1 k := (if_pos h).symm
theorem am2 {w : jWd} {k : Nat} (h : k < 8) : w.1 69 (8 + 6 * k + 2) = abM (w.1 69) 2 k := (if_pos h).symm
theorem am3 {w : jWd} {k : Nat} (h : k < 8) : w.1 69 (8 + 6 * k + 3) = abM (w.1 69) 3 k := (if_pos h).symm
theorem am4 {w : jWd} {k : Nat} (h : k < 8) : w.1 69 (8 + 6 * k + 4) = abM (w.1 69) 4 k := (if_pos h).symm
theorem am5 {w : jWd} {k : Nat} (h : k < 8) : w.1 69 (8 + 6 * k + 5) = abM (w.1 69) 5 k := (if_pos h).symm
theorem nI_toI {k : Nat} (h : k < 2 ^ 31) : nn (nI k) = k := nn_nI h
set_option maxHeartbeats 4000000 in
set_option maxRecDepth 100000 in
theorem k_X7_in {G : jG} {w : jWd} {x a b : Int32} : jKd G 0 yX7_in cX7_in 3 (some .boolean) [.int x, .int a, .int b] w (some (.int (jb (a ≤ x ∧ x ≤ b)))) w := by
  refine jK_of (own := RX7) [some (.int x), some (.int a), some (.int b)] pn7 rfl (Nat.le_of_ble_eq_true rfl) rfl ?_
  refine J_iload_n (pc' := 1) dX7_in_0 rfl rfl ?_
  refine J_iload_n (pc' := 2) dX7_in_1 rfl rfl ?_
  refine J_icmp_lt 14 (pc' := 5) dX7_in_2 (by decide) rfl (fun h_2 => ?_) (fun h_2 => ?_)
  · refine J_iconst (v := 0) (pc' := 15) dX7_in_14 (by decide) rfl ?_
    first | exact J_zret dX7_in_15 (Or.inl rfl) ⟨jv (jb_t ⟨by first | exact h_2 | exact Int32.not_lt.mp h_2, by first | exact h_7 | exact Int32.not_lt.mp h_7⟩).symm, rfl⟩ | exact J_zret dX7_in_15 (Or.inl rfl) ⟨jv (jb_f (fun q => by first | exact absurd h_2 (Int32.not_lt.mpr q.1) | exact absurd h_7 (Int32.not_lt.mpr q.2))).symm, rfl⟩
  · refine J_iload_n (pc' := 6) dX7_in_5 rfl rfl ?_
    refine J_iload_n (pc' := 7) dX7_in_6 rfl rfl ?_
    refine J_icmp_gt 14 (pc' := 10) dX7_in_7 (by decide) rfl (fun h_7 => ?_) (fun h_7 => ?_)
    · refine J_iconst (v := 0) (pc' := 15) dX7_in_14 (by decide) rfl ?_
      first | exact J_zret dX7_in_15 (Or.inl rfl) ⟨jv (jb_t ⟨by first | exact h_2 | exact Int32.not_lt.mp h_2, by first | exact h_7 | exact Int32.not_lt.mp h_7⟩).symm, rfl⟩ | exact J_zret dX7_in_15 (Or.inl rfl) ⟨jv (jb_f (fun q => by first | exact absurd h_2 (Int32.not_lt.mpr q.1) | exact absurd h_7 (Int32.not_lt.mpr q.2))).symm, rfl⟩
    · refine J_iconst (v := 1) (pc' := 11) dX7_in_10 (by decide) rfl ?_
      refine J_goto (pc' := 0) 15 dX7_in_11 (by decide) ?_
      first | exact J_zret dX7_in_15 (Or.inr rfl) ⟨jv (jb_t ⟨by first | exact h_2 | exact Int32.not_lt.mp h_2, by first | exact h_7 | exact Int32.not_lt.mp h_7⟩).symm, rfl⟩ | exact J_zret dX7_in_15 (Or.inr rfl) ⟨jv (jb_f (fun q => by first | exact absurd h_2 (Int32.not_lt.mpr q.1) | exact absurd h_7 (Int32.not_lt.mpr q.2))).symm, rfl⟩
set_option maxHeartbeats 4000000 in
set_option maxRecDepth 100000 in
theorem k_X7_held {G : jG} {w : jWd} {x a b : Int32} : jKd G 0 yX7_held cX7_held 3 (some .int) [.int x, .int a, .int b] w (some (.int (sHeld x a b))) w := by
  refine jK_of (own := RX7) [some (.int x), some (.int a), some (.int b)] pn7 rfl (Nat.le_of_ble_eq_true rfl) rfl ?_
  refine J_iload_n (pc' := 1) dX7_held_0 rfl rfl ?_
  refine J_iload_n (pc' := 2) dX7_held_1 rfl rfl ?_
  refine J_icmp_ge 9 (pc' := 5) dX7_held_2 (by decide) rfl (fun h_2 => ?_) (fun h_2 => ?_)
  · refine J_iload_n (pc' := 10) dX7_held_9 rfl rfl ?_
    refine J_iload_n (pc' := 11) dX7_held_10 rfl rfl ?_
    refine J_icmp_le 18 (pc' := 14) dX7_held_11 (by decide) rfl (fun h_11 => ?_) (fun h_11 => ?_)
    · refine J_iload_n (pc' := 19) dX7_held_18 rfl rfl ?_
      exact J_iret dX7_held_19  (by unfold sHeld; first | (rw [if_pos (by first | exact h_2 | exact Int32.not_le.mp h_2)]; exact ⟨rfl, rfl⟩) | (rw [if_neg (by first | exact h_2 | exact Int32.not_lt.mpr h_2), if_pos (by first | exact h_11 | exact Int32.not_le.mp h_11)]; exact ⟨rfl, rfl⟩) | (rw [if_neg (by first | exact h_2 | exact Int32.not_lt.mpr h_2), if_neg (by first | exact h_11 | exact Int32.not_lt.mpr h_11)]; exact ⟨rfl, rfl⟩))
    · refine J_iload_n (pc' := 15) dX7_held_14 rfl rfl ?_
      refine J_goto (pc' := 0) 19 dX7_held_15 (by decide) ?_
      exact J_iret dX7_held_19  (by unfold sHeld; first | (rw [if_pos (by first | exact h_2 | exact Int32.not_le.mp h_2)]; exact ⟨rfl, rfl⟩) | (rw [if_neg (by first | exact h_2 | exact Int32.not_lt.mpr h_2), if_pos (by first | exact h_11 | exact Int32.not_le.mp h_11)]; exact ⟨rfl, rfl⟩) | (rw [if_neg (by first | exact h_2 | exact Int32.not_lt.mpr h_2), if_neg (by first | exact h_11 | exact Int32.not_lt.mpr h_11)]; exact ⟨rfl, rfl⟩))
  · refine J_iload_n (pc' := 6) dX7_held_5 rfl rfl ?_
    refine J_goto (pc' := 0) 19 dX7_held_6 (by decide) ?_
    exact J_iret dX7_held_19  (by unfold sHeld; first | (rw [if_pos (by first | exact h_2 | exact Int32.not_le.mp h_2)]; exact ⟨rfl, rfl⟩) | (rw [if_neg (by first | exact h_2 | exact Int32.not_lt.mpr h_2), if_pos (by first | exact h_11 | exact Int32.not_le.mp h_11)]; exact ⟨rfl, rfl⟩) | (rw [if_neg (by first | exact h_2 | exact Int32.not_lt.mpr h_2), if_neg (by first | exact h_11 | exact Int32.not_lt.mpr h_11)]; exact ⟨rfl, rfl⟩))
set_option maxHeartbeats 4000000 in
set_option maxRecDepth 100000 in
theorem k_X7_isKm {G : jG} {w : jWd} {x : Int32} : jKd G 1 yX7_isKm cX7_isKm 1 (some .boolean) [.int x] w (some (.int (jb (0 ≤ x ∧ x ≤ 69)))) w := by
  refine jK_of (own := RX7) [some (.int x)] pn7 rfl (Nat.le_of_ble_eq_true rfl) rfl ?_
  refine J_iload_n (pc' := 1) dX7_isKm_0 rfl rfl ?_
  refine J_iconst (v := 0) (pc' := 2) dX7_isKm_1 (by decide) rfl ?_
  refine J_bipush (v := 69) (pc' := 4) dX7_isKm_2 (by decide) rfl ?_
  refine J_S3v (pc' := 7) dX7_isKm_4 lk_7_61 cd_X7_in (k_X7_in) (jroom_of rfl) (Nat.le_of_ble_eq_true rfl) rfl ?_
  exact J_zret dX7_isKm_7 (jb_b _) ⟨rfl, rfl⟩
set_option maxHeartbeats 4000000 in
set_option maxRecDepth 100000 in
theorem k_X7_isPart {G : jG} {w : jWd} {x : Int32} : jKd G 1 yX7_isPart cX7_isPart 1 (some .boolean) [.int x] w (some (.int (jb (0 ≤ x ∧ x ≤ 1)))) w := by
  refine jK_of (own := RX7) [some (.int x)] pn7 rfl (Nat.le_of_ble_eq_true rfl) rfl ?_
  refine J_iload_n (pc' := 1) dX7_isPart_0 rfl rfl ?_
  refine J_iconst (v := 0) (pc' := 2) dX7_isPart_1 (by decide) rfl ?_
  refine J_iconst (v := 1) (pc' := 3) dX7_isPart_2 (by decide) rfl ?_
  refine J_S3v (pc' := 6) dX7_isPart_3 lk_7_61 cd_X7_in (k_X7_in) (jroom_of rfl) (Nat.le_of_ble_eq_true rfl) rfl ?_
  exact J_zret dX7_isPart_6 (jb_b _) ⟨rfl, rfl⟩
set_option maxHeartbeats 4000000 in
set_option maxRecDepth 100000 in
theorem k_X7_isSheet {G : jG} {w : jWd} {x : Int32} : jKd G 1 yX7_isSheet cX7_isSheet 1 (some .boolean) [.int x] w (some (.int (jb (0 ≤ x ∧ x ≤ 3)))) w := by
  refine jK_of (own := RX7) [some (.int x)] pn7 rfl (Nat.le_of_ble_eq_true rfl) rfl ?_
  refine J_iload_n (pc' := 1) dX7_isSheet_0 rfl rfl ?_
  refine J_iconst (v := 0) (pc' := 2) dX7_isSheet_1 (by decide) rfl ?_
  refine J_iconst (v := 3) (pc' := 3) dX7_isSheet_2 (by decide) rfl ?_
  refine J_S3v (pc' := 6) dX7_isSheet_3 lk_7_61 cd_X7_in (k_X7_in) (jroom_of rfl) (Nat.le_of_ble_eq_true rfl) rfl ?_
  exact J_zret dX7_isSheet_6 (jb_b _) ⟨rfl, rfl⟩
set_option maxHeartbeats 4000000 in
set_option maxRecDepth 100000 in
theorem k_X7_isMark {G : jG} {w : jWd} {x : Int32} : jKd G 1 yX7_isMark cX7_isMark 2 (some .boolean) [.ref 68, .int x] w (some (.int (jb (sIsM (abM (w.1 69)) x)))) w := by
  refine jK_of (own := RX7) [some (.ref 68), some (.int x)] pn7 rfl (Nat.le_of_ble_eq_true rfl) rfl ?_
  refine J_iload_n (pc' := 1) dX7_isMark_0 rfl rfl ?_
  refine J_iconst (v := 0) (pc' := 2) dX7_isMark_1 (by decide) rfl ?_
  refine J_aload_n (pc' := 3) dX7_isMark_2 rfl rfl ?_
  refine J_getR (pc' := 6) dX7_isMark_3 fl_7_9 (ly_68) (l84_68) rfl rfl ?_
  refine J_iconst (v := 2) (pc' := 7) dX7_isMark_6 (by decide) rfl ?_
  refine J_iald 2 (pc' := 8) dX7_isMark_7 (ly_69) (l84_69) nIc_2 (by decide) (by decide) rfl ?_
  refine J_iconst (v := 1) (pc' := 9) dX7_isMark_8 (by decide) rfl ?_
  refine J_isub (pc' := 10) dX7_isMark_9 rfl ?_
  refine J_S3v (pc' := 13) dX7_isMark_10 lk_7_61 cd_X7_in (k_X7_in) (jroom_of rfl) (Nat.le_of_ble_eq_true rfl) rfl ?_
  exact J_zret dX7_isMark_13 (jb_b _) ⟨rfl, rfl⟩
set_option maxHeartbeats 4000000 in
set_option maxRecDepth 100000 in
theorem k_X7_isPicture {G : jG} {w : jWd} {x : Int32} : jKd G 1 yX7_isPicture cX7_isPicture 2 (some .boolean) [.ref 68, .int x] w (some (.int (jb (sIsP (abM (w.1 69)) x)))) w := by
  refine jK_of (own := RX7) [some (.ref 68), some (.int x)] pn7 rfl (Nat.le_of_ble_eq_true rfl) rfl ?_
  refine J_iload_n (pc' := 1) dX7_isPicture_0 rfl rfl ?_
  refine J_iconst (v := 0) (pc' := 2) dX7_isPicture_1 (by decide) rfl ?_
  refine J_aload_n (pc' := 3) dX7_isPicture_2 rfl rfl ?_
  refine J_getR (pc' := 6) dX7_isPicture_3 fl_7_9 (ly_68) (l84_68) rfl rfl ?_
  refine J_iconst (v := 3) (pc' := 7) dX7_isPicture_6 (by decide) rfl ?_
  refine J_iald 3 (pc' := 8) dX7_isPicture_7 (ly_69) (l84_69) nIc_3 (by decide) (by decide) rfl ?_
  refine J_iconst (v := 1) (pc' := 9) dX7_isPicture_8 (by decide) rfl ?_
  refine J_isub (pc' := 10) dX7_isPicture_9 rfl ?_
  refine J_S3v (pc' := 13) dX7_isPicture_10 lk_7_61 cd_X7_in (k_X7_in) (jroom_of rfl) (Nat.le_of_ble_eq_true rfl) rfl ?_
  exact J_zret dX7_isPicture_13 (jb_b _) ⟨rfl, rfl⟩
set_option maxHeartbeats 4000000 in
set_option maxRecDepth 100000 in
theorem k_merr {G : jG} {w : jWd} {x : Int32} {k : Nat} (hk : k < 7) (hx : x = sErr k) : jKd G 0 yX7_error cX7_error 2 (some .int) [.ref 68, .int x] w (some (.int (sErr k))) (jset w 72 k (w.1 72 k + 1)) := by
  have e : -1000000000 - x = nI k := by
    have h : ∀ k, k < 7 → (-1000000000 : Int32) - sErr k = nI k := by decide +kernel
    rw [hx]
    exact h k hk
  refine jK_of (own := RX7) [some (.ref 68), some (.int x)] pn7 rfl (Nat.le_of_ble_eq_true rfl) rfl ?_
  refine J_aload_n (pc' := 1) dX7_error_0 rfl rfl ?_
  refine J_getR (pc' := 4) dX7_error_1 fl_7_19 (ly_68) (l84_68) rfl rfl ?_
  refine J_ldc (pc' := 6) dX7_error_4 kc_7_56 rfl ?_
  refine J_iload_n (pc' := 7) dX7_error_6 rfl rfl ?_
  refine J_isub (pc' := 8) dX7_error_7 rfl ?_
  refine J_dup2 (pc' := 9) dX7_error_8 rfl rfl rfl ?_
  refine J_iald k (pc' := 10) dX7_error_9 (ly_72) (l84_72) e hk (by decide) rfl ?_
  refine J_iconst (v := 1) (pc' := 11) dX7_error_10 (by decide) rfl ?_
  refine J_iadd (pc' := 12) dX7_error_11 rfl ?_
  refine J_iast k (pc' := 13) dX7_error_12 (ly_72) (l84_72) e hk (by decide) rfl ?_
  refine J_iload_n (pc' := 14) dX7_error_13 rfl rfl ?_
  exact J_iret dX7_error_14  ⟨by rw [hx], rfl⟩
set_option maxHeartbeats 4000000 in
set_option maxRecDepth 100000 in
theorem k_mof {G : jG} {w : jWd} {k c : Nat} (hk : k < 8) (hc : c < 6) {ci : Int32} (hci : ci = nI c) : jKd G 0 yX7_of cX7_of 3 (some .int) [.ref 68, .int (nI k), .int ci] w (some (.int (w.1 69 (8 + 6 * k + c)))) w := by
  refine jK_of (own := RX7) [some (.ref 68), some (.int (nI k)), some (.int ci)] pn7 rfl (Nat.le_of_ble_eq_true rfl) rfl ?_
  refine J_aload_n (pc' := 1) dX7_of_0 rfl rfl ?_
  refine J_getR (pc' := 4) dX7_of_1 fl_7_9 (ly_68) (l84_68) rfl rfl ?_
  refine J_bipush (v := 8) (pc' := 6) dX7_of_4 (by decide) rfl ?_
  refine J_bipush (v := 6) (pc' := 8) dX7_of_6 (by decide) rfl ?_
  refine J_iload_n (pc' := 9) dX7_of_8 rfl rfl ?_
  refine J_imul (pc' := 10) dX7_of_9 rfl ?_
  refine J_iadd (pc' := 11) dX7_of_10 rfl ?_
  refine J_iload_n (pc' := 12) dX7_of_11 rfl rfl ?_
  refine J_iadd (pc' := 13) dX7_of_12 rfl ?_
  refine J_iald (8 + 6 * k + c) (pc' := 14) dX7_of_13 (ly_69) (l84_69) (jadd (jadd nIc_8 (jmul nIc_6 rfl)) hci) (by omega) (by decide) rfl ?_
  exact J_iret dX7_of_14  ⟨rfl, rfl⟩
set_option maxHeartbeats 4000000 in
set_option maxRecDepth 100000 in
theorem k_mputs {G : jG} {w : jWd} {k c : Nat} (hk : k < 8) (hc : c < 6) {ci v : Int32} (hci : ci = nI c) : jKd G 0 yX7_puts cX7_puts 4 none [.ref 68, .int (nI k), .int ci, .int v] w none (jset w 69 (8 + 6 * k + c) v) := by
  refine jK_of (own := RX7) [some (.ref 68), some (.int (nI k)), some (.int ci), some (.int v)] pn7 rfl (Nat.le_of_ble_eq_true rfl) rfl ?_
  refine J_aload_n (pc' := 1) dX7_puts_0 rfl rfl ?_
  refine J_getR (pc' := 4) dX7_puts_1 fl_7_9 (ly_68) (l84_68) rfl rfl ?_
  refine J_bipush (v := 8) (pc' := 6) dX7_puts_4 (by decide) rfl ?_
  refine J_bipush (v := 6) (pc' := 8) dX7_puts_6 (by decide) rfl ?_
  refine J_iload_n (pc' := 9) dX7_puts_8 rfl rfl ?_
  refine J_imul (pc' := 10) dX7_puts_9 rfl ?_
  refine J_iadd (pc' := 11) dX7_puts_10 rfl ?_
  refine J_iload_n (pc' := 12) dX7_puts_11 rfl rfl ?_
  refine J_iadd (pc' := 13) dX7_puts_12 rfl ?_
  refine J_iload_n (pc' := 14) dX7_puts_13 rfl rfl ?_
  refine J_iast (8 + 6 * k + c) (pc' := 15) dX7_puts_14 (ly_69) (l84_69) (jadd (jadd nIc_8 (jmul nIc_6 rfl)) hci) (by omega) (by decide) rfl ?_
  exact J_vret dX7_puts_15  ⟨rfl, rfl⟩
set_option maxHeartbeats 4000000 in
set_option maxRecDepth 100000 in
theorem k_mbec {G : jG} {w : jWd} {i : Nat} (hi : i < 382) {ii v : Int32} (hii : ii = nI i) : jKd G 0 yX7_becomes cX7_becomes 4 (some .int) [.ref 68, .int ii, .int v] w (some (.int (w.1 69 i))) (jset w 69 i v) := by
  refine jK_of (own := RX7) [some (.ref 68), some (.int ii), some (.int v), none] pn7 rfl (Nat.le_of_ble_eq_true rfl) rfl ?_
  refine J_aload_n (pc' := 1) dX7_becomes_0 rfl rfl ?_
  refine J_getR (pc' := 4) dX7_becomes_1 fl_7_9 (ly_68) (l84_68) rfl rfl ?_
  refine J_iload_n (pc' := 5) dX7_becomes_4 rfl rfl ?_
  refine J_iald i (pc' := 6) dX7_becomes_5 (ly_69) (l84_69) hii hi (by decide) rfl ?_
  refine J_istore_n (pc' := 7) dX7_becomes_6 (Nat.le_of_ble_eq_true rfl) (jst3 rfl rfl) rfl ?_
  refine J_aload_n (pc' := 8) dX7_becomes_7 rfl rfl ?_
  refine J_getR (pc' := 11) dX7_becomes_8 fl_7_9 (ly_68) (l84_68) rfl rfl ?_
  refine J_iload_n (pc' := 12) dX7_becomes_11 rfl rfl ?_
  refine J_iload_n (pc' := 13) dX7_becomes_12 rfl rfl ?_
  refine J_iast i (pc' := 14) dX7_becomes_13 (ly_69) (l84_69) hii hi (by decide) rfl ?_
  refine J_iload_n (pc' := 15) dX7_becomes_14 rfl rfl ?_
  exact J_iret dX7_becomes_15  ⟨rfl, rfl⟩
theorem k_mof0 {G : jG} {w : jWd} {k : Nat} (hk : k < 8) : jKd G 0 yX7_of cX7_of 3 (some .int) [.ref 68, .int (nI k), .int 0] w (some (.int (abM (w.1 69) 0 k))) w := by
  have h := k_mof (G := G) (w := w) hk (show 0 < 6 by decide) nIc_0
  rw [am0 hk] at h
  exact h
theorem k_mof1 {G : jG} {w : jWd} {k : Nat} (hk : k < 8) : jKd G 0 yX7_of cX7_of 3 (some .int) [.ref 68, .int (nI k), .int 1] w (some (.int (abM (w.1 69) 1 k))) w := by
  have h := k_mof (G := G) (w := w) hk (show 1 < 6 by decide) nIc_1
  rw [am1 hk] at h
  exact h
theorem k_mof2 {G : jG} {w : jWd} {k : Nat} (hk : k < 8) : jKd G 0 yX7_of cX7_of 3 (some .int) [.ref 68, .int (nI k), .int 2] w (some (.int (abM (w.1 69) 2 k))) w := by
  have h := k_mof (G := G) (w := w) hk (show 2 < 6 by decide) nIc_2
  rw [am2 hk] at h
  exact h
theorem k_mof3 {G : jG} {w : jWd} {k : Nat} (hk : k < 8) : jKd G 0 yX7_of cX7_of 3 (some .int) [.ref 68, .int (nI k), .int 3] w (some (.int (abM (w.1 69) 3 k))) w := by
  have h := k_mof (G := G) (w := w) hk (show 3 < 6 by decide) nIc_3
  rw [am3 hk] at h
  exact h
theorem k_mof4 {G : jG} {w : jWd} {k : Nat} (hk : k < 8) : jKd G 0 yX7_of cX7_of 3 (some .int) [.ref 68, .int (nI k), .int 4] w (some (.int (abM (w.1 69) 4 k))) w := by
  have h := k_mof (G := G) (w := w) hk (show 4 < 6 by decide) nIc_4
  rw [am4 hk] at h
  exact h
theorem k_mof5 {G : jG} {w : jWd} {k : Nat} (hk : k < 8) : jKd G 0 yX7_of cX7_of 3 (some .int) [.ref 68, .int (nI k), .int 5] w (some (.int (abM (w.1 69) 5 k))) w := by
  have h := k_mof (G := G) (w := w) hk (show 5 < 6 by decide) nIc_5
  rw [am5 hk] at h
  exact h
/-- b is as a was -/
def cpP (w : jWd) (a b n : Nat) (w2 : jWd) : Prop := (∀ x, x ≠ b → w2.1 x = w.1 x) ∧ (∀ j, j < n → w2.1 b j = w.1 a j) ∧ w2.2 = w.2
theorem cpP_s {w w2 : jWd} {a b n : Nat} (hab : a ≠ b) (h : cpP w a b n w2) : cpP w a b (n + 1) (jset w2 b n (w2.1 a n)) := by
  refine ⟨fun x hx => by rw [jset_off hx]; exact h.1 x hx, fun j hj => ?_, h.2.2⟩
  rw [jset_1, if_pos rfl, h.1 a hab]
  by_cases e : j = n
  · rw [if_pos e, e]
  · rw [if_neg e]; exact h.2.1 j (by omega)
set_option maxHeartbeats 4000000 in
set_option maxRecDepth 100000 in
theorem l_mcp {G : jG} {w : jWd} {a b : Nat} (hA : jly a = (0, 382, [])) (hA8 : a < 84) (hB : jly b = (0, 382, [])) (hB8 : b < 84) (hab : a ≠ b) : ∀ n j : Nat, j + n = 382 → ∀ (w2 : jWd) (_ : cpP w a b j w2), J G (jM G 0 RX7 cX7_copyAll 3 none ((fun r' w' => r' = none ∧ cpP w a b 382 w'))) w2 2 [some (.ref a), some (.ref b), some (.int (nI j))] [] := by
  intro n
  induction n with
  | zero =>
    intro j hj w2 h2
    refine J_iload_n (pc' := 3) dX7_copyAll_2 rfl rfl ?_
    refine J_sipush (v := 382) (pc' := 6) dX7_copyAll_3 (by decide) rfl ?_
    refine J_icmp_ge 21 (pc' := 9) dX7_copyAll_6 (by decide) rfl (fun h_6 => ?_) (fun h_6 => absurd (by rw [show (382 : Int32) = nI 382 from by decide]; exact nI_le (by omega) (by omega)) h_6)
    obtain rfl : j = 382 := by omega
    exact J_vret dX7_copyAll_21  ⟨rfl, h2⟩
  | succ n ih =>
    intro j hj w2 h2
    refine J_iload_n (pc' := 3) dX7_copyAll_2 rfl rfl ?_
    refine J_sipush (v := 382) (pc' := 6) dX7_copyAll_3 (by decide) rfl ?_
    refine J_icmp_ge 21 (pc' := 9) dX7_copyAll_6 (by decide) rfl (fun h_6 => absurd h_6 (by rw [show (382 : Int32) = nI 382 from by decide]; exact nI_ge (by omega) (by omega))) (fun h_6 => ?_)
    refine J_aload_n (pc' := 10) dX7_copyAll_9 rfl rfl ?_
    refine J_iload_n (pc' := 11) dX7_copyAll_10 rfl rfl ?_
    refine J_aload_n (pc' := 12) dX7_copyAll_11 rfl rfl ?_
    refine J_iload_n (pc' := 13) dX7_copyAll_12 rfl rfl ?_
    refine J_iald j (pc' := 14) dX7_copyAll_13 (hA) (hA8) rfl (by omega) (by decide) rfl ?_
    refine J_iast j (pc' := 15) dX7_copyAll_14 (hB) (hB8) rfl (by omega) (by decide) rfl ?_
    refine J_iinc (pc' := 18) dX7_copyAll_15 rfl (Nat.le_of_ble_eq_true rfl) (jst2 rfl rfl) rfl ?_
    refine J_goto (pc' := 0) 2 dX7_copyAll_18 (by decide) ?_
    have h3 := ih (j + 1) (by omega) _ (cpP_s (by omega) h2)
    rw [← z1 j] at h3
    exact h3
set_option maxHeartbeats 4000000 in
set_option maxRecDepth 100000 in
theorem k_mcp {G : jG} {w : jWd} {a b : Nat} (hA : jly a = (0, 382, [])) (hA8 : a < 84) (hB : jly b = (0, 382, [])) (hB8 : b < 84) (hab : a ≠ b) : jKp G 0 yX7_copyAll cX7_copyAll 3 none [.ref a, .ref b] w none (fun w' => cpP w a b 382 w') := by
  refine jK_of (own := RX7) [some (.ref a), some (.ref b), none] pn7 rfl (Nat.le_of_ble_eq_true rfl) rfl ?_
  refine J_iconst (v := 0) (pc' := 1) dX7_copyAll_0 (by decide) rfl ?_
  refine J_istore_n (pc' := 2) dX7_copyAll_1 (Nat.le_of_ble_eq_true rfl) (jst2 rfl rfl) rfl ?_
  exact l_mcp hA hA8 hB hB8 hab 382 0 rfl w ⟨fun _ _ => rfl, fun j hj => absurd hj (Nat.not_lt_zero j), rfl⟩
set_option maxHeartbeats 4000000 in
set_option maxRecDepth 100000 in
theorem k_mthinks {G : jG} {w : jWd} : jKp G 1 yX7_thinks cX7_thinks 1 none [.ref 68] w none (fun w' => cpP w 69 71 382 w') := by
  refine jK_of (own := RX7) [some (.ref 68)] pn7 rfl (Nat.le_of_ble_eq_true rfl) rfl ?_
  refine J_aload_n (pc' := 1) dX7_thinks_0 rfl rfl ?_
  refine J_getR (pc' := 4) dX7_thinks_1 fl_7_9 (ly_68) (l84_68) rfl rfl ?_
  refine J_aload_n (pc' := 5) dX7_thinks_4 rfl rfl ?_
  refine J_getR (pc' := 8) dX7_thinks_5 fl_7_16 (ly_68) (l84_68) rfl rfl ?_
  refine J_S2w (pc' := 11) dX7_thinks_8 lk_7_57 cd_X7_copyAll (k_mcp ly_69 l84_69 ly_71 l84_71 (by decide)) (jroom_of rfl) (Nat.le_of_ble_eq_true rfl) rfl (fun w8 hw8 => ?_)
  exact J_vret dX7_thinks_11  ⟨rfl, hw8⟩
set_option maxHeartbeats 4000000 in
set_option maxRecDepth 100000 in
theorem k_mback {G : jG} {w : jWd} : jKp G 1 yX7_putsBack cX7_putsBack 1 none [.ref 68] w none (fun w' => cpP w 71 69 382 w') := by
  refine jK_of (own := RX7) [some (.ref 68)] pn7 rfl (Nat.le_of_ble_eq_true rfl) rfl ?_
  refine J_aload_n (pc' := 1) dX7_putsBack_0 rfl rfl ?_
  refine J_getR (pc' := 4) dX7_putsBack_1 fl_7_16 (ly_68) (l84_68) rfl rfl ?_
  refine J_aload_n (pc' := 5) dX7_putsBack_4 rfl rfl ?_
  refine J_getR (pc' := 8) dX7_putsBack_5 fl_7_9 (ly_68) (l84_68) rfl rfl ?_
  refine J_S2w (pc' := 11) dX7_putsBack_8 lk_7_57 cd_X7_copyAll (k_mcp ly_71 l84_71 ly_69 l84_69 (by decide)) (jroom_of rfl) (Nat.le_of_ble_eq_true rfl) rfl (fun w8 hw8 => ?_)
  exact J_vret dX7_putsBack_11  ⟨rfl, hw8⟩
