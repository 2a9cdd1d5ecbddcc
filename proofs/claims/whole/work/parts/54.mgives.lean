/-! ===== the reference: what a text gives ===== -/
/-! ===== the reference: what a text gives ===== -/
set_option maxHeartbeats 4000000 in
set_option maxRecDepth 100000 in
theorem kf_held {G : jG} {w : jWd} {x a b : Int32} : jKd0 G 0 yX7_held cX7_held 3 (some .int) [.int x, .int a, .int b] w (some (.int (sHeld x a b))) w := by
  refine jK0_of (own := RX7) [some (.int x), some (.int a), some (.int b)] pn7 rfl (Nat.le_of_ble_eq_true rfl) rfl ?_
  refine J0_iload_n (pc' := 1) dX7_held_0 rfl rfl ?_
  refine J0_iload_n (pc' := 2) dX7_held_1 rfl rfl ?_
  refine J0_icmp_ge 9 (pc' := 5) dX7_held_2 (by decide) rfl (fun h_2 => ?_) (fun h_2 => ?_)
  · refine J0_iload_n (pc' := 10) dX7_held_9 rfl rfl ?_
    refine J0_iload_n (pc' := 11) dX7_held_10 rfl rfl ?_
    refine J0_icmp_le 18 (pc' := 14) dX7_held_11 (by decide) rfl (fun h_11 => ?_) (fun h_11 => ?_)
    · refine J0_iload_n (pc' := 19) dX7_held_18 rfl rfl ?_
      exact J0_iret dX7_held_19  (by unfold sHeld; first | (rw [if_pos (by first | exact h_2 | exact Int32.not_le.mp h_2)]; exact ⟨rfl, rfl⟩) | (rw [if_neg (by first | exact h_2 | exact Int32.not_lt.mpr h_2), if_pos (by first | exact h_11 | exact Int32.not_le.mp h_11)]; exact ⟨rfl, rfl⟩) | (rw [if_neg (by first | exact h_2 | exact Int32.not_lt.mpr h_2), if_neg (by first | exact h_11 | exact Int32.not_lt.mpr h_11)]; exact ⟨rfl, rfl⟩))
    · refine J0_iload_n (pc' := 15) dX7_held_14 rfl rfl ?_
      refine J0_goto (pc' := 0) 19 dX7_held_15 (by decide) ?_
      exact J0_iret dX7_held_19  (by unfold sHeld; first | (rw [if_pos (by first | exact h_2 | exact Int32.not_le.mp h_2)]; exact ⟨rfl, rfl⟩) | (rw [if_neg (by first | exact h_2 | exact Int32.not_lt.mpr h_2), if_pos (by first | exact h_11 | exact Int32.not_le.mp h_11)]; exact ⟨rfl, rfl⟩) | (rw [if_neg (by first | exact h_2 | exact Int32.not_lt.mpr h_2), if_neg (by first | exact h_11 | exact Int32.not_lt.mpr h_11)]; exact ⟨rfl, rfl⟩))
  · refine J0_iload_n (pc' := 6) dX7_held_5 rfl rfl ?_
    refine J0_goto (pc' := 0) 19 dX7_held_6 (by decide) ?_
    exact J0_iret dX7_held_19  (by unfold sHeld; first | (rw [if_pos (by first | exact h_2 | exact Int32.not_le.mp h_2)]; exact ⟨rfl, rfl⟩) | (rw [if_neg (by first | exact h_2 | exact Int32.not_lt.mpr h_2), if_pos (by first | exact h_11 | exact Int32.not_le.mp h_11)]; exact ⟨rfl, rfl⟩) | (rw [if_neg (by first | exact h_2 | exact Int32.not_lt.mpr h_2), if_neg (by first | exact h_11 | exact Int32.not_lt.mpr h_11)]; exact ⟨rfl, rfl⟩))
set_option maxHeartbeats 4000000 in
set_option maxRecDepth 100000 in
theorem kf_giv0 {G : jG} {w : jWd} (hI : sInv (abM (w.1 69))) (hT : mT (w.1 69)) {a b c : Int32} : jK0 G 3 yX7_gives cX7_gives 7 (some .int) [.ref 68, .int 0, .int a, .int b, .int c] w (fun r w3 => r = some (.int (sGiv (abM (w.1 69)) 0 a b c)) ∧ jq w w3) := by
  obtain ⟨hcc, hN, hwf⟩ := hI.2.2.2.2.2.2.2.2.2.1 0 (by decide)
  have hc : w.1 69 140 = nI (sC (abM (w.1 69)) 0) := hcc
  generalize hNe : sC (abM (w.1 69)) 0 = N at hc hN hwf
  have hcn : (w.1 69 140).toNatClampNeg = N := by rw [hc]; exact nI_clamp (by omega)
  have hst : ∀ i, i < N → (abM (w.1 69)) 9 i = sEnc (w.1 69 (140 + 1 + i)) (w.1 69 (140 + 61 + i)) := fun i hi => (abM_9 _ i).trans (if_pos (by rw [hcn]; exact hi))
  have hk : ∀ i, i < N → mTk (w.1 69 (140 + 1 + i)) (w.1 69 (140 + 61 + i)) := fun i hi => hT 0 (by decide) i (by show i < (w.1 69 140).toNatClampNeg; rw [hcn]; exact hi)
  have h0 : nI N ≤ 0 → N = 0 := fun q => by rw [nIc_0] at q; have := (nI_leI (by omega) (by omega)).mp q; omega
  have h0n : ¬ nI N ≤ 0 → ¬ N = 0 := fun q e => q (by rw [e, nIc_0]; exact nI_le (Nat.le_refl _) (by omega))
  refine jK0_of (own := RX7) [some (.ref 68), some (.int 0), some (.int a), some (.int b), some (.int c), none, none] pn7 rfl (Nat.le_of_ble_eq_true rfl) rfl ?_
  refine J0_sipush (v := 140) (pc' := 3) dX7_gives_0 (by decide) rfl ?_
  refine J0_bipush (v := 121) (pc' := 5) dX7_gives_3 (by decide) rfl ?_
  refine J0_iload_n (pc' := 6) dX7_gives_5 rfl rfl ?_
  refine J0_imul (pc' := 7) dX7_gives_6 rfl ?_
  refine J0_iadd (pc' := 8) dX7_gives_7 rfl ?_
  rw [show (140 : Int32) + 121 * 0 = nI 140 from by decide]
  refine J0_istore (pc' := 10) dX7_gives_8 (Nat.le_of_ble_eq_true rfl) (jst5 rfl rfl) rfl ?_
  refine J0_aload_n (pc' := 11) dX7_gives_10 rfl rfl ?_
  refine J0_getR (pc' := 14) dX7_gives_11 fl_7_47 (ly_68) (l84_68) rfl rfl ?_
  refine J0_iconst (v := 0) (pc' := 15) dX7_gives_14 (by decide) rfl ?_
  refine J0_iload_n (pc' := 16) dX7_gives_15 rfl rfl ?_
  refine J0_iast5 0 (pc' := 17) dX7_gives_16 (ly_81) (l84_81) nIc_0 (by decide) (by decide) rfl ?_
  refine J0_aload_n (pc' := 18) dX7_gives_17 rfl rfl ?_
  refine J0_getR (pc' := 21) dX7_gives_18 fl_7_47 (ly_68) (l84_68) rfl rfl ?_
  refine J0_iconst (v := 1) (pc' := 22) dX7_gives_21 (by decide) rfl ?_
  refine J0_iload_n (pc' := 23) dX7_gives_22 rfl rfl ?_
  refine J0_iast5 1 (pc' := 24) dX7_gives_23 (ly_81) (l84_81) nIc_1 (by decide) (by decide) rfl ?_
  refine J0_aload_n (pc' := 25) dX7_gives_24 rfl rfl ?_
  refine J0_getR (pc' := 28) dX7_gives_25 fl_7_47 (ly_68) (l84_68) rfl rfl ?_
  refine J0_iconst (v := 2) (pc' := 29) dX7_gives_28 (by decide) rfl ?_
  refine J0_iload (pc' := 31) dX7_gives_29 rfl rfl ?_
  refine J0_iast5 2 (pc' := 32) dX7_gives_31 (ly_81) (l84_81) nIc_2 (by decide) (by decide) rfl ?_
  refine J0_aload_n (pc' := 33) dX7_gives_32 rfl rfl ?_
  refine J0_getR (pc' := 36) dX7_gives_33 fl_7_9 (ly_68) (l84_68) rfl rfl ?_
  refine J0_iload (pc' := 38) dX7_gives_36 rfl rfl ?_
  refine J0_iald (140 + (121 * 0)) (pc' := 39) dX7_gives_38 (ly_69) (l84_69) (jadd nIc_140 (jmul nIc_121 nIc_0)) (by omega) (by decide) rfl ?_
  rw [show (jset (jset (jset w 81 0 a) 81 1 b) 81 2 c).1 69 140 = nI N from hc]
  refine J0_if_le 51 (pc' := 42) dX7_gives_39 (by decide) rfl (fun h_39 => ?_) (fun h_39 => ?_)
  · refine J0_iload_n (pc' := 52) dX7_gives_51 rfl rfl ?_
    refine J0_istore (pc' := 54) dX7_gives_52 (Nat.le_of_ble_eq_true rfl) (jst6 rfl rfl) rfl ?_
    refine J0_iload_n (pc' := 55) dX7_gives_54 rfl rfl ?_
    refine J0_if_ne 68 (pc' := 58) dX7_gives_55 (by decide) rfl (fun h_55 => absurd rfl h_55) (fun h_55 => ?_)
    refine J0_iload (pc' := 60) dX7_gives_58 rfl rfl ?_
    refine J0_iconst (v := 1) (pc' := 61) dX7_gives_60 (by decide) rfl ?_
    refine J0_iconst (v := 4) (pc' := 62) dX7_gives_61 (by decide) rfl ?_
    refine J0_S3v (pc' := 65) dX7_gives_62 lk_7_202 cd_X7_held (kf_held) (jroom_of rfl) (Nat.le_of_ble_eq_true rfl) rfl ?_
    refine J0_goto (pc' := 0) 77 dX7_gives_65 (by decide) ?_
    first | exact J0_iret dX7_gives_77  (by unfold sGiv; rw [hNe, if_pos (h0 h_39)]; exact ⟨rfl, (jq_scr (jq_scr (jq_scr (jq.rf w) (a := 81) (k := 0) (v := a) (by rw [ly_81])) (a := 81) (k := 1) (v := b) (by rw [ly_81])) (a := 81) (k := 2) (v := c) (by rw [ly_81]))⟩) | exact J0_iret dX7_gives_77  (by unfold sGiv; rw [hNe, if_neg (fun q => h0n h_39 q)]; exact ⟨rfl, jq.tr (jq_scr (jq_scr (jq_scr (jq.rf w) (a := 81) (k := 0) (v := a) (by rw [ly_81])) (a := 81) (k := 1) (v := b) (by rw [ly_81])) (a := 81) (k := 2) (v := c) (by rw [ly_81])) hq45⟩)
  · refine J0_aload_n (pc' := 43) dX7_gives_42 rfl rfl ?_
    refine J0_iload (pc' := 45) dX7_gives_43 rfl rfl ?_
    refine J0_V1q (pc' := 48) dX7_gives_45 lk_7_199 cd_X7_works (kf_works (G := G) (w := jset (jset (jset w 81 0 a) 81 1 b) 81 2 c) (A := 140) (N := N) (st := (abM (w.1 69)) 9) (a := a) (b := b) (c := c) (by decide) hN (Nat.pos_of_ne_zero (h0n h_39)) hc hst hk hwf rfl rfl rfl) (ly_68) (l84_68) rfl rfl (jroom_of rfl) (Nat.le_of_ble_eq_true rfl) rfl (fun r w45 hq45 => ?_)
    obtain ⟨rfl, hq45⟩ := hq45
    refine J0_goto (pc' := 0) 52 dX7_gives_48 (by decide) ?_
    refine J0_istore (pc' := 54) dX7_gives_52 (Nat.le_of_ble_eq_true rfl) (jst6 rfl rfl) rfl ?_
    refine J0_iload_n (pc' := 55) dX7_gives_54 rfl rfl ?_
    refine J0_if_ne 68 (pc' := 58) dX7_gives_55 (by decide) rfl (fun h_55 => absurd rfl h_55) (fun h_55 => ?_)
    refine J0_iload (pc' := 60) dX7_gives_58 rfl rfl ?_
    refine J0_iconst (v := 1) (pc' := 61) dX7_gives_60 (by decide) rfl ?_
    refine J0_iconst (v := 4) (pc' := 62) dX7_gives_61 (by decide) rfl ?_
    refine J0_S3v (pc' := 65) dX7_gives_62 lk_7_202 cd_X7_held (kf_held) (jroom_of rfl) (Nat.le_of_ble_eq_true rfl) rfl ?_
    refine J0_goto (pc' := 0) 77 dX7_gives_65 (by decide) ?_
    first | exact J0_iret dX7_gives_77  (by unfold sGiv; rw [hNe, if_pos (h0 h_39)]; exact ⟨rfl, (jq_scr (jq_scr (jq_scr (jq.rf w) (a := 81) (k := 0) (v := a) (by rw [ly_81])) (a := 81) (k := 1) (v := b) (by rw [ly_81])) (a := 81) (k := 2) (v := c) (by rw [ly_81]))⟩) | exact J0_iret dX7_gives_77  (by unfold sGiv; rw [hNe, if_neg (fun q => h0n h_39 q)]; exact ⟨rfl, jq.tr (jq_scr (jq_scr (jq_scr (jq.rf w) (a := 81) (k := 0) (v := a) (by rw [ly_81])) (a := 81) (k := 1) (v := b) (by rw [ly_81])) (a := 81) (k := 2) (v := c) (by rw [ly_81])) hq45⟩)
theorem k_mgiv0 {G : jG} {w : jWd} (hI : sInv (abM (w.1 69))) (hT : mT (w.1 69)) {a b c : Int32} : jKd G 3 yX7_gives cX7_gives 7 (some .int) [.ref 68, .int 0, .int a, .int b, .int c] w (some (.int (sGiv (abM (w.1 69)) 0 a b c))) w := by
  refine jK_fine (fun w2 hq => ?_)
  have e : w2.1 69 = w.1 69 := hq.1 69 (by rw [ly_69]; exact (by decide : (0 : Nat) ≠ 5))
  have h := kf_giv0 (G := G) (w := w2) (a := a) (b := b) (c := c) (by rw [e]; exact hI) (by rw [e]; exact hT)
  rw [e] at h
  exact h
set_option maxHeartbeats 4000000 in
set_option maxRecDepth 100000 in
theorem kf_giv1 {G : jG} {w : jWd} (hI : sInv (abM (w.1 69))) (hT : mT (w.1 69)) {a b c : Int32} : jK0 G 3 yX7_gives cX7_gives 7 (some .int) [.ref 68, .int 1, .int a, .int b, .int c] w (fun r w3 => r = some (.int (sGiv (abM (w.1 69)) 1 a b c)) ∧ jq w w3) := by
  obtain ⟨hcc, hN, hwf⟩ := hI.2.2.2.2.2.2.2.2.2.1 1 (by decide)
  have hc : w.1 69 261 = nI (sC (abM (w.1 69)) 1) := hcc
  generalize hNe : sC (abM (w.1 69)) 1 = N at hc hN hwf
  have hcn : (w.1 69 261).toNatClampNeg = N := by rw [hc]; exact nI_clamp (by omega)
  have hst : ∀ i, i < N → (abM (w.1 69)) 10 i = sEnc (w.1 69 (261 + 1 + i)) (w.1 69 (261 + 61 + i)) := fun i hi => (abM_10 _ i).trans (if_pos (by rw [hcn]; exact hi))
  have hk : ∀ i, i < N → mTk (w.1 69 (261 + 1 + i)) (w.1 69 (261 + 61 + i)) := fun i hi => hT 1 (by decide) i (by show i < (w.1 69 261).toNatClampNeg; rw [hcn]; exact hi)
  have h0 : nI N ≤ 0 → N = 0 := fun q => by rw [nIc_0] at q; have := (nI_leI (by omega) (by omega)).mp q; omega
  have h0n : ¬ nI N ≤ 0 → ¬ N = 0 := fun q e => q (by rw [e, nIc_0]; exact nI_le (Nat.le_refl _) (by omega))
  refine jK0_of (own := RX7) [some (.ref 68), some (.int 1), some (.int a), some (.int b), some (.int c), none, none] pn7 rfl (Nat.le_of_ble_eq_true rfl) rfl ?_
  refine J0_sipush (v := 140) (pc' := 3) dX7_gives_0 (by decide) rfl ?_
  refine J0_bipush (v := 121) (pc' := 5) dX7_gives_3 (by decide) rfl ?_
  refine J0_iload_n (pc' := 6) dX7_gives_5 rfl rfl ?_
  refine J0_imul (pc' := 7) dX7_gives_6 rfl ?_
  refine J0_iadd (pc' := 8) dX7_gives_7 rfl ?_
  rw [show (140 : Int32) + 121 * 1 = nI 261 from by decide]
  refine J0_istore (pc' := 10) dX7_gives_8 (Nat.le_of_ble_eq_true rfl) (jst5 rfl rfl) rfl ?_
  refine J0_aload_n (pc' := 11) dX7_gives_10 rfl rfl ?_
  refine J0_getR (pc' := 14) dX7_gives_11 fl_7_47 (ly_68) (l84_68) rfl rfl ?_
  refine J0_iconst (v := 0) (pc' := 15) dX7_gives_14 (by decide) rfl ?_
  refine J0_iload_n (pc' := 16) dX7_gives_15 rfl rfl ?_
  refine J0_iast5 0 (pc' := 17) dX7_gives_16 (ly_81) (l84_81) nIc_0 (by decide) (by decide) rfl ?_
  refine J0_aload_n (pc' := 18) dX7_gives_17 rfl rfl ?_
  refine J0_getR (pc' := 21) dX7_gives_18 fl_7_47 (ly_68) (l84_68) rfl rfl ?_
  refine J0_iconst (v := 1) (pc' := 22) dX7_gives_21 (by decide) rfl ?_
  refine J0_iload_n (pc' := 23) dX7_gives_22 rfl rfl ?_
  refine J0_iast5 1 (pc' := 24) dX7_gives_23 (ly_81) (l84_81) nIc_1 (by decide) (by decide) rfl ?_
  refine J0_aload_n (pc' := 25) dX7_gives_24 rfl rfl ?_
  refine J0_getR (pc' := 28) dX7_gives_25 fl_7_47 (ly_68) (l84_68) rfl rfl ?_
  refine J0_iconst (v := 2) (pc' := 29) dX7_gives_28 (by decide) rfl ?_
  refine J0_iload (pc' := 31) dX7_gives_29 rfl rfl ?_
  refine J0_iast5 2 (pc' := 32) dX7_gives_31 (ly_81) (l84_81) nIc_2 (by decide) (by decide) rfl ?_
  refine J0_aload_n (pc' := 33) dX7_gives_32 rfl rfl ?_
  refine J0_getR (pc' := 36) dX7_gives_33 fl_7_9 (ly_68) (l84_68) rfl rfl ?_
  refine J0_iload (pc' := 38) dX7_gives_36 rfl rfl ?_
  refine J0_iald (140 + (121 * 1)) (pc' := 39) dX7_gives_38 (ly_69) (l84_69) (jadd nIc_140 (jmul nIc_121 nIc_1)) (by omega) (by decide) rfl ?_
  rw [show (jset (jset (jset w 81 0 a) 81 1 b) 81 2 c).1 69 261 = nI N from hc]
  refine J0_if_le 51 (pc' := 42) dX7_gives_39 (by decide) rfl (fun h_39 => ?_) (fun h_39 => ?_)
  · refine J0_iload_n (pc' := 52) dX7_gives_51 rfl rfl ?_
    refine J0_istore (pc' := 54) dX7_gives_52 (Nat.le_of_ble_eq_true rfl) (jst6 rfl rfl) rfl ?_
    refine J0_iload_n (pc' := 55) dX7_gives_54 rfl rfl ?_
    refine J0_if_ne 68 (pc' := 58) dX7_gives_55 (by decide) rfl (fun h_55 => ?_) (fun h_55 => absurd h_55 (by decide))
    refine J0_iload (pc' := 70) dX7_gives_68 rfl rfl ?_
    refine J0_bipush (v := (-30)) (pc' := 72) dX7_gives_70 (by decide) rfl ?_
    refine J0_bipush (v := 30) (pc' := 74) dX7_gives_72 (by decide) rfl ?_
    refine J0_S3v (pc' := 77) dX7_gives_74 lk_7_202 cd_X7_held (kf_held) (jroom_of rfl) (Nat.le_of_ble_eq_true rfl) rfl ?_
    first | exact J0_iret dX7_gives_77  (by unfold sGiv; rw [hNe, if_pos (h0 h_39)]; exact ⟨rfl, (jq_scr (jq_scr (jq_scr (jq.rf w) (a := 81) (k := 0) (v := a) (by rw [ly_81])) (a := 81) (k := 1) (v := b) (by rw [ly_81])) (a := 81) (k := 2) (v := c) (by rw [ly_81]))⟩) | exact J0_iret dX7_gives_77  (by unfold sGiv; rw [hNe, if_neg (fun q => h0n h_39 q)]; exact ⟨rfl, jq.tr (jq_scr (jq_scr (jq_scr (jq.rf w) (a := 81) (k := 0) (v := a) (by rw [ly_81])) (a := 81) (k := 1) (v := b) (by rw [ly_81])) (a := 81) (k := 2) (v := c) (by rw [ly_81])) hq45⟩)
  · refine J0_aload_n (pc' := 43) dX7_gives_42 rfl rfl ?_
    refine J0_iload (pc' := 45) dX7_gives_43 rfl rfl ?_
    refine J0_V1q (pc' := 48) dX7_gives_45 lk_7_199 cd_X7_works (kf_works (G := G) (w := jset (jset (jset w 81 0 a) 81 1 b) 81 2 c) (A := 261) (N := N) (st := (abM (w.1 69)) 10) (a := a) (b := b) (c := c) (by decide) hN (Nat.pos_of_ne_zero (h0n h_39)) hc hst hk hwf rfl rfl rfl) (ly_68) (l84_68) rfl rfl (jroom_of rfl) (Nat.le_of_ble_eq_true rfl) rfl (fun r w45 hq45 => ?_)
    obtain ⟨rfl, hq45⟩ := hq45
    refine J0_goto (pc' := 0) 52 dX7_gives_48 (by decide) ?_
    refine J0_istore (pc' := 54) dX7_gives_52 (Nat.le_of_ble_eq_true rfl) (jst6 rfl rfl) rfl ?_
    refine J0_iload_n (pc' := 55) dX7_gives_54 rfl rfl ?_
    refine J0_if_ne 68 (pc' := 58) dX7_gives_55 (by decide) rfl (fun h_55 => ?_) (fun h_55 => absurd h_55 (by decide))
    refine J0_iload (pc' := 70) dX7_gives_68 rfl rfl ?_
    refine J0_bipush (v := (-30)) (pc' := 72) dX7_gives_70 (by decide) rfl ?_
    refine J0_bipush (v := 30) (pc' := 74) dX7_gives_72 (by decide) rfl ?_
    refine J0_S3v (pc' := 77) dX7_gives_74 lk_7_202 cd_X7_held (kf_held) (jroom_of rfl) (Nat.le_of_ble_eq_true rfl) rfl ?_
    first | exact J0_iret dX7_gives_77  (by unfold sGiv; rw [hNe, if_pos (h0 h_39)]; exact ⟨rfl, (jq_scr (jq_scr (jq_scr (jq.rf w) (a := 81) (k := 0) (v := a) (by rw [ly_81])) (a := 81) (k := 1) (v := b) (by rw [ly_81])) (a := 81) (k := 2) (v := c) (by rw [ly_81]))⟩) | exact J0_iret dX7_gives_77  (by unfold sGiv; rw [hNe, if_neg (fun q => h0n h_39 q)]; exact ⟨rfl, jq.tr (jq_scr (jq_scr (jq_scr (jq.rf w) (a := 81) (k := 0) (v := a) (by rw [ly_81])) (a := 81) (k := 1) (v := b) (by rw [ly_81])) (a := 81) (k := 2) (v := c) (by rw [ly_81])) hq45⟩)
theorem k_mgiv1 {G : jG} {w : jWd} (hI : sInv (abM (w.1 69))) (hT : mT (w.1 69)) {a b c : Int32} : jKd G 3 yX7_gives cX7_gives 7 (some .int) [.ref 68, .int 1, .int a, .int b, .int c] w (some (.int (sGiv (abM (w.1 69)) 1 a b c))) w := by
  refine jK_fine (fun w2 hq => ?_)
  have e : w2.1 69 = w.1 69 := hq.1 69 (by rw [ly_69]; exact (by decide : (0 : Nat) ≠ 5))
  have h := kf_giv1 (G := G) (w := w2) (a := a) (b := b) (c := c) (by rw [e]; exact hI) (by rw [e]; exact hT)
  rw [e] at h
  exact h
set_option maxHeartbeats 4000000 in
set_option maxRecDepth 100000 in
theorem k_mwt {G : jG} {w : jWd} (hI : sInv (abM (w.1 69))) (hT : mT (w.1 69)) {k : Nat} (hk : k < sM (abM (w.1 69))) : jKd G 4 yX7_weight cX7_weight 2 (some .int) [.ref 68, .int (nI k)] w (some (.int (sW (abM (w.1 69)) k))) w := by
  have h8 : k < 8 := Nat.lt_of_lt_of_le hk (sIM hI).2
  have hR : w.1 69 0 = nI (sR (abM (w.1 69))) := (sIR hI).1
  have hR2 := (sIR hI).2
  have hq8 : nI (sR (abM (w.1 69))) - nI (sR (abM (w.1 69))) / 8 * 8 = sR8 (abM (w.1 69)) := zrem (by omega) (by decide) (by decide)
  refine jK_of (own := RX7) [some (.ref 68), some (.int (nI k))] pn7 rfl (Nat.le_of_ble_eq_true rfl) rfl ?_
  refine J_aload_n (pc' := 1) dX7_weight_0 rfl rfl ?_
  refine J_iconst (v := 0) (pc' := 2) dX7_weight_1 (by decide) rfl ?_
  refine J_aload_n (pc' := 3) dX7_weight_2 rfl rfl ?_
  refine J_iload_n (pc' := 4) dX7_weight_3 rfl rfl ?_
  refine J_V1v (pc' := 7) dX7_weight_4 lk_7_73 cd_X7_weighsBy (k_mwb hI hk) (ly_68) (l84_68) rfl rfl (jroom_of rfl) (Nat.le_of_ble_eq_true rfl) rfl ?_
  refine J_aload_n (pc' := 8) dX7_weight_7 rfl rfl ?_
  refine J_iload_n (pc' := 9) dX7_weight_8 rfl rfl ?_
  refine J_V1v (pc' := 12) dX7_weight_9 lk_7_69 cd_X7_touching (k_mto hI h8) (ly_68) (l84_68) rfl rfl (jroom_of rfl) (Nat.le_of_ble_eq_true rfl) rfl ?_
  refine J_aload_n (pc' := 13) dX7_weight_12 rfl rfl ?_
  refine J_getR (pc' := 16) dX7_weight_13 fl_7_9 (ly_68) (l84_68) rfl rfl ?_
  refine J_iconst (v := 0) (pc' := 17) dX7_weight_16 (by decide) rfl ?_
  refine J_iald 0 (pc' := 18) dX7_weight_17 (ly_69) (l84_69) nIc_0 (by decide) (by decide) rfl ?_
  rw [hR]
  refine J_bipush (v := 8) (pc' := 20) dX7_weight_18 (by decide) rfl ?_
  refine J_irem (pc' := 21) dX7_weight_20 (by decide) rfl ?_
  rw [hq8]
  refine J_V4v (pc' := 24) dX7_weight_21 lk_7_76 cd_X7_gives (k_mgiv0 hI hT) (ly_68) (l84_68) rfl rfl (jroom_of rfl) (Nat.le_of_ble_eq_true rfl) rfl ?_
  exact J_iret dX7_weight_24  ⟨rfl, rfl⟩
set_option maxHeartbeats 4000000 in
set_option maxRecDepth 100000 in
theorem k_msy {G : jG} {w : jWd} (hI : sInv (abM (w.1 69))) (hT : mT (w.1 69)) {k : Nat} (hk : k < sM (abM (w.1 69))) : jKd G 4 yX7_saysOf cX7_saysOf 2 (some .int) [.ref 68, .int (nI k)] w (some (.int (sS (abM (w.1 69)) k))) w := by
  have h8 : k < 8 := Nat.lt_of_lt_of_le hk (sIM hI).2
  have hR : w.1 69 0 = nI (sR (abM (w.1 69))) := (sIR hI).1
  have hR2 := (sIR hI).2
  have hq8 : nI (sR (abM (w.1 69))) - nI (sR (abM (w.1 69))) / 8 * 8 = sR8 (abM (w.1 69)) := zrem (by omega) (by decide) (by decide)
  refine jK_of (own := RX7) [some (.ref 68), some (.int (nI k))] pn7 rfl (Nat.le_of_ble_eq_true rfl) rfl ?_
  refine J_aload_n (pc' := 1) dX7_saysOf_0 rfl rfl ?_
  refine J_iconst (v := 1) (pc' := 2) dX7_saysOf_1 (by decide) rfl ?_
  refine J_aload_n (pc' := 3) dX7_saysOf_2 rfl rfl ?_
  refine J_iload_n (pc' := 4) dX7_saysOf_3 rfl rfl ?_
  refine J_V1v (pc' := 7) dX7_saysOf_4 lk_7_80 cd_X7_readBy (k_mrb hI hk) (ly_68) (l84_68) rfl rfl (jroom_of rfl) (Nat.le_of_ble_eq_true rfl) rfl ?_
  refine J_aload_n (pc' := 8) dX7_saysOf_7 rfl rfl ?_
  refine J_iload_n (pc' := 9) dX7_saysOf_8 rfl rfl ?_
  refine J_iconst (v := 4) (pc' := 10) dX7_saysOf_9 (by decide) rfl ?_
  refine J_V2v (pc' := 13) dX7_saysOf_10 lk_7_65 cd_X7_of (k_mof4 h8) (ly_68) (l84_68) rfl rfl (jroom_of rfl) (Nat.le_of_ble_eq_true rfl) rfl ?_
  refine J_aload_n (pc' := 14) dX7_saysOf_13 rfl rfl ?_
  refine J_getR (pc' := 17) dX7_saysOf_14 fl_7_9 (ly_68) (l84_68) rfl rfl ?_
  refine J_iconst (v := 0) (pc' := 18) dX7_saysOf_17 (by decide) rfl ?_
  refine J_iald 0 (pc' := 19) dX7_saysOf_18 (ly_69) (l84_69) nIc_0 (by decide) (by decide) rfl ?_
  rw [hR]
  refine J_bipush (v := 8) (pc' := 21) dX7_saysOf_19 (by decide) rfl ?_
  refine J_irem (pc' := 22) dX7_saysOf_21 (by decide) rfl ?_
  rw [hq8]
  refine J_V4v (pc' := 25) dX7_saysOf_22 lk_7_76 cd_X7_gives (k_mgiv1 hI hT) (ly_68) (l84_68) rfl rfl (jroom_of rfl) (Nat.le_of_ble_eq_true rfl) rfl ?_
  exact J_iret dX7_saysOf_25  ⟨rfl, rfl⟩
