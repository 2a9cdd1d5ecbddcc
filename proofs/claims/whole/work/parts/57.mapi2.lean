/-! ===== the reference: calls, more ===== -/
/-! ===== the reference: calls, more ===== -/
theorem shrL (x : Int64) (n : Nat) (hn : n < 64) : (x >>> Int64.ofNat n).toBitVec = x.toBitVec.sshiftRight n := by
  have : ∀ n, n < 64 → ((Int64.ofNat n).toBitVec.smod 64).toNat = n := by decide +kernel
  show x.toBitVec.sshiftRight' ((Int64.ofNat n).toBitVec.smod 64) = _
  unfold BitVec.sshiftRight'
  rw [this n hn]
theorem ushrL (x : UInt64) (n : Nat) (hn : n < 64) : (x >>> UInt64.ofNat n).toBitVec = x.toBitVec >>> n := by
  have : ∀ n, n < 64 → ((UInt64.ofNat n).toBitVec.umod 64).toNat = n := by decide +kernel
  show x.toBitVec >>> ((UInt64.ofNat n).toBitVec % 64) = _
  show x.toBitVec >>> (((UInt64.ofNat n).toBitVec % 64)).toNat = _
  rw [show (((UInt64.ofNat n).toBitVec % 64)).toNat = n from this n hn]
theorem bvt32 (x : Int64) : x.toInt32.toBitVec = x.toBitVec.setWidth 32 := by
  show x.toBitVec.signExtend 32 = _
  exact BitVec.signExtend_eq_setWidth_of_le _ (by decide)
theorem bvbyt (x : BitVec 64) (n : Nat) (hn : n ≤ 56) : ((x.sshiftRight n) &&& 255#64).setWidth 32 = ((x >>> n).setWidth 32) &&& 255#32 := by
  apply BitVec.eq_of_getLsbD_eq
  intro j hj
  have e64 : (255#64).getLsbD j = decide (j < 8) := by
    have : ∀ j, j < 32 → (255#64).getLsbD j = decide (j < 8) := by decide
    exact this j hj
  have e32 : (255#32).getLsbD j = decide (j < 8) := by
    have : ∀ j, j < 32 → (255#32).getLsbD j = decide (j < 8) := by decide
    exact this j hj
  rw [BitVec.getLsbD_setWidth, BitVec.getLsbD_and, BitVec.getLsbD_and, BitVec.getLsbD_setWidth, BitVec.getLsbD_sshiftRight, BitVec.getLsbD_ushiftRight, e64, e32]
  by_cases h : j < 8
  · have h1 : ¬ (64 ≤ j) := by omega
    have h2 : n + j < 64 := by omega
    simp [h, hj, h1, h2]
  · simp [h]
/-- a byte of a word, by either shift -/
theorem byt_m (x : Int64) (i : Nat) (hi : i < 8) : ((x >>> ((8 * nI i : Int32).toInt64 &&& 63)) &&& 255).toInt32 = sByt x i := by
  have h1 : ∀ i, i < 8 → ((8 * nI i : Int32).toInt64 &&& 63) = Int64.ofNat (8 * i) ∧ ((8 * nI i : Int32).toInt64.toUInt64 &&& Int64.toUInt64 63) = UInt64.ofNat (8 * i) := by decide +kernel
  obtain ⟨q1, q2⟩ := h1 i hi
  unfold sByt
  rw [q1, q2]
  apply Int32.toBitVec_inj.mp
  rw [bvt32, Int64.toBitVec_and, shrL _ _ (by omega), Int32.toBitVec_and, bvt32]
  show _ = BitVec.setWidth 32 (x.toUInt64 >>> UInt64.ofNat (8 * i)).toBitVec &&& _
  rw [ushrL _ _ (by omega)]
  exact bvbyt x.toBitVec (8 * i) (by omega)
theorem sMx_lt (a b n : Int32) : sMx a b < n ↔ a < n ∧ b < n := by
  unfold sMx
  by_cases h : a < b
  · rw [if_pos h]
    exact ⟨fun q => ⟨Int32.lt_trans h q, q⟩, fun q => q.2⟩
  · rw [if_neg h]
    exact ⟨fun q => ⟨q, Int32.lt_of_le_of_lt (Int32.not_lt.mp h) q⟩, fun q => q.1⟩
theorem sLast_s (σ : sg) (i : Nat) (n : Int32) : sLast σ (i + 1) < n ↔ sLast σ i < n ∧ σ 2 i < n ∧ σ 3 i < n := by
  rw [sLast, sMx_lt, sMx_lt]
theorem sSet_lt2 {σ : sg} (hI : sInv σ) : sSet σ < 256 := Nat.lt_of_lt_of_le (sOn_l2 σ (sM σ)) (by rw [show 256 = 2 ^ 8 from rfl]; exact Nat.pow_le_pow_right (by omega) (sIM hI).2)
set_option maxHeartbeats 4000000 in
set_option maxRecDepth 100000 in
theorem l_mpic {G : jG} {w : jWd} (hV : MInv w) (hI : sInv (abM (w.1 69))) {n0 : Int32} (hn : 1 ≤ n0 ∧ n0 ≤ 4) : ∀ n i : Nat, i + n = sM (abM (w.1 69)) → J G (jM G 2 RX7 cX7_pictures 4 (some .int) ((fun r' w' => r' = some (.int (sq_pictures (abM (w.1 69)) (abM (w.1 70)) (restM w) n0).1) ∧ RQ w w' (sq_pictures (abM (w.1 69)) (abM (w.1 70)) (restM w) n0).2))) w 20 [some (.ref 68), some (.int n0), some (.int (jb (sLast (abM (w.1 69)) i < n0))), some (.int (nI i))] [] := by
  have hM : w.1 69 2 = nI (sM (abM (w.1 69))) := (sIM hI).1
  have hM8 := (sIM hI).2
  intro n
  induction n with
  | zero =>
    intro i hi
    refine J_iload_n (pc' := 21) dX7_pictures_20 rfl rfl ?_
    refine J_aload_n (pc' := 22) dX7_pictures_21 rfl rfl ?_
    refine J_getR (pc' := 25) dX7_pictures_22 fl_7_9 (ly_68) (l84_68) rfl rfl ?_
    refine J_iconst (v := 2) (pc' := 26) dX7_pictures_25 (by decide) rfl ?_
    refine J_iald 2 (pc' := 27) dX7_pictures_26 (ly_69) (l84_69) nIc_2 (by decide) (by decide) rfl ?_
    rw [hM]
    refine J_icmp_ge 66 (pc' := 30) dX7_pictures_27 (by decide) rfl (fun h_27 => ?_) (fun h_27 => absurd (nI_le (by omega) (by omega)) h_27)
    refine J_iload_n (pc' := 67) dX7_pictures_66 rfl rfl ?_
    refine J_if_eq 79 (pc' := 70) dX7_pictures_67 (by decide) rfl (fun h_67 => ?_) (fun h_67 => ?_)
    · refine J_aload_n (pc' := 80) dX7_pictures_79 rfl rfl ?_
      refine J_ldc (pc' := 82) dX7_pictures_80 kc_7_141 rfl ?_
      refine J_V1v (pc' := 85) dX7_pictures_82 lk_7_126 cd_X7_error (k_merr (k := 3) (by decide) (by decide)) (ly_68) (l84_68) rfl rfl (jroom_of rfl) (Nat.le_of_ble_eq_true rfl) rfl ?_
      have ei : i = sM (abM (w.1 69)) := by omega
      subst ei
      first | exact J_iret dX7_pictures_85  (by unfold sq_pictures; rw [if_pos hn, if_neg (Int32.not_le.mpr (jb_n h_67))]; exact ⟨rfl, mq_row hV ((frG.rf w).set (by omega)) amc3⟩) | exact J_iret dX7_pictures_85  (by unfold sq_pictures; rw [if_pos hn, if_pos (Int32.not_lt.mp (jb_0.mp h_67))]; exact ⟨rfl, mq_err hV (by decide)⟩)
    · refine J_aload_n (pc' := 71) dX7_pictures_70 rfl rfl ?_
      refine J_iconst (v := 3) (pc' := 72) dX7_pictures_71 (by decide) rfl ?_
      refine J_iload_n (pc' := 73) dX7_pictures_72 rfl rfl ?_
      refine J_V2v (pc' := 76) dX7_pictures_73 lk_7_137 cd_X7_becomes (k_mbec (i := 3) (by omega) nIc_3) (ly_68) (l84_68) rfl rfl (jroom_of rfl) (Nat.le_of_ble_eq_true rfl) rfl ?_
      refine J_goto (pc' := 0) 85 dX7_pictures_76 (by decide) ?_
      have ei : i = sM (abM (w.1 69)) := by omega
      subst ei
      first | exact J_iret dX7_pictures_85  (by unfold sq_pictures; rw [if_pos hn, if_neg (Int32.not_le.mpr (jb_n h_67))]; exact ⟨rfl, mq_row hV ((frG.rf w).set (by omega)) amc3⟩) | exact J_iret dX7_pictures_85  (by unfold sq_pictures; rw [if_pos hn, if_pos (Int32.not_lt.mp (jb_0.mp h_67))]; exact ⟨rfl, mq_err hV (by decide)⟩)
  | succ n ih =>
    intro i hi
    have h8 : i < 8 := by omega
    refine J_iload_n (pc' := 21) dX7_pictures_20 rfl rfl ?_
    refine J_aload_n (pc' := 22) dX7_pictures_21 rfl rfl ?_
    refine J_getR (pc' := 25) dX7_pictures_22 fl_7_9 (ly_68) (l84_68) rfl rfl ?_
    refine J_iconst (v := 2) (pc' := 26) dX7_pictures_25 (by decide) rfl ?_
    refine J_iald 2 (pc' := 27) dX7_pictures_26 (ly_69) (l84_69) nIc_2 (by decide) (by decide) rfl ?_
    rw [hM]
    refine J_icmp_ge 66 (pc' := 30) dX7_pictures_27 (by decide) rfl (fun h_27 => absurd h_27 (nI_ge (by omega) (by omega))) (fun h_27 => ?_)
    refine J_iload_n (pc' := 31) dX7_pictures_30 rfl rfl ?_
    refine J_if_eq 58 (pc' := 34) dX7_pictures_31 (by decide) rfl (fun h_31 => ?_) (fun h_31 => ?_)
    · refine J_iconst (v := 0) (pc' := 59) dX7_pictures_58 (by decide) rfl ?_
      refine J_istore_n (pc' := 60) dX7_pictures_59 (Nat.le_of_ble_eq_true rfl) (jst2 rfl rfl) rfl ?_
      refine J_iinc (pc' := 63) dX7_pictures_60 rfl (Nat.le_of_ble_eq_true rfl) (jst3 rfl rfl) rfl ?_
      refine J_goto (pc' := 0) 20 dX7_pictures_63 (by decide) ?_
      have ej : (0 : Int32) = jb (sLast (abM (w.1 69)) (i + 1) < n0) := (jb_f (fun q => by have q := (sLast_s _ _ _).mp q; first | exact jb_0.mp h_31 q.1 | exact absurd h_41 (Int32.not_le.mpr q.2.1) | exact absurd h_51 (Int32.not_le.mpr q.2.2))).symm
      have h2 := ih (i + 1) (by omega)
      rw [← z1 i, ← ej] at h2
      exact h2
    · refine J_aload_n (pc' := 35) dX7_pictures_34 rfl rfl ?_
      refine J_iload_n (pc' := 36) dX7_pictures_35 rfl rfl ?_
      refine J_iconst (v := 2) (pc' := 37) dX7_pictures_36 (by decide) rfl ?_
      refine J_V2v (pc' := 40) dX7_pictures_37 lk_7_65 cd_X7_of (k_mof2 h8) (ly_68) (l84_68) rfl rfl (jroom_of rfl) (Nat.le_of_ble_eq_true rfl) rfl ?_
      refine J_iload_n (pc' := 41) dX7_pictures_40 rfl rfl ?_
      refine J_icmp_ge 58 (pc' := 44) dX7_pictures_41 (by decide) rfl (fun h_41 => ?_) (fun h_41 => ?_)
      · refine J_iconst (v := 0) (pc' := 59) dX7_pictures_58 (by decide) rfl ?_
        refine J_istore_n (pc' := 60) dX7_pictures_59 (Nat.le_of_ble_eq_true rfl) (jst2 rfl rfl) rfl ?_
        refine J_iinc (pc' := 63) dX7_pictures_60 rfl (Nat.le_of_ble_eq_true rfl) (jst3 rfl rfl) rfl ?_
        refine J_goto (pc' := 0) 20 dX7_pictures_63 (by decide) ?_
        have ej : (0 : Int32) = jb (sLast (abM (w.1 69)) (i + 1) < n0) := (jb_f (fun q => by have q := (sLast_s _ _ _).mp q; first | exact jb_0.mp h_31 q.1 | exact absurd h_41 (Int32.not_le.mpr q.2.1) | exact absurd h_51 (Int32.not_le.mpr q.2.2))).symm
        have h2 := ih (i + 1) (by omega)
        rw [← z1 i, ← ej] at h2
        exact h2
      · refine J_aload_n (pc' := 45) dX7_pictures_44 rfl rfl ?_
        refine J_iload_n (pc' := 46) dX7_pictures_45 rfl rfl ?_
        refine J_iconst (v := 3) (pc' := 47) dX7_pictures_46 (by decide) rfl ?_
        refine J_V2v (pc' := 50) dX7_pictures_47 lk_7_65 cd_X7_of (k_mof3 h8) (ly_68) (l84_68) rfl rfl (jroom_of rfl) (Nat.le_of_ble_eq_true rfl) rfl ?_
        refine J_iload_n (pc' := 51) dX7_pictures_50 rfl rfl ?_
        refine J_icmp_ge 58 (pc' := 54) dX7_pictures_51 (by decide) rfl (fun h_51 => ?_) (fun h_51 => ?_)
        · refine J_iconst (v := 0) (pc' := 59) dX7_pictures_58 (by decide) rfl ?_
          refine J_istore_n (pc' := 60) dX7_pictures_59 (Nat.le_of_ble_eq_true rfl) (jst2 rfl rfl) rfl ?_
          refine J_iinc (pc' := 63) dX7_pictures_60 rfl (Nat.le_of_ble_eq_true rfl) (jst3 rfl rfl) rfl ?_
          refine J_goto (pc' := 0) 20 dX7_pictures_63 (by decide) ?_
          have ej : (0 : Int32) = jb (sLast (abM (w.1 69)) (i + 1) < n0) := (jb_f (fun q => by have q := (sLast_s _ _ _).mp q; first | exact jb_0.mp h_31 q.1 | exact absurd h_41 (Int32.not_le.mpr q.2.1) | exact absurd h_51 (Int32.not_le.mpr q.2.2))).symm
          have h2 := ih (i + 1) (by omega)
          rw [← z1 i, ← ej] at h2
          exact h2
        · refine J_iconst (v := 1) (pc' := 55) dX7_pictures_54 (by decide) rfl ?_
          refine J_goto (pc' := 0) 59 dX7_pictures_55 (by decide) ?_
          refine J_istore_n (pc' := 60) dX7_pictures_59 (Nat.le_of_ble_eq_true rfl) (jst2 rfl rfl) rfl ?_
          refine J_iinc (pc' := 63) dX7_pictures_60 rfl (Nat.le_of_ble_eq_true rfl) (jst3 rfl rfl) rfl ?_
          refine J_goto (pc' := 0) 20 dX7_pictures_63 (by decide) ?_
          have ej : (1 : Int32) = jb (sLast (abM (w.1 69)) (i + 1) < n0) := (jb_t ((sLast_s _ _ _).mpr ⟨jb_n h_31, Int32.not_le.mp h_41, Int32.not_le.mp h_51⟩)).symm
          have h2 := ih (i + 1) (by omega)
          rw [← z1 i, ← ej] at h2
          exact h2
set_option maxHeartbeats 4000000 in
set_option maxRecDepth 100000 in
theorem b_X7_pictures {G : jG} {w : jWd} (hV : MInv w) (hI : sInv (abM (w.1 69))) {n0 : Int32} : jKp G 2 yX7_pictures cX7_pictures 4 (some .int) [.ref 68, .int n0] w (some (.int (sq_pictures (abM (w.1 69)) (abM (w.1 70)) (restM w) n0).1)) (fun w' => RQ w w' (sq_pictures (abM (w.1 69)) (abM (w.1 70)) (restM w) n0).2) := by
  have hT := hV.1
  refine jK_of (own := RX7) [some (.ref 68), some (.int n0), none, none] pn7 rfl (Nat.le_of_ble_eq_true rfl) rfl ?_
  refine J_iload_n (pc' := 1) dX7_pictures_0 rfl rfl ?_
  refine J_iconst (v := 1) (pc' := 2) dX7_pictures_1 (by decide) rfl ?_
  refine J_iconst (v := 4) (pc' := 3) dX7_pictures_2 (by decide) rfl ?_
  refine J_S3v (pc' := 6) dX7_pictures_3 lk_7_61 cd_X7_in (k_X7_in) (jroom_of rfl) (Nat.le_of_ble_eq_true rfl) rfl ?_
  refine J_if_ne 16 (pc' := 9) dX7_pictures_6 (by decide) rfl (fun h_6 => ?_) (fun h_6 => ?_)
  · refine J_iconst (v := 1) (pc' := 17) dX7_pictures_16 (by decide) rfl ?_
    refine J_istore_n (pc' := 18) dX7_pictures_17 (Nat.le_of_ble_eq_true rfl) (jst2 rfl rfl) rfl ?_
    refine J_iconst (v := 0) (pc' := 19) dX7_pictures_18 (by decide) rfl ?_
    refine J_istore_n (pc' := 20) dX7_pictures_19 (Nat.le_of_ble_eq_true rfl) (jst3 rfl rfl) rfl ?_
    have hn := jb_n h_6
    have h2 := l_mpic hV hI hn (G := G) (sM (abM (w.1 69))) 0 (by omega)
    rw [show jb (sLast (abM (w.1 69)) 0 < n0) = (1 : Int32) from jb_t (Int32.lt_of_lt_of_le (show (-1 : Int32) < 1 by decide) hn.1)] at h2
    exact h2
  · refine J_aload_n (pc' := 10) dX7_pictures_9 rfl rfl ?_
    refine J_ldc (pc' := 12) dX7_pictures_10 kc_7_125 rfl ?_
    refine J_V1v (pc' := 15) dX7_pictures_12 lk_7_126 cd_X7_error (k_merr (k := 1) (by decide) (by decide)) (ly_68) (l84_68) rfl rfl (jroom_of rfl) (Nat.le_of_ble_eq_true rfl) rfl ?_
    exact J_iret dX7_pictures_15  (by unfold sq_pictures; rw [if_neg (show ¬ (1 ≤ n0 ∧ n0 ≤ 4) from fun q => by first | exact jb_0.mp h_6 q)]; exact ⟨rfl, mq_err hV (by decide)⟩)
set_option maxHeartbeats 4000000 in
set_option maxRecDepth 100000 in
theorem b_X7_count {G : jG} {w : jWd} (hV : MInv w) (hI : sInv (abM (w.1 69))) {y : Int32} : jKp G 3 yX7_count cX7_count 2 (some .int) [.ref 68, .int y] w (some (.int (sq_count (abM (w.1 69)) (abM (w.1 70)) (restM w) y).1)) (fun w' => RQ w w' (sq_count (abM (w.1 69)) (abM (w.1 70)) (restM w) y).2) := by
  have hT := hV.1
  refine jK_of (own := RX7) [some (.ref 68), some (.int y)] pn7 rfl (Nat.le_of_ble_eq_true rfl) rfl ?_
  refine J_iload_n (pc' := 1) dX7_count_0 rfl rfl ?_
  by_cases e1_0 : y = 0
  · refine J_tabIn (pc' := 0) (off := 59) 60 dX7_count_1 (by rw [e1_0]; decide) (by rw [e1_0]; decide) (by rw [e1_0]; decide) (by decide) ?_
    refine J_aload_n (pc' := 61) dX7_count_60 rfl rfl ?_
    refine J_getR (pc' := 64) dX7_count_61 fl_7_9 (ly_68) (l84_68) rfl rfl ?_
    refine J_iconst (v := 2) (pc' := 65) dX7_count_64 (by decide) rfl ?_
    refine J_iald 2 (pc' := 66) dX7_count_65 (ly_69) (l84_69) nIc_2 (by decide) (by decide) rfl ?_
    exact J_iret dX7_count_66  (by unfold sq_count; rw [if_pos e1_0]; exact ⟨rfl, mq_rf hV⟩)
  by_cases e1_1 : y = 1
  · refine J_tabIn (pc' := 0) (off := 66) 67 dX7_count_1 (by rw [e1_1]; decide) (by rw [e1_1]; decide) (by rw [e1_1]; decide) (by decide) ?_
    refine J_aload_n (pc' := 68) dX7_count_67 rfl rfl ?_
    refine J_getR (pc' := 71) dX7_count_68 fl_7_9 (ly_68) (l84_68) rfl rfl ?_
    refine J_iconst (v := 3) (pc' := 72) dX7_count_71 (by decide) rfl ?_
    refine J_iald 3 (pc' := 73) dX7_count_72 (ly_69) (l84_69) nIc_3 (by decide) (by decide) rfl ?_
    exact J_iret dX7_count_73  (by unfold sq_count; rw [if_neg e1_0, if_pos e1_1]; exact ⟨rfl, mq_rf hV⟩)
  by_cases e1_2 : y = 2
  · refine J_tabIn (pc' := 0) (off := 73) 74 dX7_count_1 (by rw [e1_2]; decide) (by rw [e1_2]; decide) (by rw [e1_2]; decide) (by decide) ?_
    refine J_aload_n (pc' := 75) dX7_count_74 rfl rfl ?_
    refine J_getR (pc' := 78) dX7_count_75 fl_7_9 (ly_68) (l84_68) rfl rfl ?_
    refine J_iconst (v := 0) (pc' := 79) dX7_count_78 (by decide) rfl ?_
    refine J_iald 0 (pc' := 80) dX7_count_79 (ly_69) (l84_69) nIc_0 (by decide) (by decide) rfl ?_
    exact J_iret dX7_count_80  (by unfold sq_count; rw [if_neg e1_0, if_neg e1_1, if_pos e1_2]; exact ⟨rfl, mq_rf hV⟩)
  by_cases e1_3 : y = 3
  · refine J_tabIn (pc' := 0) (off := 80) 81 dX7_count_1 (by rw [e1_3]; decide) (by rw [e1_3]; decide) (by rw [e1_3]; decide) (by decide) ?_
    refine J_aload_n (pc' := 82) dX7_count_81 rfl rfl ?_
    refine J_getR (pc' := 85) dX7_count_82 fl_7_9 (ly_68) (l84_68) rfl rfl ?_
    refine J_iconst (v := 4) (pc' := 86) dX7_count_85 (by decide) rfl ?_
    refine J_iload_n (pc' := 87) dX7_count_86 rfl rfl ?_
    refine J_iadd (pc' := 88) dX7_count_87 rfl ?_
    refine J_iconst (v := 3) (pc' := 89) dX7_count_88 (by decide) rfl ?_
    refine J_isub (pc' := 90) dX7_count_89 rfl ?_
    refine J_iald 4 (pc' := 91) dX7_count_90 (ly_69) (l84_69) (by rw [e1_3]; decide) (by decide) (by decide) rfl ?_
    exact J_iret dX7_count_91  (by unfold sq_count; rw [if_neg e1_0, if_neg e1_1, if_neg e1_2, if_pos e1_3]; exact ⟨rfl, mq_rf hV⟩)
  by_cases e1_4 : y = 4
  · refine J_tabIn (pc' := 0) (off := 80) 81 dX7_count_1 (by rw [e1_4]; decide) (by rw [e1_4]; decide) (by rw [e1_4]; decide) (by decide) ?_
    refine J_aload_n (pc' := 82) dX7_count_81 rfl rfl ?_
    refine J_getR (pc' := 85) dX7_count_82 fl_7_9 (ly_68) (l84_68) rfl rfl ?_
    refine J_iconst (v := 4) (pc' := 86) dX7_count_85 (by decide) rfl ?_
    refine J_iload_n (pc' := 87) dX7_count_86 rfl rfl ?_
    refine J_iadd (pc' := 88) dX7_count_87 rfl ?_
    refine J_iconst (v := 3) (pc' := 89) dX7_count_88 (by decide) rfl ?_
    refine J_isub (pc' := 90) dX7_count_89 rfl ?_
    refine J_iald 5 (pc' := 91) dX7_count_90 (ly_69) (l84_69) (by rw [e1_4]; decide) (by decide) (by decide) rfl ?_
    exact J_iret dX7_count_91  (by unfold sq_count; rw [if_neg e1_0, if_neg e1_1, if_neg e1_2, if_neg e1_3, if_pos e1_4]; exact ⟨rfl, mq_rf hV⟩)
  by_cases e1_5 : y = 5
  · refine J_tabIn (pc' := 0) (off := 91) 92 dX7_count_1 (by rw [e1_5]; decide) (by rw [e1_5]; decide) (by rw [e1_5]; decide) (by decide) ?_
    refine J_aload_n (pc' := 93) dX7_count_92 rfl rfl ?_
    refine J_V0v (pc' := 96) dX7_count_93 lk_7_96 cd_X7_onOnes (k_mon hI) (ly_68) (l84_68) rfl rfl (jroom_of rfl) (Nat.le_of_ble_eq_true rfl) rfl ?_
    exact J_iret dX7_count_96  (by unfold sq_count; rw [if_neg e1_0, if_neg e1_1, if_neg e1_2, if_neg e1_3, if_neg e1_4, if_pos e1_5]; exact ⟨rfl, mq_rf hV⟩)
  by_cases e1_6 : y = 6
  · refine J_tabIn (pc' := 0) (off := 96) 97 dX7_count_1 (by rw [e1_6]; decide) (by rw [e1_6]; decide) (by rw [e1_6]; decide) (by decide) ?_
    refine J_aload_n (pc' := 98) dX7_count_97 rfl rfl ?_
    refine J_aload_n (pc' := 99) dX7_count_98 rfl rfl ?_
    refine J_V0v (pc' := 102) dX7_count_99 lk_7_96 cd_X7_onOnes (k_mon hI) (ly_68) (l84_68) rfl rfl (jroom_of rfl) (Nat.le_of_ble_eq_true rfl) rfl ?_
    refine J_V1v (pc' := 105) dX7_count_102 lk_7_83 cd_X7_tiedBy (k_mtie hI (sSet_lt2 hI)) (ly_68) (l84_68) rfl rfl (jroom_of rfl) (Nat.le_of_ble_eq_true rfl) rfl ?_
    exact J_iret dX7_count_105  (by unfold sq_count; rw [if_neg e1_0, if_neg e1_1, if_neg e1_2, if_neg e1_3, if_neg e1_4, if_neg e1_5, if_pos e1_6]; exact ⟨rfl, mq_rf hV⟩)
  by_cases e1_7 : y = 7
  · refine J_tabIn (pc' := 0) (off := 105) 106 dX7_count_1 (by rw [e1_7]; decide) (by rw [e1_7]; decide) (by rw [e1_7]; decide) (by decide) ?_
    refine J_aload_n (pc' := 107) dX7_count_106 rfl rfl ?_
    refine J_getR (pc' := 110) dX7_count_107 fl_7_9 (ly_68) (l84_68) rfl rfl ?_
    refine J_bipush (v := 6) (pc' := 112) dX7_count_110 (by decide) rfl ?_
    refine J_iald 6 (pc' := 113) dX7_count_112 (ly_69) (l84_69) nIc_6 (by decide) (by decide) rfl ?_
    exact J_iret dX7_count_113  (by unfold sq_count; rw [if_neg e1_0, if_neg e1_1, if_neg e1_2, if_neg e1_3, if_neg e1_4, if_neg e1_5, if_neg e1_6, if_pos e1_7]; exact ⟨rfl, mq_rf hV⟩)
  by_cases e1_8 : y = 8
  · refine J_tabIn (pc' := 0) (off := 113) 114 dX7_count_1 (by rw [e1_8]; decide) (by rw [e1_8]; decide) (by rw [e1_8]; decide) (by decide) ?_
    refine J_aload_n (pc' := 115) dX7_count_114 rfl rfl ?_
    refine J_getR (pc' := 118) dX7_count_115 fl_7_9 (ly_68) (l84_68) rfl rfl ?_
    refine J_bipush (v := 7) (pc' := 120) dX7_count_118 (by decide) rfl ?_
    refine J_iald 7 (pc' := 121) dX7_count_120 (ly_69) (l84_69) nIc_7 (by decide) (by decide) rfl ?_
    exact J_iret dX7_count_121  (by unfold sq_count; rw [if_neg e1_0, if_neg e1_1, if_neg e1_2, if_neg e1_3, if_neg e1_4, if_neg e1_5, if_neg e1_6, if_neg e1_7, if_pos e1_8]; exact ⟨rfl, mq_rf hV⟩)
  by_cases e1_9 : y = 9
  · refine J_tabIn (pc' := 0) (off := 121) 122 dX7_count_1 (by rw [e1_9]; decide) (by rw [e1_9]; decide) (by rw [e1_9]; decide) (by decide) ?_
    refine J_aload_n (pc' := 123) dX7_count_122 rfl rfl ?_
    refine J_getI (pc' := 126) dX7_count_123 fl_7_262 (ly_68) (l84_68) rfl rfl ?_
    exact J_iret dX7_count_126  (by unfold sq_count; rw [if_neg e1_0, if_neg e1_1, if_neg e1_2, if_neg e1_3, if_neg e1_4, if_neg e1_5, if_neg e1_6, if_neg e1_7, if_neg e1_8, if_pos e1_9]; exact ⟨rfl, mq_rf hV⟩)
  by_cases e1_10 : y = 10
  · refine J_tabIn (pc' := 0) (off := 126) 127 dX7_count_1 (by rw [e1_10]; decide) (by rw [e1_10]; decide) (by rw [e1_10]; decide) (by decide) ?_
    refine J_aload_n (pc' := 128) dX7_count_127 rfl rfl ?_
    refine J_getR (pc' := 131) dX7_count_128 fl_7_9 (ly_68) (l84_68) rfl rfl ?_
    refine J_iconst (v := 1) (pc' := 132) dX7_count_131 (by decide) rfl ?_
    refine J_iald 1 (pc' := 133) dX7_count_132 (ly_69) (l84_69) nIc_1 (by decide) (by decide) rfl ?_
    exact J_iret dX7_count_133  (by unfold sq_count; rw [if_neg e1_0, if_neg e1_1, if_neg e1_2, if_neg e1_3, if_neg e1_4, if_neg e1_5, if_neg e1_6, if_neg e1_7, if_neg e1_8, if_neg e1_9, if_pos e1_10]; exact ⟨rfl, mq_rf hV⟩)
  refine J_tabOut (pc' := 0) 134 dX7_count_1 (by have q0 := zneI e1_0 (k := 0) (by decide); have q1 := zneI e1_1 (k := 1) (by decide); have q2 := zneI e1_2 (k := 2) (by decide); have q3 := zneI e1_3 (k := 3) (by decide); have q4 := zneI e1_4 (k := 4) (by decide); have q5 := zneI e1_5 (k := 5) (by decide); have q6 := zneI e1_6 (k := 6) (by decide); have q7 := zneI e1_7 (k := 7) (by decide); have q8 := zneI e1_8 (k := 8) (by decide); have q9 := zneI e1_9 (k := 9) (by decide); have q10 := zneI e1_10 (k := 10) (by decide); omega) (by decide) ?_
  refine J_aload_n (pc' := 135) dX7_count_134 rfl rfl ?_
  refine J_ldc (pc' := 137) dX7_count_135 kc_7_125 rfl ?_
  refine J_V1v (pc' := 140) dX7_count_137 lk_7_126 cd_X7_error (k_merr (k := 1) (by decide) (by decide)) (ly_68) (l84_68) rfl rfl (jroom_of rfl) (Nat.le_of_ble_eq_true rfl) rfl ?_
  exact J_iret dX7_count_140  (by unfold sq_count; rw [if_neg e1_0, if_neg e1_1, if_neg e1_2, if_neg e1_3, if_neg e1_4, if_neg e1_5, if_neg e1_6, if_neg e1_7, if_neg e1_8, if_neg e1_9, if_neg e1_10]; exact ⟨rfl, mq_err hV (by decide)⟩)
theorem mT_cp {r r' : Nat → Int32} (hI : sInv (abM r)) (h : ∀ j, j < 382 → r' j = r j) (hT : mT r) : mT r' := fun u hu j hj => by
  have hc := (hI.2.2.2.2.2.2.2.2.2.1 u hu).2.1
  have e : nn (r (140 + 121 * u)) = sC (abM r) u := by
    obtain rfl | rfl : u = 0 ∨ u = 1 := by omega
    · rfl
    · rfl
  rw [h _ (by omega)] at hj
  rw [h _ (by omega), h _ (by omega)]
  exact hT u hu j hj
theorem am_cp {r r' : Nat → Int32} (hI : sInv (abM r)) (h : ∀ j, j < 382 → r' j = r j) : abM r' = abM r := abM_congr (hI.2.2.2.2.2.2.2.2.2.1 0 (by decide)).2.1 (hI.2.2.2.2.2.2.2.2.2.1 1 (by decide)).2.1 h
theorem rm_img {w : jWd} {v : Int32} : restM (jset w 68 3 v) = sg1 (restM w) 1 0 v := by
  funext f j
  match f with
  | 0 => rfl
  | 1 =>
    show (if j = 0 then (jset w 68 3 v).1 68 3 else 0) = (if 1 = 1 ∧ j = 0 then v else if j = 0 then w.1 68 3 else 0)
    by_cases e : j = 0
    · rw [if_pos e, if_pos ⟨rfl, e⟩, jset_1, if_pos rfl, if_pos rfl]
    · rw [if_neg e, if_neg (show ¬ (1 = 1 ∧ j = 0) from fun q => e q.2), if_neg e]
  | 2 => rfl
  | 3 => rfl
  | 4 => rfl
  | 5 => rfl
  | 6 => rfl
  | 7 => rfl
  | 8 => rfl
  | 9 => rfl
  | n + 10 => rfl
set_option maxHeartbeats 4000000 in
set_option maxRecDepth 100000 in
theorem b_X7_image {G : jG} {w : jWd} (hV : MInv w) (hI : sInv (abM (w.1 69))) : jKp G 2 yX7_image cX7_image 1 (some .int) [.ref 68] w (some (.int (sq_image (abM (w.1 69)) (abM (w.1 70)) (restM w)).1)) (fun w' => RQ w w' (sq_image (abM (w.1 69)) (abM (w.1 70)) (restM w)).2) := by
  have hT := hV.1
  refine jK_of (own := RX7) [some (.ref 68)] pn7 rfl (Nat.le_of_ble_eq_true rfl) rfl ?_
  refine J_aload_n (pc' := 1) dX7_image_0 rfl rfl ?_
  refine J_getR (pc' := 4) dX7_image_1 fl_7_9 (ly_68) (l84_68) rfl rfl ?_
  refine J_aload_n (pc' := 5) dX7_image_4 rfl rfl ?_
  refine J_getR (pc' := 8) dX7_image_5 fl_7_13 (ly_68) (l84_68) rfl rfl ?_
  refine J_S2w (pc' := 11) dX7_image_8 lk_7_57 cd_X7_copyAll (k_mcp ly_69 l84_69 ly_70 l84_70 (by decide)) (jroom_of rfl) (Nat.le_of_ble_eq_true rfl) rfl (fun w8 hw8 => ?_)
  refine J_aload_n (pc' := 12) dX7_image_11 rfl rfl ?_
  refine J_dup (pc' := 13) dX7_image_12 rfl rfl ?_
  refine J_getI (pc' := 16) dX7_image_13 fl_7_309 (ly_68) (l84_68) rfl rfl ?_
  rw [show w8.1 68 3 = w.1 68 3 from by rw [hw8.1 68 (by decide)]]
  refine J_iconst (v := 1) (pc' := 17) dX7_image_16 (by decide) rfl ?_
  refine J_iadd (pc' := 18) dX7_image_17 rfl ?_
  refine J_putI (pc' := 21) dX7_image_18 fp_7_309 (ly_68) (l84_68) rfl rfl ?_
  refine J_aload_n (pc' := 22) dX7_image_21 rfl rfl ?_
  refine J_getI (pc' := 25) dX7_image_22 fl_7_309 (ly_68) (l84_68) rfl rfl ?_
  rw [show (jset w8 68 3 (w.1 68 3 + 1)).1 68 3 = w.1 68 3 + 1 from by rw [jset_1, if_pos rfl, if_pos rfl]]
  exact J_iret dX7_image_25  ⟨rfl, by show abM ((jset w8 68 3 _).1 69) = _; rw [jset_off (by decide), hw8.1 69 (by decide)]; rfl, by rw [jset_off (by decide)]; exact am_cp hI hw8.2.1, by rw [rm_img, restM_congr (fun a q1 q2 q3 q4 => hw8.1 a q3)]; rfl, ⟨by rw [jset_off (by decide), hw8.1 69 (by decide)]; exact hV.1, by rw [jset_off (by decide)]; exact mT_cp hI hw8.2.1 hV.1⟩, mx_set (fun a q => ⟨hw8.1 a (by omega), by rw [hw8.2.2]⟩) (by decide)⟩
set_option maxHeartbeats 4000000 in
set_option maxRecDepth 100000 in
theorem b_X7_restore {G : jG} {w : jWd} (hV : MInv w) (hI : sInv (abM (w.1 69))) (hK : restM w 1 0 ≠ 0 → sInv (abM (w.1 70))) : jKp G 2 yX7_restore cX7_restore 1 (some .int) [.ref 68] w (some (.int (sq_restore (abM (w.1 69)) (abM (w.1 70)) (restM w)).1)) (fun w' => RQ w w' (sq_restore (abM (w.1 69)) (abM (w.1 70)) (restM w)).2) := by
  have hT := hV.1
  refine jK_of (own := RX7) [some (.ref 68)] pn7 rfl (Nat.le_of_ble_eq_true rfl) rfl ?_
  refine J_aload_n (pc' := 1) dX7_restore_0 rfl rfl ?_
  refine J_getI (pc' := 4) dX7_restore_1 fl_7_309 (ly_68) (l84_68) rfl rfl ?_
  refine J_if_ne 14 (pc' := 7) dX7_restore_4 (by decide) rfl (fun h_4 => ?_) (fun h_4 => ?_)
  · refine J_aload_n (pc' := 15) dX7_restore_14 rfl rfl ?_
    refine J_getR (pc' := 18) dX7_restore_15 fl_7_13 (ly_68) (l84_68) rfl rfl ?_
    refine J_aload_n (pc' := 19) dX7_restore_18 rfl rfl ?_
    refine J_getR (pc' := 22) dX7_restore_19 fl_7_9 (ly_68) (l84_68) rfl rfl ?_
    refine J_S2w (pc' := 25) dX7_restore_22 lk_7_57 cd_X7_copyAll (k_mcp ly_70 l84_70 ly_69 l84_69 (by decide)) (jroom_of rfl) (Nat.le_of_ble_eq_true rfl) rfl (fun w22 hw22 => ?_)
    have hI2 := hK h_4
    refine J_aload_n (pc' := 26) dX7_restore_25 rfl rfl ?_
    refine J_getR (pc' := 29) dX7_restore_26 fl_7_9 (ly_68) (l84_68) rfl rfl ?_
    refine J_iconst (v := 0) (pc' := 30) dX7_restore_29 (by decide) rfl ?_
    refine J_iald 0 (pc' := 31) dX7_restore_30 (ly_69) (l84_69) nIc_0 (by decide) (by decide) rfl ?_
    rw [show w22.1 69 0 = abM (w.1 70) 6 2 from hw22.2.1 0 (by decide)]
    exact J_iret dX7_restore_31  (by unfold sq_restore; rw [if_neg (show ¬ restM w 1 0 = 0 from h_4)]; exact ⟨rfl, am_cp hI2 hw22.2.1, by rw [hw22.1 70 (by decide)], restM_congr (fun a q1 q2 q3 q4 => hw22.1 a q2), ⟨mT_cp hI2 hw22.2.1 hV.2, by rw [hw22.1 70 (by decide)]; exact hV.2⟩, fun a q => ⟨hw22.1 a (by omega), by rw [hw22.2.2]⟩⟩)
  · refine J_aload_n (pc' := 8) dX7_restore_7 rfl rfl ?_
    refine J_ldc (pc' := 10) dX7_restore_8 kc_7_248 rfl ?_
    refine J_V1v (pc' := 13) dX7_restore_10 lk_7_126 cd_X7_error (k_merr (k := 2) (by decide) (by decide)) (ly_68) (l84_68) rfl rfl (jroom_of rfl) (Nat.le_of_ble_eq_true rfl) rfl ?_
    exact J_iret dX7_restore_13  (by unfold sq_restore; rw [if_pos (show restM w 1 0 = 0 from by first | exact h_4 | exact Decidable.not_not.mp h_4)]; exact ⟨rfl, mq_err hV (by decide)⟩)
