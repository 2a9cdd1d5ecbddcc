/-! ===== the reference: misses ===== -/
/-! ===== the reference: misses ===== -/
theorem mAbs_eq (v : Int64) : (if v < 0 then -v else v) = sAbs v := by
  unfold sAbs
  by_cases h : v < 0
  · rw [if_pos h, if_neg (fun q => Int64.lt_irrefl (Int64.lt_trans h q))]
  · rw [if_neg h]
    by_cases h2 : 0 < v
    · rw [if_pos h2]
    · rw [if_neg h2]
      have e : v = 0 := Int64.le_antisymm (Int64.not_lt.mp h2) (Int64.not_lt.mp h)
      rw [e]; rfl
/-- the most doubted mark, as the reference finds it -/
def mMo (σ : sg) (ln : Int64) (pl : Nat → Int64) : Nat → Int32
  | 0 => -1
  | n + 1 => if σ 5 n = 1 ∧ (mMo σ ln pl n < 0 ∨ sDbt σ ln pl (nn (mMo σ ln pl n)) < sDbt σ ln pl n) then nI n else mMo σ ln pl n
theorem mMo_rng {σ : sg} {ln : Int64} {pl : Nat → Int64} : ∀ n, n ≤ 8 → mMo σ ln pl n = -1 ∨ ∃ k, k < n ∧ mMo σ ln pl n = nI k ∧ σ 5 k = 1
  | 0, _ => Or.inl rfl
  | n + 1, h => by
    rw [mMo]
    by_cases hc : σ 5 n = 1 ∧ (mMo σ ln pl n < 0 ∨ sDbt σ ln pl (nn (mMo σ ln pl n)) < sDbt σ ln pl n)
    · rw [if_pos hc]; exact Or.inr ⟨n, by omega, rfl, hc.1⟩
    · rw [if_neg hc]
      rcases mMo_rng n (by omega) with e | ⟨k, hk, e⟩
      · exact Or.inl e
      · exact Or.inr ⟨k, by omega, e⟩
set_option maxHeartbeats 4000000 in
set_option maxRecDepth 100000 in
theorem k_mmiss {G : jG} {w : jWd} (hI : sInv (abM (w.1 69))) (hT : mT (w.1 69)) {k : Nat} (hk : k < sM (abM (w.1 69))) (hS : mSol w (abM (w.1 69))) : jKd G 5 yX7_missOf cX7_missOf 4 (some .long) [.ref 68, .int (nI k)] w (some (.long (sMisX (abM (w.1 69)) (mLn (abM (w.1 69))) (mAb (abM (w.1 69))) k (sS (abM (w.1 69)) k)))) w := by
  have h8 : k < 8 := Nat.lt_of_lt_of_le hk (sIM hI).2
  obtain ⟨-, -, q2, q3, -⟩ := sIk hI hk
  have hP4 := (sIP hI).2.2
  obtain ⟨g, hg, eg⟩ := pic_ex hP4 q3
  have hgP : g < sP (abM (w.1 69)) := by have := q3.2; rw [eg, nI_toInt (by omega)] at this; omega
  have hng : nn ((abM (w.1 69)) 3 k) = g := by rw [eg, nn_nI (by omega)]
  refine jK_of (own := RX7) [some (.ref 68), some (.int (nI k)), none, none] pn7 rfl (Nat.le_of_ble_eq_true rfl) rfl ?_
  refine J_aload_n (pc' := 1) dX7_missOf_0 rfl rfl ?_
  refine J_iload_n (pc' := 2) dX7_missOf_1 rfl rfl ?_
  refine J_iconst (v := 2) (pc' := 3) dX7_missOf_2 (by decide) rfl ?_
  refine J_V2v (pc' := 6) dX7_missOf_3 lk_7_65 cd_X7_of (k_mof2 h8) (ly_68) (l84_68) rfl rfl (jroom_of rfl) (Nat.le_of_ble_eq_true rfl) rfl ?_
  refine J_if_ge 13 (pc' := 9) dX7_missOf_6 (by decide) rfl (fun h_6 => ?_) (fun h_6 => ?_)
  · obtain ⟨f, hf, ef⟩ := pic_ex hP4 ⟨by have := Int32.le_iff_toInt_le.mp (by first | exact h_6 | exact Int32.not_lt.mp h_6); rw [show (0 : Int32).toInt = 0 from by decide] at this; exact this, q2.2⟩
    have hfP : f < sP (abM (w.1 69)) := by have := q2.2; rw [ef, nI_toInt (by omega)] at this; omega
    have hnf : nn ((abM (w.1 69)) 2 k) = f := by rw [ef, nn_nI (by omega)]
    refine J_aload_n (pc' := 14) dX7_missOf_13 rfl rfl ?_
    refine J_getR (pc' := 17) dX7_missOf_14 fl_7_38 (ly_68) (l84_68) rfl rfl ?_
    refine J_aload_n (pc' := 18) dX7_missOf_17 rfl rfl ?_
    refine J_iload_n (pc' := 19) dX7_missOf_18 rfl rfl ?_
    refine J_iconst (v := 2) (pc' := 20) dX7_missOf_19 (by decide) rfl ?_
    refine J_V2v (pc' := 23) dX7_missOf_20 lk_7_65 cd_X7_of (k_mof2 h8) (ly_68) (l84_68) rfl rfl (jroom_of rfl) (Nat.le_of_ble_eq_true rfl) rfl ?_
    refine J_lald f (pc' := 24) dX7_missOf_23 (ly_78) (l84_78) ef (by omega) (by decide) rfl ?_
    rw [hS.2 f hfP]
    refine J_lstore_n (pc' := 25) dX7_missOf_24 (Nat.le_of_ble_eq_true rfl) (jstL2 rfl) rfl ?_
    refine J_aload_n (pc' := 26) dX7_missOf_25 rfl rfl ?_
    refine J_iload_n (pc' := 27) dX7_missOf_26 rfl rfl ?_
    refine J_V1v (pc' := 30) dX7_missOf_27 lk_7_93 cd_X7_saysOf (k_msy hI hT hk) (ly_68) (l84_68) rfl rfl (jroom_of rfl) (Nat.le_of_ble_eq_true rfl) rfl ?_
    refine J_i2l (pc' := 31) dX7_missOf_30 rfl ?_
    refine J_aload_n (pc' := 32) dX7_missOf_31 rfl rfl ?_
    refine J_getJ (pc' := 35) dX7_missOf_32 fl_7_108 (ly_68) (l84_68) rfl rfl ?_
    rw [hS.1]
    refine J_lmul (pc' := 36) dX7_missOf_35 rfl ?_
    refine J_aload_n (pc' := 37) dX7_missOf_36 rfl rfl ?_
    refine J_getR (pc' := 40) dX7_missOf_37 fl_7_38 (ly_68) (l84_68) rfl rfl ?_
    refine J_aload_n (pc' := 41) dX7_missOf_40 rfl rfl ?_
    refine J_iload_n (pc' := 42) dX7_missOf_41 rfl rfl ?_
    refine J_iconst (v := 3) (pc' := 43) dX7_missOf_42 (by decide) rfl ?_
    refine J_V2v (pc' := 46) dX7_missOf_43 lk_7_65 cd_X7_of (k_mof3 h8) (ly_68) (l84_68) rfl rfl (jroom_of rfl) (Nat.le_of_ble_eq_true rfl) rfl ?_
    refine J_lald g (pc' := 47) dX7_missOf_46 (ly_78) (l84_78) eg (by omega) (by decide) rfl ?_
    rw [hS.2 g hgP]
    refine J_lsub (pc' := 48) dX7_missOf_47 rfl ?_
    refine J_lload_n (pc' := 49) dX7_missOf_48 rfl rfl ?_
    refine J_ladd (pc' := 50) dX7_missOf_49 rfl ?_
    exact J_lret dX7_missOf_50  ⟨by unfold sMisX; rw [hng, hnf, if_neg (by first | exact Int32.not_lt.mpr h_6 | exact h_6)], rfl⟩
  · refine J_lconst (v := 0) (pc' := 10) dX7_missOf_9 (by decide) rfl ?_
    refine J_goto (pc' := 0) 24 dX7_missOf_10 (by decide) ?_
    refine J_lstore_n (pc' := 25) dX7_missOf_24 (Nat.le_of_ble_eq_true rfl) (jstL2 rfl) rfl ?_
    refine J_aload_n (pc' := 26) dX7_missOf_25 rfl rfl ?_
    refine J_iload_n (pc' := 27) dX7_missOf_26 rfl rfl ?_
    refine J_V1v (pc' := 30) dX7_missOf_27 lk_7_93 cd_X7_saysOf (k_msy hI hT hk) (ly_68) (l84_68) rfl rfl (jroom_of rfl) (Nat.le_of_ble_eq_true rfl) rfl ?_
    refine J_i2l (pc' := 31) dX7_missOf_30 rfl ?_
    refine J_aload_n (pc' := 32) dX7_missOf_31 rfl rfl ?_
    refine J_getJ (pc' := 35) dX7_missOf_32 fl_7_108 (ly_68) (l84_68) rfl rfl ?_
    rw [hS.1]
    refine J_lmul (pc' := 36) dX7_missOf_35 rfl ?_
    refine J_aload_n (pc' := 37) dX7_missOf_36 rfl rfl ?_
    refine J_getR (pc' := 40) dX7_missOf_37 fl_7_38 (ly_68) (l84_68) rfl rfl ?_
    refine J_aload_n (pc' := 41) dX7_missOf_40 rfl rfl ?_
    refine J_iload_n (pc' := 42) dX7_missOf_41 rfl rfl ?_
    refine J_iconst (v := 3) (pc' := 43) dX7_missOf_42 (by decide) rfl ?_
    refine J_V2v (pc' := 46) dX7_missOf_43 lk_7_65 cd_X7_of (k_mof3 h8) (ly_68) (l84_68) rfl rfl (jroom_of rfl) (Nat.le_of_ble_eq_true rfl) rfl ?_
    refine J_lald g (pc' := 47) dX7_missOf_46 (ly_78) (l84_78) eg (by omega) (by decide) rfl ?_
    rw [hS.2 g hgP]
    refine J_lsub (pc' := 48) dX7_missOf_47 rfl ?_
    refine J_lload_n (pc' := 49) dX7_missOf_48 rfl rfl ?_
    refine J_ladd (pc' := 50) dX7_missOf_49 rfl ?_
    exact J_lret dX7_missOf_50  ⟨by unfold sMisX; rw [hng, if_pos (by first | exact h_6 | exact Int32.not_le.mp h_6)], rfl⟩
set_option maxHeartbeats 4000000 in
set_option maxRecDepth 100000 in
theorem k_mdbt {G : jG} {w : jWd} (hI : sInv (abM (w.1 69))) (hT : mT (w.1 69)) {k : Nat} (hk : k < sM (abM (w.1 69))) (hS : mSol w (abM (w.1 69))) : jKd G 6 yX7_doubt cX7_doubt 4 (some .long) [.ref 68, .int (nI k)] w (some (.long (sDbt (abM (w.1 69)) (mLn (abM (w.1 69))) (mAb (abM (w.1 69))) k))) w := by
  refine jK_of (own := RX7) [some (.ref 68), some (.int (nI k)), none, none] pn7 rfl (Nat.le_of_ble_eq_true rfl) rfl ?_
  refine J_aload_n (pc' := 1) dX7_doubt_0 rfl rfl ?_
  refine J_iload_n (pc' := 2) dX7_doubt_1 rfl rfl ?_
  refine J_V1v (pc' := 5) dX7_doubt_2 lk_7_112 cd_X7_missOf (k_mmiss hI hT hk hS) (ly_68) (l84_68) rfl rfl (jroom_of rfl) (Nat.le_of_ble_eq_true rfl) rfl ?_
  refine J_lstore_n (pc' := 6) dX7_doubt_5 (Nat.le_of_ble_eq_true rfl) (jstL2 rfl) rfl ?_
  refine J_aload_n (pc' := 7) dX7_doubt_6 rfl rfl ?_
  refine J_iload_n (pc' := 8) dX7_doubt_7 rfl rfl ?_
  refine J_V1v (pc' := 11) dX7_doubt_8 lk_7_90 cd_X7_weight (k_mwt hI hT hk) (ly_68) (l84_68) rfl rfl (jroom_of rfl) (Nat.le_of_ble_eq_true rfl) rfl ?_
  refine J_i2l (pc' := 12) dX7_doubt_11 rfl ?_
  refine J_lload_n (pc' := 13) dX7_doubt_12 rfl rfl ?_
  refine J_lconst (v := 0) (pc' := 14) dX7_doubt_13 (by decide) rfl ?_
  refine J_lcmp (pc' := 15) dX7_doubt_14 rfl ?_
  refine J_if_ge 23 (pc' := 18) dX7_doubt_15 (by decide) rfl (fun h_15 => ?_) (fun h_15 => ?_)
  · refine J_lload_n (pc' := 24) dX7_doubt_23 rfl rfl ?_
    refine J_lmul (pc' := 25) dX7_doubt_24 rfl ?_
    have hc0 : (0 ≤ lg_cmp (sMisX (abM (w.1 69)) (mLn (abM (w.1 69))) (mAb (abM (w.1 69))) k (sS (abM (w.1 69)) k)) 0) ↔ ¬ (sMisX (abM (w.1 69)) (mLn (abM (w.1 69))) (mAb (abM (w.1 69))) k (sS (abM (w.1 69)) k)) < 0 := lcmpL
    first | exact J_lret dX7_doubt_25  ⟨by unfold sDbt; rw [← mAbs_eq, if_neg (hc0.mp h_15)], rfl⟩ | exact J_lret dX7_doubt_25  ⟨by unfold sDbt; rw [← mAbs_eq, if_pos (Decidable.not_not.mp (mt hc0.mpr h_15))], rfl⟩
  · refine J_lload_n (pc' := 19) dX7_doubt_18 rfl rfl ?_
    refine J_lneg (pc' := 20) dX7_doubt_19 rfl ?_
    refine J_goto (pc' := 0) 24 dX7_doubt_20 (by decide) ?_
    refine J_lmul (pc' := 25) dX7_doubt_24 rfl ?_
    have hc0 : (0 ≤ lg_cmp (sMisX (abM (w.1 69)) (mLn (abM (w.1 69))) (mAb (abM (w.1 69))) k (sS (abM (w.1 69)) k)) 0) ↔ ¬ (sMisX (abM (w.1 69)) (mLn (abM (w.1 69))) (mAb (abM (w.1 69))) k (sS (abM (w.1 69)) k)) < 0 := lcmpL
    first | exact J_lret dX7_doubt_25  ⟨by unfold sDbt; rw [← mAbs_eq, if_neg (hc0.mp h_15)], rfl⟩ | exact J_lret dX7_doubt_25  ⟨by unfold sDbt; rw [← mAbs_eq, if_pos (Decidable.not_not.mp (mt hc0.mpr h_15))], rfl⟩
set_option maxHeartbeats 4000000 in
set_option maxRecDepth 100000 in
theorem l_mmd {G : jG} {w : jWd} (hI : sInv (abM (w.1 69))) (hT : mT (w.1 69)) (hS : mSol w (abM (w.1 69))) : ∀ n j : Nat, j + n = sM (abM (w.1 69)) → J G (jM G 7 RX7 cX7_mostDoubted 3 (some .int) ((fun r' w' => r' = some (.int (mMo (abM (w.1 69)) (mLn (abM (w.1 69))) (mAb (abM (w.1 69))) (sM (abM (w.1 69))))) ∧ w' = w))) w 4 [some (.ref 68), some (.int (mMo (abM (w.1 69)) (mLn (abM (w.1 69))) (mAb (abM (w.1 69))) j)), some (.int (nI j))] [] := by
  have hM : w.1 69 2 = nI (sM (abM (w.1 69))) := (sIM hI).1
  have hM8 := (sIM hI).2
  intro n
  induction n with
  | zero =>
    intro j hj 
    refine J_iload_n (pc' := 5) dX7_mostDoubted_4 rfl rfl ?_
    refine J_aload_n (pc' := 6) dX7_mostDoubted_5 rfl rfl ?_
    refine J_getR (pc' := 9) dX7_mostDoubted_6 fl_7_9 (ly_68) (l84_68) rfl rfl ?_
    refine J_iconst (v := 2) (pc' := 10) dX7_mostDoubted_9 (by decide) rfl ?_
    refine J_iald 2 (pc' := 11) dX7_mostDoubted_10 (ly_69) (l84_69) nIc_2 (by decide) (by decide) rfl ?_
    refine J_icmp_ge 54 (pc' := 14) dX7_mostDoubted_11 (by decide) rfl (fun h_11 => ?_) (fun h_11 => absurd (by rw [hM]; exact nI_le (by omega) (by omega)) h_11)
    refine J_iload_n (pc' := 55) dX7_mostDoubted_54 rfl rfl ?_
    obtain rfl : j = sM (abM (w.1 69)) := by omega
    exact J_iret dX7_mostDoubted_55  ⟨rfl, rfl⟩
  | succ n ih =>
    intro j hj 
    have h8 : j < 8 := by omega
    refine J_iload_n (pc' := 5) dX7_mostDoubted_4 rfl rfl ?_
    refine J_aload_n (pc' := 6) dX7_mostDoubted_5 rfl rfl ?_
    refine J_getR (pc' := 9) dX7_mostDoubted_6 fl_7_9 (ly_68) (l84_68) rfl rfl ?_
    refine J_iconst (v := 2) (pc' := 10) dX7_mostDoubted_9 (by decide) rfl ?_
    refine J_iald 2 (pc' := 11) dX7_mostDoubted_10 (ly_69) (l84_69) nIc_2 (by decide) (by decide) rfl ?_
    refine J_icmp_ge 54 (pc' := 14) dX7_mostDoubted_11 (by decide) rfl (fun h_11 => absurd h_11 (by rw [hM]; exact nI_ge (by omega) (by omega))) (fun h_11 => ?_)
    refine J_aload_n (pc' := 15) dX7_mostDoubted_14 rfl rfl ?_
    refine J_iload_n (pc' := 16) dX7_mostDoubted_15 rfl rfl ?_
    refine J_iconst (v := 5) (pc' := 17) dX7_mostDoubted_16 (by decide) rfl ?_
    refine J_V2v (pc' := 20) dX7_mostDoubted_17 lk_7_65 cd_X7_of (k_mof5 h8) (ly_68) (l84_68) rfl rfl (jroom_of rfl) (Nat.le_of_ble_eq_true rfl) rfl ?_
    refine J_iconst (v := 1) (pc' := 21) dX7_mostDoubted_20 (by decide) rfl ?_
    refine J_icmp_ne 46 (pc' := 24) dX7_mostDoubted_21 (by decide) rfl (fun h_21 => ?_) (fun h_21 => ?_)
    · refine J_iload_n (pc' := 47) dX7_mostDoubted_46 rfl rfl ?_
      refine J_istore_n (pc' := 48) dX7_mostDoubted_47 (Nat.le_of_ble_eq_true rfl) (jst1 rfl rfl) rfl ?_
      refine J_iinc (pc' := 51) dX7_mostDoubted_48 rfl (Nat.le_of_ble_eq_true rfl) (jst2 rfl rfl) rfl ?_
      refine J_goto (pc' := 0) 4 dX7_mostDoubted_51 (by decide) ?_
      have e : (mMo (abM (w.1 69)) (mLn (abM (w.1 69))) (mAb (abM (w.1 69))) (j + 1)) = (mMo (abM (w.1 69)) (mLn (abM (w.1 69))) (mAb (abM (w.1 69))) j) := if_neg (show ¬ ((abM (w.1 69)) 5 j = 1 ∧ ((mMo (abM (w.1 69)) (mLn (abM (w.1 69))) (mAb (abM (w.1 69))) j) < 0 ∨ sDbt (abM (w.1 69)) (mLn (abM (w.1 69))) (mAb (abM (w.1 69))) (nn (mMo (abM (w.1 69)) (mLn (abM (w.1 69))) (mAb (abM (w.1 69))) j)) < sDbt (abM (w.1 69)) (mLn (abM (w.1 69))) (mAb (abM (w.1 69))) j)) from fun q => by first | exact h_21 q.1 | exact q.2.elim h_25 (fun r => (lcmpP.mp h_39) (by rw [hni] at r; exact r)))
      have h2 := ih (j + 1) (by omega)
      rw [e, ← z1 j] at h2
      exact h2
    · refine J_iload_n (pc' := 25) dX7_mostDoubted_24 rfl rfl ?_
      refine J_if_lt 42 (pc' := 28) dX7_mostDoubted_25 (by decide) rfl (fun h_25 => ?_) (fun h_25 => ?_)
      · refine J_iload_n (pc' := 43) dX7_mostDoubted_42 rfl rfl ?_
        refine J_goto (pc' := 0) 47 dX7_mostDoubted_43 (by decide) ?_
        refine J_istore_n (pc' := 48) dX7_mostDoubted_47 (Nat.le_of_ble_eq_true rfl) (jst1 rfl rfl) rfl ?_
        refine J_iinc (pc' := 51) dX7_mostDoubted_48 rfl (Nat.le_of_ble_eq_true rfl) (jst2 rfl rfl) rfl ?_
        refine J_goto (pc' := 0) 4 dX7_mostDoubted_51 (by decide) ?_
        have e : (mMo (abM (w.1 69)) (mLn (abM (w.1 69))) (mAb (abM (w.1 69))) (j + 1)) = nI j := if_pos (show (abM (w.1 69)) 5 j = 1 ∧ ((mMo (abM (w.1 69)) (mLn (abM (w.1 69))) (mAb (abM (w.1 69))) j) < 0 ∨ sDbt (abM (w.1 69)) (mLn (abM (w.1 69))) (mAb (abM (w.1 69))) (nn (mMo (abM (w.1 69)) (mLn (abM (w.1 69))) (mAb (abM (w.1 69))) j)) < sDbt (abM (w.1 69)) (mLn (abM (w.1 69))) (mAb (abM (w.1 69))) j) from ⟨by first | exact h_21 | exact Decidable.not_not.mp h_21, by first | exact Or.inl h_25 | exact Or.inr (by rw [hni]; exact lcmpQ h_39)⟩)
        have h2 := ih (j + 1) (by omega)
        rw [e, ← z1 j] at h2
        exact h2
      · obtain ⟨i, hi, ei, e5⟩ := (mMo_rng (σ := (abM (w.1 69))) (ln := mLn (abM (w.1 69))) (pl := mAb (abM (w.1 69))) j (by omega)).resolve_left (fun q => h_25 (by rw [q]; decide))
        have hni : nn (mMo (abM (w.1 69)) (mLn (abM (w.1 69))) (mAb (abM (w.1 69))) j) = i := by rw [ei, nn_nI (by omega)]
        refine J_aload_n (pc' := 29) dX7_mostDoubted_28 rfl rfl ?_
        refine J_iload_n (pc' := 30) dX7_mostDoubted_29 rfl rfl ?_
        refine J_V1v (pc' := 33) dX7_mostDoubted_30 lk_7_116 cd_X7_doubt (k_mdbt hI hT (show j < sM (abM (w.1 69)) by omega) hS) (ly_68) (l84_68) rfl rfl (jroom_of rfl) (Nat.le_of_ble_eq_true rfl) rfl ?_
        refine J_aload_n (pc' := 34) dX7_mostDoubted_33 rfl rfl ?_
        refine J_iload_n (pc' := 35) dX7_mostDoubted_34 rfl rfl ?_
        refine J_V1v (pc' := 38) dX7_mostDoubted_35 lk_7_116 cd_X7_doubt ((by rw [ei]; exact k_mdbt hI hT (show i < sM (abM (w.1 69)) by omega) hS)) (ly_68) (l84_68) rfl rfl (jroom_of rfl) (Nat.le_of_ble_eq_true rfl) rfl ?_
        refine J_lcmp (pc' := 39) dX7_mostDoubted_38 rfl ?_
        refine J_if_le 46 (pc' := 42) dX7_mostDoubted_39 (by decide) rfl (fun h_39 => ?_) (fun h_39 => ?_)
        · refine J_iload_n (pc' := 47) dX7_mostDoubted_46 rfl rfl ?_
          refine J_istore_n (pc' := 48) dX7_mostDoubted_47 (Nat.le_of_ble_eq_true rfl) (jst1 rfl rfl) rfl ?_
          refine J_iinc (pc' := 51) dX7_mostDoubted_48 rfl (Nat.le_of_ble_eq_true rfl) (jst2 rfl rfl) rfl ?_
          refine J_goto (pc' := 0) 4 dX7_mostDoubted_51 (by decide) ?_
          have e : (mMo (abM (w.1 69)) (mLn (abM (w.1 69))) (mAb (abM (w.1 69))) (j + 1)) = (mMo (abM (w.1 69)) (mLn (abM (w.1 69))) (mAb (abM (w.1 69))) j) := if_neg (show ¬ ((abM (w.1 69)) 5 j = 1 ∧ ((mMo (abM (w.1 69)) (mLn (abM (w.1 69))) (mAb (abM (w.1 69))) j) < 0 ∨ sDbt (abM (w.1 69)) (mLn (abM (w.1 69))) (mAb (abM (w.1 69))) (nn (mMo (abM (w.1 69)) (mLn (abM (w.1 69))) (mAb (abM (w.1 69))) j)) < sDbt (abM (w.1 69)) (mLn (abM (w.1 69))) (mAb (abM (w.1 69))) j)) from fun q => by first | exact h_21 q.1 | exact q.2.elim h_25 (fun r => (lcmpP.mp h_39) (by rw [hni] at r; exact r)))
          have h2 := ih (j + 1) (by omega)
          rw [e, ← z1 j] at h2
          exact h2
        · refine J_iload_n (pc' := 43) dX7_mostDoubted_42 rfl rfl ?_
          refine J_goto (pc' := 0) 47 dX7_mostDoubted_43 (by decide) ?_
          refine J_istore_n (pc' := 48) dX7_mostDoubted_47 (Nat.le_of_ble_eq_true rfl) (jst1 rfl rfl) rfl ?_
          refine J_iinc (pc' := 51) dX7_mostDoubted_48 rfl (Nat.le_of_ble_eq_true rfl) (jst2 rfl rfl) rfl ?_
          refine J_goto (pc' := 0) 4 dX7_mostDoubted_51 (by decide) ?_
          have e : (mMo (abM (w.1 69)) (mLn (abM (w.1 69))) (mAb (abM (w.1 69))) (j + 1)) = nI j := if_pos (show (abM (w.1 69)) 5 j = 1 ∧ ((mMo (abM (w.1 69)) (mLn (abM (w.1 69))) (mAb (abM (w.1 69))) j) < 0 ∨ sDbt (abM (w.1 69)) (mLn (abM (w.1 69))) (mAb (abM (w.1 69))) (nn (mMo (abM (w.1 69)) (mLn (abM (w.1 69))) (mAb (abM (w.1 69))) j)) < sDbt (abM (w.1 69)) (mLn (abM (w.1 69))) (mAb (abM (w.1 69))) j) from ⟨by first | exact h_21 | exact Decidable.not_not.mp h_21, by first | exact Or.inl h_25 | exact Or.inr (by rw [hni]; exact lcmpQ h_39)⟩)
          have h2 := ih (j + 1) (by omega)
          rw [e, ← z1 j] at h2
          exact h2
set_option maxHeartbeats 4000000 in
set_option maxRecDepth 100000 in
theorem k_mmd {G : jG} {w : jWd} (hI : sInv (abM (w.1 69))) (hT : mT (w.1 69)) (hS : mSol w (abM (w.1 69))) : jKd G 7 yX7_mostDoubted cX7_mostDoubted 3 (some .int) [.ref 68] w (some (.int (mMo (abM (w.1 69)) (mLn (abM (w.1 69))) (mAb (abM (w.1 69))) (sM (abM (w.1 69)))))) w := by
  refine jK_of (own := RX7) [some (.ref 68), none, none] pn7 rfl (Nat.le_of_ble_eq_true rfl) rfl ?_
  refine J_iconst (v := -1) (pc' := 1) dX7_mostDoubted_0 (by decide) rfl ?_
  refine J_istore_n (pc' := 2) dX7_mostDoubted_1 (Nat.le_of_ble_eq_true rfl) (jst1 rfl rfl) rfl ?_
  refine J_iconst (v := 0) (pc' := 3) dX7_mostDoubted_2 (by decide) rfl ?_
  refine J_istore_n (pc' := 4) dX7_mostDoubted_3 (Nat.le_of_ble_eq_true rfl) (jst2 rfl rfl) rfl ?_
  exact l_mmd hI hT hS (sM (abM (w.1 69))) 0 (by omega)
set_option maxHeartbeats 4000000 in
set_option maxRecDepth 100000 in
theorem l_mam {G : jG} {w : jWd} (hI : sInv (abM (w.1 69))) (hT : mT (w.1 69)) (hS : mSol w (abM (w.1 69))) : ∀ n j : Nat, j + n = sM (abM (w.1 69)) → J G (jM G 7 RX7 cX7_allMiss 4 (some .long) ((fun r' w' => r' = some (.long (sSm (abM (w.1 69)) (mLn (abM (w.1 69))) (mAb (abM (w.1 69))) (sM (abM (w.1 69))))) ∧ w' = w))) w 4 [some (.ref 68), some (.long (sSm (abM (w.1 69)) (mLn (abM (w.1 69))) (mAb (abM (w.1 69))) j)), none, some (.int (nI j))] [] := by
  have hM : w.1 69 2 = nI (sM (abM (w.1 69))) := (sIM hI).1
  have hM8 := (sIM hI).2
  intro n
  induction n with
  | zero =>
    intro j hj 
    refine J_iload_n (pc' := 5) dX7_allMiss_4 rfl rfl ?_
    refine J_aload_n (pc' := 6) dX7_allMiss_5 rfl rfl ?_
    refine J_getR (pc' := 9) dX7_allMiss_6 fl_7_9 (ly_68) (l84_68) rfl rfl ?_
    refine J_iconst (v := 2) (pc' := 10) dX7_allMiss_9 (by decide) rfl ?_
    refine J_iald 2 (pc' := 11) dX7_allMiss_10 (ly_69) (l84_69) nIc_2 (by decide) (by decide) rfl ?_
    refine J_icmp_ge 55 (pc' := 14) dX7_allMiss_11 (by decide) rfl (fun h_11 => ?_) (fun h_11 => absurd (by rw [hM]; exact nI_le (by omega) (by omega)) h_11)
    refine J_lload_n (pc' := 56) dX7_allMiss_55 rfl rfl ?_
    obtain rfl : j = sM (abM (w.1 69)) := by omega
    exact J_lret dX7_allMiss_56  ⟨rfl, rfl⟩
  | succ n ih =>
    intro j hj 
    have h8 : j < 8 := by omega
    refine J_iload_n (pc' := 5) dX7_allMiss_4 rfl rfl ?_
    refine J_aload_n (pc' := 6) dX7_allMiss_5 rfl rfl ?_
    refine J_getR (pc' := 9) dX7_allMiss_6 fl_7_9 (ly_68) (l84_68) rfl rfl ?_
    refine J_iconst (v := 2) (pc' := 10) dX7_allMiss_9 (by decide) rfl ?_
    refine J_iald 2 (pc' := 11) dX7_allMiss_10 (ly_69) (l84_69) nIc_2 (by decide) (by decide) rfl ?_
    refine J_icmp_ge 55 (pc' := 14) dX7_allMiss_11 (by decide) rfl (fun h_11 => absurd h_11 (by rw [hM]; exact nI_ge (by omega) (by omega))) (fun h_11 => ?_)
    refine J_lload_n (pc' := 15) dX7_allMiss_14 rfl rfl ?_
    refine J_aload_n (pc' := 16) dX7_allMiss_15 rfl rfl ?_
    refine J_iload_n (pc' := 17) dX7_allMiss_16 rfl rfl ?_
    refine J_iconst (v := 5) (pc' := 18) dX7_allMiss_17 (by decide) rfl ?_
    refine J_V2v (pc' := 21) dX7_allMiss_18 lk_7_65 cd_X7_of (k_mof5 h8) (ly_68) (l84_68) rfl rfl (jroom_of rfl) (Nat.le_of_ble_eq_true rfl) rfl ?_
    refine J_iconst (v := 1) (pc' := 22) dX7_allMiss_21 (by decide) rfl ?_
    refine J_icmp_ne 46 (pc' := 25) dX7_allMiss_22 (by decide) rfl (fun h_22 => ?_) (fun h_22 => ?_)
    · refine J_lconst (v := 0) (pc' := 47) dX7_allMiss_46 (by decide) rfl ?_
      refine J_ladd (pc' := 48) dX7_allMiss_47 rfl ?_
      refine J_lstore_n (pc' := 49) dX7_allMiss_48 (Nat.le_of_ble_eq_true rfl) (jstL1 rfl) rfl ?_
      refine J_iinc (pc' := 52) dX7_allMiss_49 rfl (Nat.le_of_ble_eq_true rfl) (jst3 rfl rfl) rfl ?_
      refine J_goto (pc' := 0) 4 dX7_allMiss_52 (by decide) ?_
      have e : (sSm (abM (w.1 69)) (mLn (abM (w.1 69))) (mAb (abM (w.1 69))) (j + 1)) = (sSm (abM (w.1 69)) (mLn (abM (w.1 69))) (mAb (abM (w.1 69))) j) + 0 := by rw [sSm, if_neg h_22]
      have h2 := ih (j + 1) (by omega)
      rw [e, ← z1 j] at h2
      exact h2
    · refine J_aload_n (pc' := 26) dX7_allMiss_25 rfl rfl ?_
      refine J_iload_n (pc' := 27) dX7_allMiss_26 rfl rfl ?_
      refine J_V1v (pc' := 30) dX7_allMiss_27 lk_7_90 cd_X7_weight (k_mwt hI hT (by omega)) (ly_68) (l84_68) rfl rfl (jroom_of rfl) (Nat.le_of_ble_eq_true rfl) rfl ?_
      refine J_i2l (pc' := 31) dX7_allMiss_30 rfl ?_
      refine J_aload_n (pc' := 32) dX7_allMiss_31 rfl rfl ?_
      refine J_iload_n (pc' := 33) dX7_allMiss_32 rfl rfl ?_
      refine J_V1v (pc' := 36) dX7_allMiss_33 lk_7_112 cd_X7_missOf (k_mmiss hI hT (by omega) hS) (ly_68) (l84_68) rfl rfl (jroom_of rfl) (Nat.le_of_ble_eq_true rfl) rfl ?_
      refine J_lmul (pc' := 37) dX7_allMiss_36 rfl ?_
      refine J_aload_n (pc' := 38) dX7_allMiss_37 rfl rfl ?_
      refine J_iload_n (pc' := 39) dX7_allMiss_38 rfl rfl ?_
      refine J_V1v (pc' := 42) dX7_allMiss_39 lk_7_112 cd_X7_missOf (k_mmiss hI hT (by omega) hS) (ly_68) (l84_68) rfl rfl (jroom_of rfl) (Nat.le_of_ble_eq_true rfl) rfl ?_
      refine J_lmul (pc' := 43) dX7_allMiss_42 rfl ?_
      refine J_goto (pc' := 0) 47 dX7_allMiss_43 (by decide) ?_
      refine J_ladd (pc' := 48) dX7_allMiss_47 rfl ?_
      refine J_lstore_n (pc' := 49) dX7_allMiss_48 (Nat.le_of_ble_eq_true rfl) (jstL1 rfl) rfl ?_
      refine J_iinc (pc' := 52) dX7_allMiss_49 rfl (Nat.le_of_ble_eq_true rfl) (jst3 rfl rfl) rfl ?_
      refine J_goto (pc' := 0) 4 dX7_allMiss_52 (by decide) ?_
      have e : (sSm (abM (w.1 69)) (mLn (abM (w.1 69))) (mAb (abM (w.1 69))) (j + 1)) = (sSm (abM (w.1 69)) (mLn (abM (w.1 69))) (mAb (abM (w.1 69))) j) + (sW (abM (w.1 69)) j).toInt64 * (sMisX (abM (w.1 69)) (mLn (abM (w.1 69))) (mAb (abM (w.1 69))) j (sS (abM (w.1 69)) j)) * (sMisX (abM (w.1 69)) (mLn (abM (w.1 69))) (mAb (abM (w.1 69))) j (sS (abM (w.1 69)) j)) := by rw [sSm, if_pos (by first | exact h_22 | exact Decidable.not_not.mp h_22)]
      have h2 := ih (j + 1) (by omega)
      rw [e, ← z1 j] at h2
      exact h2
set_option maxHeartbeats 4000000 in
set_option maxRecDepth 100000 in
theorem k_mam {G : jG} {w : jWd} (hI : sInv (abM (w.1 69))) (hT : mT (w.1 69)) (hS : mSol w (abM (w.1 69))) : jKd G 7 yX7_allMiss cX7_allMiss 4 (some .long) [.ref 68] w (some (.long (sSm (abM (w.1 69)) (mLn (abM (w.1 69))) (mAb (abM (w.1 69))) (sM (abM (w.1 69)))))) w := by
  refine jK_of (own := RX7) [some (.ref 68), none, none, none] pn7 rfl (Nat.le_of_ble_eq_true rfl) rfl ?_
  refine J_lconst (v := 0) (pc' := 1) dX7_allMiss_0 (by decide) rfl ?_
  refine J_lstore_n (pc' := 2) dX7_allMiss_1 (Nat.le_of_ble_eq_true rfl) (jstL1 rfl) rfl ?_
  refine J_iconst (v := 0) (pc' := 3) dX7_allMiss_2 (by decide) rfl ?_
  refine J_istore_n (pc' := 4) dX7_allMiss_3 (Nat.le_of_ble_eq_true rfl) (jst3 rfl rfl) rfl ?_
  exact l_mam hI hT hS (sM (abM (w.1 69))) 0 (by omega)
