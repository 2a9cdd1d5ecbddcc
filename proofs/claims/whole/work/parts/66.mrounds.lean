/-! ===== the reference: rounds ===== -/
/-! ===== the reference: rounds ===== -/
theorem sOn_none {σ : sg} : ∀ n, (∀ k, k < n → ¬ σ 5 k = 1) → sOn σ n = 0
  | 0, _ => rfl
  | n + 1, h => by rw [sOn, sOn_none n (fun k hk => h k (by omega)), if_neg (h n (by omega))]
theorem sPass_none {σ : sg} : ∀ n T, sPass σ 0 n T = T
  | 0, _ => rfl
  | n + 1, T => by rw [sPass_s, if_neg (fun q => by rw [Nat.zero_testBit] at q; exact Bool.noConfusion q.1), sPass_none n T]
theorem sPs_none {σ : sg} : ∀ n, sPasses σ 0 n = 1
  | 0 => rfl
  | n + 1 => by rw [sPasses, sPass_none, sPs_none n]
theorem hol_on {σ : sg} (hI : sInv σ) (h : mHol σ) : ∃ k, k < sM σ ∧ σ 5 k = 1 := by
  refine Decidable.byContradiction (fun hn => ?_)
  have h0 : sSet σ = 0 := sOn_none _ (fun k hk e => hn ⟨k, hk, e⟩)
  have hP := (sIP hI).2.1
  unfold mHol at h
  rw [h0] at h
  unfold sTied at h
  rw [sPs_none] at h
  have h1 : 2 ^ 1 ≤ 2 ^ sP σ := Nat.pow_le_pow_right (by omega) hP
  have h2 : (1 >>> 1 : Nat) = 0 := by decide
  omega
theorem mMo_nn {σ : sg} {ln : Int64} {pl : Nat → Int64} : ∀ n, n ≤ 8 → (∃ k, k < n ∧ σ 5 k = 1) → ¬ mMo σ ln pl n < 0
  | 0, _, ⟨k, hk, _⟩ => absurd hk (Nat.not_lt_zero k)
  | n + 1, h8, ⟨k, hk, e⟩ => by
    rw [mMo]
    by_cases hc : σ 5 n = 1 ∧ (mMo σ ln pl n < 0 ∨ sDbt σ ln pl (nn (mMo σ ln pl n)) < sDbt σ ln pl n)
    · rw [if_pos hc]; exact nI_pos (by omega)
    · rw [if_neg hc]
      by_cases ek : k = n
      · subst ek
        exact fun q => hc ⟨e, Or.inl q⟩
      · exact mMo_nn n (by omega) ⟨k, by omega, e⟩
/-- which mark is most doubted, where the block holds -/
abbrev mMst (σ : sg) : Int32 := mMo σ (mLn σ) (mAb σ) (sM σ)
theorem mMst_ex {σ : sg} (hI : sInv σ) (h : mHol σ) : ∃ k, k < sM σ ∧ mMst σ = nI k ∧ σ 5 k = 1 :=
  (mMo_rng (σ := σ) (ln := mLn σ) (pl := mAb σ) (sM σ) (sIM hI).2).resolve_left (fun q => mMo_nn (sM σ) (sIM hI).2 (hol_on hI h) (by rw [q]; decide))
abbrev mGoC (σ : sg) : Prop := mHol σ ∧ (σ 6 3).toInt64 * mLn σ < sDbt σ (mLn σ) (mAb σ) (nn (mMst σ))
/-- one round, as the reference goes -/
def mGo (σ : sg) : sg := sg1 (if mGoC σ then sg1 (sg1 σ 5 (nn (mMst σ)) 0) 6 4 (sHeld (σ 6 4 + 1) 0 9999) else σ) 6 2 (σ 6 2 + 1)
/-- both go alike -/
def goEq : Prop := ∀ σ, sInv σ → mGo σ = sGo σ
set_option maxHeartbeats 4000000 in
set_option maxRecDepth 100000 in
theorem k_mgo {G : jG} {w : jWd} (hI : sInv (abM (w.1 69))) (hT : mT (w.1 69)) : jKp G 8 yX7_goes cX7_goes 2 none [.ref 68] w none (fun w' => abM (w'.1 69) = mGo (abM (w.1 69)) ∧ frG w w') := by
  refine jK_of (own := RX7) [some (.ref 68), none] pn7 rfl (Nat.le_of_ble_eq_true rfl) rfl ?_
  refine J_aload_n (pc' := 1) dX7_goes_0 rfl rfl ?_
  refine J_V0p (pc' := 4) dX7_goes_1 lk_7_205 cd_X7_isSolved (k_msol hI hT) (ly_68) (l84_68) rfl rfl (jroom_of rfl) (Nat.le_of_ble_eq_true rfl) rfl (fun w1 hw1 => ?_)
  refine J_if_eq 61 (pc' := 7) dX7_goes_4 (by decide) rfl (fun h_4 => ?_) (fun h_4 => ?_)
  · refine J_aload_n (pc' := 62) dX7_goes_61 rfl rfl ?_
    refine J_getR (pc' := 65) dX7_goes_62 fl_7_9 (ly_68) (l84_68) rfl rfl ?_
    refine J_iconst (v := 0) (pc' := 66) dX7_goes_65 (by decide) rfl ?_
    refine J_dup2 (pc' := 67) dX7_goes_66 rfl rfl rfl ?_
    refine J_iald 0 (pc' := 68) dX7_goes_67 (ly_69) (l84_69) nIc_0 (by decide) (by decide) rfl ?_
    refine J_iconst (v := 1) (pc' := 69) dX7_goes_68 (by decide) rfl ?_
    refine J_iadd (pc' := 70) dX7_goes_69 rfl ?_
    refine J_iast 0 (pc' := 71) dX7_goes_70 (ly_69) (l84_69) nIc_0 (by decide) (by decide) rfl ?_
    have h69e : w1.1 69 = w.1 69 := by rw [hw1.1.1]
    have hC : ¬ mGoC (abM (w.1 69)) := fun q => jb_0.mp h_4 q.1
    exact J_vret dX7_goes_71  ⟨rfl, by unfold mGo; rw [if_neg hC, amc0, h69e]; rfl, (show frG w w1 from ⟨fun a q => by rw [hw1.1.1], hw1.1.2, fun i q => by rw [hw1.1.1]⟩).set (i := 0) (by omega)⟩
  · have hH := jb_n (p := mHol (abM (w.1 69))) h_4
    have hS := hw1.2 hH
    have hF := hw1.1
    obtain ⟨k, hk, ek, e5⟩ := mMst_ex hI hH
    have h8 : k < 8 := Nat.lt_of_lt_of_le hk (sIM hI).2
    have hnk : nn (mMst (abM (w.1 69))) = k := by rw [ek, nn_nI (by omega)]
    have h69 : w1.1 69 = w.1 69 := by rw [hF.1]
    refine J_aload_n (pc' := 8) dX7_goes_7 rfl rfl ?_
    refine J_V0v (pc' := 11) dX7_goes_8 lk_7_209 cd_X7_mostDoubted ((by have h := k_mmd (G := G) (w := w1) (by rw [hF.1]; exact hI) (by rw [hF.1]; exact hT) (by rw [hF.1]; exact hS); rw [hF.1] at h; exact h)) (ly_68) (l84_68) rfl rfl (jroom_of rfl) (Nat.le_of_ble_eq_true rfl) rfl ?_
    rw [show mMo (abM (w.1 69)) (mLn (abM (w.1 69))) (mAb (abM (w.1 69))) (sM (abM (w.1 69))) = nI k from ek]
    refine J_istore_n (pc' := 12) dX7_goes_11 (Nat.le_of_ble_eq_true rfl) (jst1 rfl rfl) rfl ?_
    refine J_aload_n (pc' := 13) dX7_goes_12 rfl rfl ?_
    refine J_iload_n (pc' := 14) dX7_goes_13 rfl rfl ?_
    refine J_V1v (pc' := 17) dX7_goes_14 lk_7_116 cd_X7_doubt ((by have h := k_mdbt (G := G) (w := w1) (k := k) (by rw [hF.1]; exact hI) (by rw [hF.1]; exact hT) (by rw [hF.1]; exact hk) (by rw [hF.1]; exact hS); rw [hF.1] at h; exact h)) (ly_68) (l84_68) rfl rfl (jroom_of rfl) (Nat.le_of_ble_eq_true rfl) rfl ?_
    refine J_aload_n (pc' := 18) dX7_goes_17 rfl rfl ?_
    refine J_getR (pc' := 21) dX7_goes_18 fl_7_9 (ly_68) (l84_68) rfl rfl ?_
    refine J_iconst (v := 4) (pc' := 22) dX7_goes_21 (by decide) rfl ?_
    refine J_iald 4 (pc' := 23) dX7_goes_22 (ly_69) (l84_69) nIc_4 (by decide) (by decide) rfl ?_
    rw [show w1.1 69 4 = abM (w.1 69) 6 3 from by rw [h69]; rfl]
    refine J_i2l (pc' := 24) dX7_goes_23 rfl ?_
    refine J_aload_n (pc' := 25) dX7_goes_24 rfl rfl ?_
    refine J_getJ (pc' := 28) dX7_goes_25 fl_7_108 (ly_68) (l84_68) rfl rfl ?_
    rw [hS.1]
    refine J_lmul (pc' := 29) dX7_goes_28 rfl ?_
    refine J_lcmp (pc' := 30) dX7_goes_29 rfl ?_
    refine J_if_le 61 (pc' := 33) dX7_goes_30 (by decide) rfl (fun h_30 => ?_) (fun h_30 => ?_)
    · refine J_aload_n (pc' := 62) dX7_goes_61 rfl rfl ?_
      refine J_getR (pc' := 65) dX7_goes_62 fl_7_9 (ly_68) (l84_68) rfl rfl ?_
      refine J_iconst (v := 0) (pc' := 66) dX7_goes_65 (by decide) rfl ?_
      refine J_dup2 (pc' := 67) dX7_goes_66 rfl rfl rfl ?_
      refine J_iald 0 (pc' := 68) dX7_goes_67 (ly_69) (l84_69) nIc_0 (by decide) (by decide) rfl ?_
      refine J_iconst (v := 1) (pc' := 69) dX7_goes_68 (by decide) rfl ?_
      refine J_iadd (pc' := 70) dX7_goes_69 rfl ?_
      refine J_iast 0 (pc' := 71) dX7_goes_70 (ly_69) (l84_69) nIc_0 (by decide) (by decide) rfl ?_
      have h69e : w1.1 69 = w.1 69 := by rw [hw1.1.1]
      have hC : ¬ mGoC (abM (w.1 69)) := fun q => (lcmpP.mp h_30) (by have q2 := q.2; rw [hnk] at q2; exact q2)
      exact J_vret dX7_goes_71  ⟨rfl, by unfold mGo; rw [if_neg hC, amc0, h69e]; rfl, (show frG w w1 from ⟨fun a q => by rw [hw1.1.1], hw1.1.2, fun i q => by rw [hw1.1.1]⟩).set (i := 0) (by omega)⟩
    · refine J_aload_n (pc' := 34) dX7_goes_33 rfl rfl ?_
      refine J_iload_n (pc' := 35) dX7_goes_34 rfl rfl ?_
      refine J_iconst (v := 5) (pc' := 36) dX7_goes_35 (by decide) rfl ?_
      refine J_iconst (v := 0) (pc' := 37) dX7_goes_36 (by decide) rfl ?_
      refine J_V30 (pc' := 40) dX7_goes_37 lk_7_130 cd_X7_puts (k_mputs h8 (c := 5) (by decide) nIc_5) (ly_68) (l84_68) rfl rfl (jroom_of rfl) (Nat.le_of_ble_eq_true rfl) rfl ?_
      refine J_aload_n (pc' := 41) dX7_goes_40 rfl rfl ?_
      refine J_getR (pc' := 44) dX7_goes_41 fl_7_9 (ly_68) (l84_68) rfl rfl ?_
      refine J_iconst (v := 5) (pc' := 45) dX7_goes_44 (by decide) rfl ?_
      refine J_aload_n (pc' := 46) dX7_goes_45 rfl rfl ?_
      refine J_getR (pc' := 49) dX7_goes_46 fl_7_9 (ly_68) (l84_68) rfl rfl ?_
      refine J_iconst (v := 5) (pc' := 50) dX7_goes_49 (by decide) rfl ?_
      refine J_iald 5 (pc' := 51) dX7_goes_50 (ly_69) (l84_69) nIc_5 (by decide) (by decide) rfl ?_
      rw [show (jset w1 69 (8 + 6 * k + 5) 0).1 69 5 = abM (w.1 69) 6 4 from by rw [jset_1, if_pos rfl, if_neg (by omega), h69]; rfl]
      refine J_iconst (v := 1) (pc' := 52) dX7_goes_51 (by decide) rfl ?_
      refine J_iadd (pc' := 53) dX7_goes_52 rfl ?_
      refine J_iconst (v := 0) (pc' := 54) dX7_goes_53 (by decide) rfl ?_
      refine J_sipush (v := 9999) (pc' := 57) dX7_goes_54 (by decide) rfl ?_
      refine J_S3v (pc' := 60) dX7_goes_57 lk_7_202 cd_X7_held (k_X7_held) (jroom_of rfl) (Nat.le_of_ble_eq_true rfl) rfl ?_
      refine J_iast 5 (pc' := 61) dX7_goes_60 (ly_69) (l84_69) nIc_5 (by decide) (by decide) rfl ?_
      refine J_aload_n (pc' := 62) dX7_goes_61 rfl rfl ?_
      refine J_getR (pc' := 65) dX7_goes_62 fl_7_9 (ly_68) (l84_68) rfl rfl ?_
      refine J_iconst (v := 0) (pc' := 66) dX7_goes_65 (by decide) rfl ?_
      refine J_dup2 (pc' := 67) dX7_goes_66 rfl rfl rfl ?_
      refine J_iald 0 (pc' := 68) dX7_goes_67 (ly_69) (l84_69) nIc_0 (by decide) (by decide) rfl ?_
      refine J_iconst (v := 1) (pc' := 69) dX7_goes_68 (by decide) rfl ?_
      refine J_iadd (pc' := 70) dX7_goes_69 rfl ?_
      refine J_iast 0 (pc' := 71) dX7_goes_70 (ly_69) (l84_69) nIc_0 (by decide) (by decide) rfl ?_
      have h69e : w1.1 69 = w.1 69 := by rw [hw1.1.1]
      have hC : mGoC (abM (w.1 69)) := ⟨hH, by rw [hnk]; exact Decidable.not_not.mp (fun q => h_30 (lcmpP.mpr q))⟩
      have e0b : ∀ v, (jset (jset w1 69 (8 + 6 * k + 5) 0) 69 5 v).1 69 0 = (abM (w.1 69)) 6 2 := fun v => by rw [jset_1, if_pos rfl, if_neg (by decide), jset_1, if_pos rfl, if_neg (by omega), h69e]; rfl
      exact J_vret dX7_goes_71  ⟨rfl, by unfold mGo; rw [if_pos hC, hnk, amc0, amc5, ams5 h8, h69e, e0b], (((show frG w w1 from ⟨fun a q => by rw [hw1.1.1], hw1.1.2, fun i q => by rw [hw1.1.1]⟩).set (i := 8 + 6 * k + 5) (by omega)).set (i := 5) (by omega)).set (i := 0) (by omega)⟩
