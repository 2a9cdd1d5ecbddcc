/-! ===== the reference: places asked ===== -/
/-! ===== the reference: places asked ===== -/
abbrev mHol (σ : sg) : Prop := sTied σ (sSet σ) = 2 ^ sP σ - 1
/-- what is worked out stays within 64 bits -/
def mBnd (σ : sg) : Prop := mHol σ → 0 < (mLn σ).toInt ∧ 0 < (mLn σ * mLn σ).toInt ∧ (∀ p, p < sP σ → -(2 ^ 63) < (mAb σ p).toInt) ∧ (∀ k, k < sM σ → -(2 ^ 63) < (sMisX σ (mLn σ) (mAb σ) k (sS σ k)).toInt) ∧ -(2 ^ 63) < (sSm σ (mLn σ) (mAb σ) (sM σ)).toInt
theorem mq_F {w w2 : jWd} (hV : MInv w) (h : mF w w2) : RQ w w2 (abM (w.1 69), abM (w.1 70), restM w) := mq_any hV (by rw [h.1]) (by rw [h.1]) (fun a q => ⟨by rw [h.1], h.2 a q⟩) (by unfold restM; rw [h.1])
theorem mE3 : (sErr 3).toInt64 = (sErr 3).toInt64 := rfl
theorem sIsP_ex2 {σ : sg} (hI : sInv σ) {x : Int32} (h : sIsP σ x) : ∃ k, k < sP σ ∧ x = nI k := sIs_ex (sIP hI).1 (by have := (sIP hI).2.2; omega) h
def sm_place (s k r : sg) (x : Int32) (p : Int32) : sQL := if sIsP s x ∧ (0 ≤ p ∧ p ≤ 1) then (if mHol s then (mPart (mAb s (nn x)) (mLn s) p, s, k, r) else ((sErr 3).toInt64, s, k, sEr r 3)) else ((sErr 1).toInt64, s, k, sEr r 1)
set_option maxHeartbeats 4000000 in
set_option maxRecDepth 100000 in
theorem b_X7_place {G : jG} {w : jWd} (hV : MInv w) (hI : sInv (abM (w.1 69))) (hBd : mBnd (abM (w.1 69))) {x : Int32} {p : Int32} : jKp G 7 yX7_place cX7_place 3 (some .long) [.ref 68, .int x, .int p] w (some (.long (sm_place (abM (w.1 69)) (abM (w.1 70)) (restM w) x p).1)) (fun w' => RQ w w' (sm_place (abM (w.1 69)) (abM (w.1 70)) (restM w) x p).2) := by
  have hT := hV.1
  refine jK_of (own := RX7) [some (.ref 68), some (.int x), some (.int p)] pn7 rfl (Nat.le_of_ble_eq_true rfl) rfl ?_
  refine J_aload_n (pc' := 1) dX7_place_0 rfl rfl ?_
  refine J_iload_n (pc' := 2) dX7_place_1 rfl rfl ?_
  refine J_V1v (pc' := 5) dX7_place_2 lk_7_122 cd_X7_isPicture (k_X7_isPicture) (ly_68) (l84_68) rfl rfl (jroom_of rfl) (Nat.le_of_ble_eq_true rfl) rfl ?_
  refine J_if_eq 15 (pc' := 8) dX7_place_5 (by decide) rfl (fun h_5 => ?_) (fun h_5 => ?_)
  · refine J_aload_n (pc' := 16) dX7_place_15 rfl rfl ?_
    refine J_ldc (pc' := 18) dX7_place_16 kc_7_125 rfl ?_
    refine J_V1v (pc' := 21) dX7_place_18 lk_7_126 cd_X7_error (k_merr (k := 1) (by decide) (by decide)) (ly_68) (l84_68) rfl rfl (jroom_of rfl) (Nat.le_of_ble_eq_true rfl) rfl ?_
    refine J_i2l (pc' := 22) dX7_place_21 rfl ?_
    exact J_lret dX7_place_22  (by unfold sm_place; rw [if_neg (show ¬ (sIsP (abM (w.1 69)) x ∧ (0 ≤ p ∧ p ≤ 1)) from fun q => by first | exact jb_0.mp h_5 q.1 | exact jb_0.mp h_12 q.2)]; exact ⟨rfl, mq_err hV (by decide)⟩)
  · refine J_iload_n (pc' := 9) dX7_place_8 rfl rfl ?_
    refine J_S1v (pc' := 12) dX7_place_9 lk_7_228 cd_X7_isPart (k_X7_isPart) (jroom_of rfl) (Nat.le_of_ble_eq_true rfl) rfl ?_
    refine J_if_ne 23 (pc' := 15) dX7_place_12 (by decide) rfl (fun h_12 => ?_) (fun h_12 => ?_)
    · obtain ⟨k, hk, rfl⟩ := sIsP_ex2 hI (jb_n h_5)
      refine J_aload_n (pc' := 24) dX7_place_23 rfl rfl ?_
      refine J_V0p (pc' := 27) dX7_place_24 lk_7_205 cd_X7_isSolved (k_msol hI hT) (ly_68) (l84_68) rfl rfl (jroom_of rfl) (Nat.le_of_ble_eq_true rfl) rfl (fun w24 hw24 => ?_)
      refine J_if_eq 47 (pc' := 30) dX7_place_27 (by decide) rfl (fun h_27 => ?_) (fun h_27 => ?_)
      · refine J_aload_n (pc' := 48) dX7_place_47 rfl rfl ?_
        refine J_ldc (pc' := 50) dX7_place_48 kc_7_141 rfl ?_
        refine J_V1v (pc' := 53) dX7_place_50 lk_7_126 cd_X7_error (k_merr (k := 3) (by decide) (by decide)) (ly_68) (l84_68) rfl rfl (jroom_of rfl) (Nat.le_of_ble_eq_true rfl) rfl ?_
        refine J_i2l (pc' := 54) dX7_place_53 rfl ?_
        first | exact J_lret dX7_place_54  (by unfold sm_place; rw [if_pos (show sIsP (abM (w.1 69)) (nI k) ∧ (0 ≤ p ∧ p ≤ 1) from ⟨jb_n h_5, jb_n h_12⟩), if_pos hH, nn_nI (by have := (sIP hI).2.2; omega)]; exact ⟨rfl, mq_F hV hF⟩) | exact J_lret dX7_place_54  (by unfold sm_place; rw [if_pos (show sIsP (abM (w.1 69)) (nI k) ∧ (0 ≤ p ∧ p ≤ 1) from ⟨jb_n h_5, jb_n h_12⟩), if_neg (show ¬ mHol (abM (w.1 69)) from jb_0.mp h_27)]; exact ⟨rfl, mq_err2 (mq_F hV hw24.1) (by decide)⟩)
      · have hH := jb_n (p := mHol (abM (w.1 69))) h_27
        have hS := hw24.2 hH
        have hF := hw24.1
        have hb := hBd hH
        refine J_aload_n (pc' := 31) dX7_place_30 rfl rfl ?_
        refine J_getR (pc' := 34) dX7_place_31 fl_7_38 (ly_68) (l84_68) rfl rfl ?_
        refine J_iload_n (pc' := 35) dX7_place_34 rfl rfl ?_
        refine J_lald k (pc' := 36) dX7_place_35 (ly_78) (l84_78) rfl (by have := (sIP hI).2.2; omega) (by decide) rfl ?_
        rw [hS.2 k hk]
        refine J_aload_n (pc' := 37) dX7_place_36 rfl rfl ?_
        refine J_getJ (pc' := 40) dX7_place_37 fl_7_108 (ly_68) (l84_68) rfl rfl ?_
        rw [hS.1]
        refine J_iload_n (pc' := 41) dX7_place_40 rfl rfl ?_
        refine J_S3v (pc' := 44) dX7_place_41 lk_7_231 cd_X7_inTerms (k_minT (hb.2.2.1 k hk) hb.1) (jroom_of rfl) (Nat.le_of_ble_eq_true rfl) rfl ?_
        refine J_goto (pc' := 0) 54 dX7_place_44 (by decide) ?_
        first | exact J_lret dX7_place_54  (by unfold sm_place; rw [if_pos (show sIsP (abM (w.1 69)) (nI k) ∧ (0 ≤ p ∧ p ≤ 1) from ⟨jb_n h_5, jb_n h_12⟩), if_pos hH, nn_nI (by have := (sIP hI).2.2; omega)]; exact ⟨rfl, mq_F hV hF⟩) | exact J_lret dX7_place_54  (by unfold sm_place; rw [if_pos (show sIsP (abM (w.1 69)) (nI k) ∧ (0 ≤ p ∧ p ≤ 1) from ⟨jb_n h_5, jb_n h_12⟩), if_neg (show ¬ mHol (abM (w.1 69)) from jb_0.mp h_27)]; exact ⟨rfl, mq_err2 (mq_F hV hw24.1) (by decide)⟩)
    · refine J_aload_n (pc' := 16) dX7_place_15 rfl rfl ?_
      refine J_ldc (pc' := 18) dX7_place_16 kc_7_125 rfl ?_
      refine J_V1v (pc' := 21) dX7_place_18 lk_7_126 cd_X7_error (k_merr (k := 1) (by decide) (by decide)) (ly_68) (l84_68) rfl rfl (jroom_of rfl) (Nat.le_of_ble_eq_true rfl) rfl ?_
      refine J_i2l (pc' := 22) dX7_place_21 rfl ?_
      exact J_lret dX7_place_22  (by unfold sm_place; rw [if_neg (show ¬ (sIsP (abM (w.1 69)) x ∧ (0 ≤ p ∧ p ≤ 1)) from fun q => by first | exact jb_0.mp h_5 q.1 | exact jb_0.mp h_12 q.2)]; exact ⟨rfl, mq_err hV (by decide)⟩)
def sm_miss (s k r : sg) (x : Int32) (p : Int32) : sQL := if sIsM s x ∧ (0 ≤ p ∧ p ≤ 1) then (if mHol s then (mPart (sMisX s (mLn s) (mAb s) (nn x) (sS s (nn x))) (mLn s) p, s, k, r) else ((sErr 3).toInt64, s, k, sEr r 3)) else ((sErr 1).toInt64, s, k, sEr r 1)
set_option maxHeartbeats 4000000 in
set_option maxRecDepth 100000 in
theorem b_X7_miss {G : jG} {w : jWd} (hV : MInv w) (hI : sInv (abM (w.1 69))) (hBd : mBnd (abM (w.1 69))) {x : Int32} {p : Int32} : jKp G 7 yX7_miss cX7_miss 3 (some .long) [.ref 68, .int x, .int p] w (some (.long (sm_miss (abM (w.1 69)) (abM (w.1 70)) (restM w) x p).1)) (fun w' => RQ w w' (sm_miss (abM (w.1 69)) (abM (w.1 70)) (restM w) x p).2) := by
  have hT := hV.1
  refine jK_of (own := RX7) [some (.ref 68), some (.int x), some (.int p)] pn7 rfl (Nat.le_of_ble_eq_true rfl) rfl ?_
  refine J_aload_n (pc' := 1) dX7_miss_0 rfl rfl ?_
  refine J_iload_n (pc' := 2) dX7_miss_1 rfl rfl ?_
  refine J_V1v (pc' := 5) dX7_miss_2 lk_7_134 cd_X7_isMark (k_X7_isMark) (ly_68) (l84_68) rfl rfl (jroom_of rfl) (Nat.le_of_ble_eq_true rfl) rfl ?_
  refine J_if_eq 15 (pc' := 8) dX7_miss_5 (by decide) rfl (fun h_5 => ?_) (fun h_5 => ?_)
  · refine J_aload_n (pc' := 16) dX7_miss_15 rfl rfl ?_
    refine J_ldc (pc' := 18) dX7_miss_16 kc_7_125 rfl ?_
    refine J_V1v (pc' := 21) dX7_miss_18 lk_7_126 cd_X7_error (k_merr (k := 1) (by decide) (by decide)) (ly_68) (l84_68) rfl rfl (jroom_of rfl) (Nat.le_of_ble_eq_true rfl) rfl ?_
    refine J_i2l (pc' := 22) dX7_miss_21 rfl ?_
    exact J_lret dX7_miss_22  (by unfold sm_miss; rw [if_neg (show ¬ (sIsM (abM (w.1 69)) x ∧ (0 ≤ p ∧ p ≤ 1)) from fun q => by first | exact jb_0.mp h_5 q.1 | exact jb_0.mp h_12 q.2)]; exact ⟨rfl, mq_err hV (by decide)⟩)
  · refine J_iload_n (pc' := 9) dX7_miss_8 rfl rfl ?_
    refine J_S1v (pc' := 12) dX7_miss_9 lk_7_228 cd_X7_isPart (k_X7_isPart) (jroom_of rfl) (Nat.le_of_ble_eq_true rfl) rfl ?_
    refine J_if_ne 23 (pc' := 15) dX7_miss_12 (by decide) rfl (fun h_12 => ?_) (fun h_12 => ?_)
    · obtain ⟨k, hk, rfl⟩ := sIsM_ex hI (jb_n h_5)
      have h8 : k < 8 := Nat.lt_of_lt_of_le hk (sIM hI).2
      refine J_aload_n (pc' := 24) dX7_miss_23 rfl rfl ?_
      refine J_V0p (pc' := 27) dX7_miss_24 lk_7_205 cd_X7_isSolved (k_msol hI hT) (ly_68) (l84_68) rfl rfl (jroom_of rfl) (Nat.le_of_ble_eq_true rfl) rfl (fun w24 hw24 => ?_)
      refine J_if_eq 46 (pc' := 30) dX7_miss_27 (by decide) rfl (fun h_27 => ?_) (fun h_27 => ?_)
      · refine J_aload_n (pc' := 47) dX7_miss_46 rfl rfl ?_
        refine J_ldc (pc' := 49) dX7_miss_47 kc_7_141 rfl ?_
        refine J_V1v (pc' := 52) dX7_miss_49 lk_7_126 cd_X7_error (k_merr (k := 3) (by decide) (by decide)) (ly_68) (l84_68) rfl rfl (jroom_of rfl) (Nat.le_of_ble_eq_true rfl) rfl ?_
        refine J_i2l (pc' := 53) dX7_miss_52 rfl ?_
        first | exact J_lret dX7_miss_53  (by unfold sm_miss; rw [if_pos (show sIsM (abM (w.1 69)) (nI k) ∧ (0 ≤ p ∧ p ≤ 1) from ⟨jb_n h_5, jb_n h_12⟩), if_pos hH, nn_nI (by omega)]; exact ⟨rfl, mq_F hV hF⟩) | exact J_lret dX7_miss_53  (by unfold sm_miss; rw [if_pos (show sIsM (abM (w.1 69)) (nI k) ∧ (0 ≤ p ∧ p ≤ 1) from ⟨jb_n h_5, jb_n h_12⟩), if_neg (show ¬ mHol (abM (w.1 69)) from jb_0.mp h_27)]; exact ⟨rfl, mq_err2 (mq_F hV hw24.1) (by decide)⟩)
      · have hH := jb_n (p := mHol (abM (w.1 69))) h_27
        have hS := hw24.2 hH
        have hF := hw24.1
        have hb := hBd hH
        refine J_aload_n (pc' := 31) dX7_miss_30 rfl rfl ?_
        refine J_iload_n (pc' := 32) dX7_miss_31 rfl rfl ?_
        refine J_V1v (pc' := 35) dX7_miss_32 lk_7_112 cd_X7_missOf ((by have h := k_mmiss (G := G) (w := w24) (k := k) (by rw [hF.1]; exact hI) (by rw [hF.1]; exact hT) (by rw [hF.1]; exact hk) (by rw [hF.1]; exact hS); rw [hF.1] at h; exact h)) (ly_68) (l84_68) rfl rfl (jroom_of rfl) (Nat.le_of_ble_eq_true rfl) rfl ?_
        refine J_aload_n (pc' := 36) dX7_miss_35 rfl rfl ?_
        refine J_getJ (pc' := 39) dX7_miss_36 fl_7_108 (ly_68) (l84_68) rfl rfl ?_
        rw [hS.1]
        refine J_iload_n (pc' := 40) dX7_miss_39 rfl rfl ?_
        refine J_S3v (pc' := 43) dX7_miss_40 lk_7_231 cd_X7_inTerms (k_minT (hb.2.2.2.1 k hk) hb.1) (jroom_of rfl) (Nat.le_of_ble_eq_true rfl) rfl ?_
        refine J_goto (pc' := 0) 53 dX7_miss_43 (by decide) ?_
        first | exact J_lret dX7_miss_53  (by unfold sm_miss; rw [if_pos (show sIsM (abM (w.1 69)) (nI k) ∧ (0 ≤ p ∧ p ≤ 1) from ⟨jb_n h_5, jb_n h_12⟩), if_pos hH, nn_nI (by omega)]; exact ⟨rfl, mq_F hV hF⟩) | exact J_lret dX7_miss_53  (by unfold sm_miss; rw [if_pos (show sIsM (abM (w.1 69)) (nI k) ∧ (0 ≤ p ∧ p ≤ 1) from ⟨jb_n h_5, jb_n h_12⟩), if_neg (show ¬ mHol (abM (w.1 69)) from jb_0.mp h_27)]; exact ⟨rfl, mq_err2 (mq_F hV hw24.1) (by decide)⟩)
    · refine J_aload_n (pc' := 16) dX7_miss_15 rfl rfl ?_
      refine J_ldc (pc' := 18) dX7_miss_16 kc_7_125 rfl ?_
      refine J_V1v (pc' := 21) dX7_miss_18 lk_7_126 cd_X7_error (k_merr (k := 1) (by decide) (by decide)) (ly_68) (l84_68) rfl rfl (jroom_of rfl) (Nat.le_of_ble_eq_true rfl) rfl ?_
      refine J_i2l (pc' := 22) dX7_miss_21 rfl ?_
      exact J_lret dX7_miss_22  (by unfold sm_miss; rw [if_neg (show ¬ (sIsM (abM (w.1 69)) x ∧ (0 ≤ p ∧ p ≤ 1)) from fun q => by first | exact jb_0.mp h_5 q.1 | exact jb_0.mp h_12 q.2)]; exact ⟨rfl, mq_err hV (by decide)⟩)
def sm_sum (s k r : sg) (p : Int32) : sQL := if 0 ≤ p ∧ p ≤ 1 then (if mHol s then (mPart (sSm s (mLn s) (mAb s) (sM s)) (mLn s * mLn s) p, s, k, r) else ((sErr 3).toInt64, s, k, sEr r 3)) else ((sErr 1).toInt64, s, k, sEr r 1)
set_option maxHeartbeats 4000000 in
set_option maxRecDepth 100000 in
theorem b_X7_sum {G : jG} {w : jWd} (hV : MInv w) (hI : sInv (abM (w.1 69))) (hBd : mBnd (abM (w.1 69))) {p : Int32} : jKp G 8 yX7_sum cX7_sum 2 (some .long) [.ref 68, .int p] w (some (.long (sm_sum (abM (w.1 69)) (abM (w.1 70)) (restM w) p).1)) (fun w' => RQ w w' (sm_sum (abM (w.1 69)) (abM (w.1 70)) (restM w) p).2) := by
  have hT := hV.1
  refine jK_of (own := RX7) [some (.ref 68), some (.int p)] pn7 rfl (Nat.le_of_ble_eq_true rfl) rfl ?_
  refine J_iload_n (pc' := 1) dX7_sum_0 rfl rfl ?_
  refine J_S1v (pc' := 4) dX7_sum_1 lk_7_228 cd_X7_isPart (k_X7_isPart) (jroom_of rfl) (Nat.le_of_ble_eq_true rfl) rfl ?_
  refine J_if_ne 15 (pc' := 7) dX7_sum_4 (by decide) rfl (fun h_4 => ?_) (fun h_4 => ?_)
  · refine J_aload_n (pc' := 16) dX7_sum_15 rfl rfl ?_
    refine J_V0p (pc' := 19) dX7_sum_16 lk_7_205 cd_X7_isSolved (k_msol hI hT) (ly_68) (l84_68) rfl rfl (jroom_of rfl) (Nat.le_of_ble_eq_true rfl) rfl (fun w16 hw16 => ?_)
    refine J_if_eq 42 (pc' := 22) dX7_sum_19 (by decide) rfl (fun h_19 => ?_) (fun h_19 => ?_)
    · refine J_aload_n (pc' := 43) dX7_sum_42 rfl rfl ?_
      refine J_ldc (pc' := 45) dX7_sum_43 kc_7_141 rfl ?_
      refine J_V1v (pc' := 48) dX7_sum_45 lk_7_126 cd_X7_error (k_merr (k := 3) (by decide) (by decide)) (ly_68) (l84_68) rfl rfl (jroom_of rfl) (Nat.le_of_ble_eq_true rfl) rfl ?_
      refine J_i2l (pc' := 49) dX7_sum_48 rfl ?_
      first | exact J_lret dX7_sum_49  (by unfold sm_sum; rw [if_pos (show 0 ≤ p ∧ p ≤ 1 from jb_n h_4), if_pos hH]; exact ⟨rfl, mq_F hV hF⟩) | exact J_lret dX7_sum_49  (by unfold sm_sum; rw [if_pos (show 0 ≤ p ∧ p ≤ 1 from jb_n h_4), if_neg (show ¬ mHol (abM (w.1 69)) from jb_0.mp h_19)]; exact ⟨rfl, mq_err2 (mq_F hV hw16.1) (by decide)⟩)
    · have hH := jb_n (p := mHol (abM (w.1 69))) h_19
      have hS := hw16.2 hH
      have hF := hw16.1
      have hb := hBd hH
      refine J_aload_n (pc' := 23) dX7_sum_22 rfl rfl ?_
      refine J_V0v (pc' := 26) dX7_sum_23 lk_7_235 cd_X7_allMiss ((by have h := k_mam (G := G) (w := w16) (by rw [hF.1]; exact hI) (by rw [hF.1]; exact hT) (by rw [hF.1]; exact hS); rw [hF.1] at h; exact h)) (ly_68) (l84_68) rfl rfl (jroom_of rfl) (Nat.le_of_ble_eq_true rfl) rfl ?_
      refine J_aload_n (pc' := 27) dX7_sum_26 rfl rfl ?_
      refine J_getJ (pc' := 30) dX7_sum_27 fl_7_108 (ly_68) (l84_68) rfl rfl ?_
      rw [hS.1]
      refine J_aload_n (pc' := 31) dX7_sum_30 rfl rfl ?_
      refine J_getJ (pc' := 34) dX7_sum_31 fl_7_108 (ly_68) (l84_68) rfl rfl ?_
      rw [hS.1]
      refine J_lmul (pc' := 35) dX7_sum_34 rfl ?_
      refine J_iload_n (pc' := 36) dX7_sum_35 rfl rfl ?_
      refine J_S3v (pc' := 39) dX7_sum_36 lk_7_231 cd_X7_inTerms (k_minT hb.2.2.2.2 hb.2.1) (jroom_of rfl) (Nat.le_of_ble_eq_true rfl) rfl ?_
      refine J_goto (pc' := 0) 49 dX7_sum_39 (by decide) ?_
      first | exact J_lret dX7_sum_49  (by unfold sm_sum; rw [if_pos (show 0 ≤ p ∧ p ≤ 1 from jb_n h_4), if_pos hH]; exact ⟨rfl, mq_F hV hF⟩) | exact J_lret dX7_sum_49  (by unfold sm_sum; rw [if_pos (show 0 ≤ p ∧ p ≤ 1 from jb_n h_4), if_neg (show ¬ mHol (abM (w.1 69)) from jb_0.mp h_19)]; exact ⟨rfl, mq_err2 (mq_F hV hw16.1) (by decide)⟩)
  · refine J_aload_n (pc' := 8) dX7_sum_7 rfl rfl ?_
    refine J_ldc (pc' := 10) dX7_sum_8 kc_7_125 rfl ?_
    refine J_V1v (pc' := 13) dX7_sum_10 lk_7_126 cd_X7_error (k_merr (k := 1) (by decide) (by decide)) (ly_68) (l84_68) rfl rfl (jroom_of rfl) (Nat.le_of_ble_eq_true rfl) rfl ?_
    refine J_i2l (pc' := 14) dX7_sum_13 rfl ?_
    exact J_lret dX7_sum_14  (by unfold sm_sum; rw [if_neg (show ¬ (0 ≤ p ∧ p ≤ 1) from jb_0.mp (by first | exact h_4 | exact Decidable.not_not.mp h_4))]; exact ⟨rfl, mq_err hV (by decide)⟩)
def sm_doubted (s k r : sg)  : sQI := if mHol s then (mMo s (mLn s) (mAb s) (sM s), s, k, r) else (sErr 3, s, k, sEr r 3)
set_option maxHeartbeats 4000000 in
set_option maxRecDepth 100000 in
theorem b_X7_doubted {G : jG} {w : jWd} (hV : MInv w) (hI : sInv (abM (w.1 69))) : jKp G 8 yX7_doubted cX7_doubted 1 (some .int) [.ref 68] w (some (.int (sm_doubted (abM (w.1 69)) (abM (w.1 70)) (restM w)).1)) (fun w' => RQ w w' (sm_doubted (abM (w.1 69)) (abM (w.1 70)) (restM w)).2) := by
  have hT := hV.1
  refine jK_of (own := RX7) [some (.ref 68)] pn7 rfl (Nat.le_of_ble_eq_true rfl) rfl ?_
  refine J_aload_n (pc' := 1) dX7_doubted_0 rfl rfl ?_
  refine J_V0p (pc' := 4) dX7_doubted_1 lk_7_205 cd_X7_isSolved (k_msol hI hT) (ly_68) (l84_68) rfl rfl (jroom_of rfl) (Nat.le_of_ble_eq_true rfl) rfl (fun w1 hw1 => ?_)
  refine J_if_eq 14 (pc' := 7) dX7_doubted_4 (by decide) rfl (fun h_4 => ?_) (fun h_4 => ?_)
  · refine J_aload_n (pc' := 15) dX7_doubted_14 rfl rfl ?_
    refine J_ldc (pc' := 17) dX7_doubted_15 kc_7_141 rfl ?_
    refine J_V1v (pc' := 20) dX7_doubted_17 lk_7_126 cd_X7_error (k_merr (k := 3) (by decide) (by decide)) (ly_68) (l84_68) rfl rfl (jroom_of rfl) (Nat.le_of_ble_eq_true rfl) rfl ?_
    first | exact J_iret dX7_doubted_20  (by unfold sm_doubted; rw [if_pos hH]; exact ⟨rfl, mq_F hV hF⟩) | exact J_iret dX7_doubted_20  (by unfold sm_doubted; rw [if_neg (show ¬ mHol (abM (w.1 69)) from jb_0.mp h_4)]; exact ⟨rfl, mq_err2 (mq_F hV hw1.1) (by decide)⟩)
  · have hH := jb_n (p := mHol (abM (w.1 69))) h_4
    have hS := hw1.2 hH
    have hF := hw1.1
    refine J_aload_n (pc' := 8) dX7_doubted_7 rfl rfl ?_
    refine J_V0v (pc' := 11) dX7_doubted_8 lk_7_209 cd_X7_mostDoubted ((by have h := k_mmd (G := G) (w := w1) (by rw [hF.1]; exact hI) (by rw [hF.1]; exact hT) (by rw [hF.1]; exact hS); rw [hF.1] at h; exact h)) (ly_68) (l84_68) rfl rfl (jroom_of rfl) (Nat.le_of_ble_eq_true rfl) rfl ?_
    refine J_goto (pc' := 0) 20 dX7_doubted_11 (by decide) ?_
    first | exact J_iret dX7_doubted_20  (by unfold sm_doubted; rw [if_pos hH]; exact ⟨rfl, mq_F hV hF⟩) | exact J_iret dX7_doubted_20  (by unfold sm_doubted; rw [if_neg (show ¬ mHol (abM (w.1 69)) from jb_0.mp h_4)]; exact ⟨rfl, mq_err2 (mq_F hV hw1.1) (by decide)⟩)
