/-! ===== places are asked ===== -/
/-! ===== places, misses, sums, doubt ===== -/
theorem bq_err2 {w v : jWd} {q : sg × sg × sg} (h : BQ w v q) {k : Nat} (hk : k < 7) : BQ w (jset v 67 k (v.1 67 k + 1)) (q.1, q.2.1, sEr q.2.2 k) := by
  obtain ⟨h1, h2, h3, h4, h5⟩ := h
  obtain ⟨g1, g2, g3, g4, g5⟩ := bq_err h4 hk
  exact ⟨g1.trans h1, g2.trans h2, by rw [g3, h3], g4, fun a ha => ⟨(g5 a ha).1.trans (h5 a ha).1, (g5 a ha).2.trans (h5 a ha).2⟩⟩
def sq_place (s k r : sg) (x : Int32) (p : Int32) : sQL := if sIsP s x ∧ (0 ≤ p ∧ p ≤ 1) then (if sTied s (sSet s) = 2 ^ sP s - 1 then (sPart (fAb s (nn x)) (fLn s) p, s, k, r) else ((sErr 3).toInt64, s, k, sEr r 3)) else ((sErr 1).toInt64, s, k, sEr r 1)
set_option maxHeartbeats 4000000 in
set_option maxRecDepth 100000 in
theorem a_X6_place {G : jG} {w : jWd} (hX : XInv w) (hI : sInv (abX w 1)) {x : Int32} {p : Int32} : jKp G 7 yX6_place cX6_place 3 (some .long) [.ref 0, .int x, .int p] w (some (.long (sq_place (abX w 1) (abX w 16) (restX w) x p).1)) (fun w' => BQ w w' (sq_place (abX w 1) (abX w 16) (restX w) x p).2) := by
  refine jK_of (own := RX6) [some (.ref 0), some (.int x), some (.int p)] pn6 rfl (Nat.le_of_ble_eq_true rfl) rfl ?_
  refine J_aload_n (pc' := 1) dX6_place_0 rfl rfl ?_
  refine J_iload_n (pc' := 2) dX6_place_1 rfl rfl ?_
  refine J_V1v (pc' := 5) dX6_place_2 lk_6_63 cd_X6_isPicture (k_X6_isPicture) (ly_0) (l84_0) rfl rfl (jroom_of rfl) (Nat.le_of_ble_eq_true rfl) rfl ?_
  refine J_if_eq 15 (pc' := 8) dX6_place_5 (by decide) rfl (fun h_5 => ?_) (fun h_5 => ?_)
  · refine J_aload_n (pc' := 16) dX6_place_15 rfl rfl ?_
    refine J_iconst (v := 1) (pc' := 17) dX6_place_16 (by decide) rfl ?_
    refine J_V1v (pc' := 20) dX6_place_17 lk_6_69 cd_X6_error (k_err1) (ly_0) (l84_0) rfl rfl (jroom_of rfl) (Nat.le_of_ble_eq_true rfl) rfl ?_
    refine J_i2l (pc' := 21) dX6_place_20 rfl ?_
    exact J_lret dX6_place_21  (by unfold sq_place; rw [if_neg (fun q => by first | exact jb_0.mp h_5 q.1 | exact jb_0.mp h_12 q.2)]; exact ⟨rfl, bq_err hX (by decide)⟩)
  · refine J_iload_n (pc' := 9) dX6_place_8 rfl rfl ?_
    refine J_S1v (pc' := 12) dX6_place_9 lk_6_192 cd_X6_isPart (k_X6_isPart) (jroom_of rfl) (Nat.le_of_ble_eq_true rfl) rfl ?_
    refine J_if_ne 22 (pc' := 15) dX6_place_12 (by decide) rfl (fun h_12 => ?_) (fun h_12 => ?_)
    · obtain ⟨k, hk, rfl⟩ := sIsP_ex hI (jb_n h_5)
      have h4 : k < 4 := Nat.lt_of_lt_of_le hk (sIP hI).2.2
      refine J_aload_n (pc' := 23) dX6_place_22 rfl rfl ?_
      refine J_getR (pc' := 26) dX6_place_23 fl_6_38 (ly_0) (l84_0) rfl rfl ?_
      refine J_aload_n (pc' := 27) dX6_place_26 rfl rfl ?_
      refine J_getR (pc' := 30) dX6_place_27 fl_6_12 (ly_0) (l84_0) rfl rfl ?_
      refine J_V1v (pc' := 33) dX6_place_30 lk_6_195 cd_X1_find (k_X1_find jb1 hI hX.1) (ly_48) (l84_48) rfl rfl (jroom_of rfl) (Nat.le_of_ble_eq_true rfl) rfl ?_
      have hb := jb1
      have hB := hX.1
      have fA : abX (sFw (abX w 1) w) 1 = abX w 1 := sFw_ab hb
      have fB : xB (sFw (abX w 1) w) 1 := sFw_xb hb hB
      have fF : frF 1 w (sFw (abX w 1) w) := sFw_fr hI w 1
      have fK : sTied (abX w 1) (sSet (abX w 1)) = 2 ^ sP (abX w 1) - 1 → sKp (abX w 1) (sFw (abX w 1) w) (sM (abX w 1)) := fun h => sFw_kp h
      have fL : sTied (abX w 1) (sSet (abX w 1)) = 2 ^ sP (abX w 1) - 1 → (sFw (abX w 1) w).2 48 4 = fLn (abX w 1) ∧ ∀ j, j < sP (abX w 1) → (sFw (abX w 1) w).2 54 j = fAb (abX w 1) j := fun h => sFw_ln hI h
      generalize (sFw (abX w 1) w) = v at fA fB fF fK fL ⊢
      have hIv : sInv (abX v 1) := by rw [fA]; exact hI
      have hBv := fB
      have fQ : BQ w v (abX w 1, abX w 16, restX w) := bq_fr hX fF fA fB
      refine J_if_ne 43 (pc' := 36) dX6_place_33 (by decide) rfl (fun h_33 => ?_) (fun h_33 => ?_)
      · have hH : sTied (abX w 1) (sSet (abX w 1)) = 2 ^ sP (abX w 1) - 1 := jb_n (by first | exact h_33 | exact Decidable.not_not.mp h_33)
        have hKv : sKp (abX v 1) v (sM (abX v 1)) := by rw [fA]; exact fK hH
        obtain ⟨fL1, fL2⟩ := fL hH
        refine J_aload_n (pc' := 44) dX6_place_43 rfl rfl ?_
        refine J_getR (pc' := 47) dX6_place_44 fl_6_38 (ly_0) (l84_0) rfl rfl ?_
        refine J_getR (pc' := 50) dX6_place_47 fl_6_199 (ly_48) (l84_48) rfl rfl ?_
        refine J_iload_n (pc' := 51) dX6_place_50 rfl rfl ?_
        refine J_lald k (pc' := 52) dX6_place_51 (ly_54) (l84_54) rfl (by omega) (by decide) rfl ?_
        rw [fL2 k hk]
        refine J_aload_n (pc' := 53) dX6_place_52 rfl rfl ?_
        refine J_getR (pc' := 56) dX6_place_53 fl_6_38 (ly_0) (l84_0) rfl rfl ?_
        refine J_getJ (pc' := 59) dX6_place_56 fl_6_203 (ly_48) (l84_48) rfl rfl ?_
        rw [fL1]
        refine J_iload_n (pc' := 60) dX6_place_59 rfl rfl ?_
        refine J_S3v (pc' := 63) dX6_place_60 lk_6_207 cd_X6_partOf (k_X6_partOf) (jroom_of rfl) (Nat.le_of_ble_eq_true rfl) rfl ?_
        exact J_lret dX6_place_63  (by unfold sq_place; rw [if_pos ⟨jb_n h_5, jb_n h_12⟩, if_pos hH, nn_nI (by omega)]; exact ⟨rfl, fQ⟩)
      · refine J_aload_n (pc' := 37) dX6_place_36 rfl rfl ?_
        refine J_iconst (v := 3) (pc' := 38) dX6_place_37 (by decide) rfl ?_
        refine J_V1v (pc' := 41) dX6_place_38 lk_6_69 cd_X6_error (k_err3) (ly_0) (l84_0) rfl rfl (jroom_of rfl) (Nat.le_of_ble_eq_true rfl) rfl ?_
        refine J_i2l (pc' := 42) dX6_place_41 rfl ?_
        exact J_lret dX6_place_42  (by unfold sq_place; rw [if_pos ⟨jb_n h_5, jb_n h_12⟩, if_neg (jb_0.mp (by first | exact h_33 | exact Decidable.not_not.mp h_33))]; exact ⟨rfl, bq_err2 fQ (by decide)⟩)
    · refine J_aload_n (pc' := 16) dX6_place_15 rfl rfl ?_
      refine J_iconst (v := 1) (pc' := 17) dX6_place_16 (by decide) rfl ?_
      refine J_V1v (pc' := 20) dX6_place_17 lk_6_69 cd_X6_error (k_err1) (ly_0) (l84_0) rfl rfl (jroom_of rfl) (Nat.le_of_ble_eq_true rfl) rfl ?_
      refine J_i2l (pc' := 21) dX6_place_20 rfl ?_
      exact J_lret dX6_place_21  (by unfold sq_place; rw [if_neg (fun q => by first | exact jb_0.mp h_5 q.1 | exact jb_0.mp h_12 q.2)]; exact ⟨rfl, bq_err hX (by decide)⟩)
def sq_miss (s k r : sg) (x : Int32) (p : Int32) : sQL := if sIsM s x ∧ (0 ≤ p ∧ p ≤ 1) then (if sTied s (sSet s) = 2 ^ sP s - 1 then (sPart (sMisX s (fLn s) (fAb s) (nn x) (sS s (nn x))) (fLn s) p, s, k, r) else ((sErr 3).toInt64, s, k, sEr r 3)) else ((sErr 1).toInt64, s, k, sEr r 1)
set_option maxHeartbeats 4000000 in
set_option maxRecDepth 100000 in
theorem a_X6_miss {G : jG} {w : jWd} (hX : XInv w) (hI : sInv (abX w 1)) {x : Int32} {p : Int32} : jKp G 7 yX6_miss cX6_miss 3 (some .long) [.ref 0, .int x, .int p] w (some (.long (sq_miss (abX w 1) (abX w 16) (restX w) x p).1)) (fun w' => BQ w w' (sq_miss (abX w 1) (abX w 16) (restX w) x p).2) := by
  refine jK_of (own := RX6) [some (.ref 0), some (.int x), some (.int p)] pn6 rfl (Nat.le_of_ble_eq_true rfl) rfl ?_
  refine J_aload_n (pc' := 1) dX6_miss_0 rfl rfl ?_
  refine J_iload_n (pc' := 2) dX6_miss_1 rfl rfl ?_
  refine J_V1v (pc' := 5) dX6_miss_2 lk_6_81 cd_X6_isMark (k_X6_isMark) (ly_0) (l84_0) rfl rfl (jroom_of rfl) (Nat.le_of_ble_eq_true rfl) rfl ?_
  refine J_if_eq 15 (pc' := 8) dX6_miss_5 (by decide) rfl (fun h_5 => ?_) (fun h_5 => ?_)
  · refine J_aload_n (pc' := 16) dX6_miss_15 rfl rfl ?_
    refine J_iconst (v := 1) (pc' := 17) dX6_miss_16 (by decide) rfl ?_
    refine J_V1v (pc' := 20) dX6_miss_17 lk_6_69 cd_X6_error (k_err1) (ly_0) (l84_0) rfl rfl (jroom_of rfl) (Nat.le_of_ble_eq_true rfl) rfl ?_
    refine J_i2l (pc' := 21) dX6_miss_20 rfl ?_
    exact J_lret dX6_miss_21  (by unfold sq_miss; rw [if_neg (fun q => by first | exact jb_0.mp h_5 q.1 | exact jb_0.mp h_12 q.2)]; exact ⟨rfl, bq_err hX (by decide)⟩)
  · refine J_iload_n (pc' := 9) dX6_miss_8 rfl rfl ?_
    refine J_S1v (pc' := 12) dX6_miss_9 lk_6_192 cd_X6_isPart (k_X6_isPart) (jroom_of rfl) (Nat.le_of_ble_eq_true rfl) rfl ?_
    refine J_if_ne 22 (pc' := 15) dX6_miss_12 (by decide) rfl (fun h_12 => ?_) (fun h_12 => ?_)
    · obtain ⟨k, hk, rfl⟩ := sIsM_ex hI (jb_n h_5)
      have h8 : k < 8 := Nat.lt_of_lt_of_le hk (sIM hI).2
      refine J_aload_n (pc' := 23) dX6_miss_22 rfl rfl ?_
      refine J_getR (pc' := 26) dX6_miss_23 fl_6_38 (ly_0) (l84_0) rfl rfl ?_
      refine J_aload_n (pc' := 27) dX6_miss_26 rfl rfl ?_
      refine J_getR (pc' := 30) dX6_miss_27 fl_6_12 (ly_0) (l84_0) rfl rfl ?_
      refine J_V1v (pc' := 33) dX6_miss_30 lk_6_195 cd_X1_find (k_X1_find jb1 hI hX.1) (ly_48) (l84_48) rfl rfl (jroom_of rfl) (Nat.le_of_ble_eq_true rfl) rfl ?_
      have hb := jb1
      have hB := hX.1
      have fA : abX (sFw (abX w 1) w) 1 = abX w 1 := sFw_ab hb
      have fB : xB (sFw (abX w 1) w) 1 := sFw_xb hb hB
      have fF : frF 1 w (sFw (abX w 1) w) := sFw_fr hI w 1
      have fK : sTied (abX w 1) (sSet (abX w 1)) = 2 ^ sP (abX w 1) - 1 → sKp (abX w 1) (sFw (abX w 1) w) (sM (abX w 1)) := fun h => sFw_kp h
      have fL : sTied (abX w 1) (sSet (abX w 1)) = 2 ^ sP (abX w 1) - 1 → (sFw (abX w 1) w).2 48 4 = fLn (abX w 1) ∧ ∀ j, j < sP (abX w 1) → (sFw (abX w 1) w).2 54 j = fAb (abX w 1) j := fun h => sFw_ln hI h
      generalize (sFw (abX w 1) w) = v at fA fB fF fK fL ⊢
      have hIv : sInv (abX v 1) := by rw [fA]; exact hI
      have hBv := fB
      have fQ : BQ w v (abX w 1, abX w 16, restX w) := bq_fr hX fF fA fB
      refine J_if_ne 43 (pc' := 36) dX6_miss_33 (by decide) rfl (fun h_33 => ?_) (fun h_33 => ?_)
      · have hH : sTied (abX w 1) (sSet (abX w 1)) = 2 ^ sP (abX w 1) - 1 := jb_n (by first | exact h_33 | exact Decidable.not_not.mp h_33)
        have hKv : sKp (abX v 1) v (sM (abX v 1)) := by rw [fA]; exact fK hH
        obtain ⟨fL1, fL2⟩ := fL hH
        refine J_aload_n (pc' := 44) dX6_miss_43 rfl rfl ?_
        refine J_getR (pc' := 47) dX6_miss_44 fl_6_38 (ly_0) (l84_0) rfl rfl ?_
        refine J_aload_n (pc' := 48) dX6_miss_47 rfl rfl ?_
        refine J_getR (pc' := 51) dX6_miss_48 fl_6_12 (ly_0) (l84_0) rfl rfl ?_
        refine J_iload_n (pc' := 52) dX6_miss_51 rfl rfl ?_
        refine J_aload_n (pc' := 53) dX6_miss_52 rfl rfl ?_
        refine J_getR (pc' := 56) dX6_miss_53 fl_6_12 (ly_0) (l84_0) rfl rfl ?_
        refine J_iload_n (pc' := 57) dX6_miss_56 rfl rfl ?_
        refine J_V1v (pc' := 60) dX6_miss_57 lk_6_105 cd_X0_saidBy (k_X0_saidBy jb1 hIv hBv (k := k) (by rw [fA]; exact hk)) (ly_1) (l84_1) rfl rfl (jroom_of rfl) (Nat.le_of_ble_eq_true rfl) rfl ?_
        refine J_V3v (pc' := 63) dX6_miss_60 lk_6_211 cd_X1_missAbove (k_X1_missAbove jb1 hIv (k := k) (by rw [fA]; exact hk)) (ly_48) (l84_48) rfl rfl (jroom_of rfl) (Nat.le_of_ble_eq_true rfl) rfl ?_
        rw [fA, fL1, misX_ag hI fL2 hk]
        refine J_aload_n (pc' := 64) dX6_miss_63 rfl rfl ?_
        refine J_getR (pc' := 67) dX6_miss_64 fl_6_38 (ly_0) (l84_0) rfl rfl ?_
        refine J_getJ (pc' := 70) dX6_miss_67 fl_6_203 (ly_48) (l84_48) rfl rfl ?_
        rw [fL1]
        refine J_iload_n (pc' := 71) dX6_miss_70 rfl rfl ?_
        refine J_S3v (pc' := 74) dX6_miss_71 lk_6_207 cd_X6_partOf (k_X6_partOf) (jroom_of rfl) (Nat.le_of_ble_eq_true rfl) rfl ?_
        exact J_lret dX6_miss_74  (by unfold sq_miss; rw [if_pos ⟨jb_n h_5, jb_n h_12⟩, if_pos hH, nn_nI (by omega)]; exact ⟨rfl, fQ⟩)
      · refine J_aload_n (pc' := 37) dX6_miss_36 rfl rfl ?_
        refine J_iconst (v := 3) (pc' := 38) dX6_miss_37 (by decide) rfl ?_
        refine J_V1v (pc' := 41) dX6_miss_38 lk_6_69 cd_X6_error (k_err3) (ly_0) (l84_0) rfl rfl (jroom_of rfl) (Nat.le_of_ble_eq_true rfl) rfl ?_
        refine J_i2l (pc' := 42) dX6_miss_41 rfl ?_
        exact J_lret dX6_miss_42  (by unfold sq_miss; rw [if_pos ⟨jb_n h_5, jb_n h_12⟩, if_neg (jb_0.mp (by first | exact h_33 | exact Decidable.not_not.mp h_33))]; exact ⟨rfl, bq_err2 fQ (by decide)⟩)
    · refine J_aload_n (pc' := 16) dX6_miss_15 rfl rfl ?_
      refine J_iconst (v := 1) (pc' := 17) dX6_miss_16 (by decide) rfl ?_
      refine J_V1v (pc' := 20) dX6_miss_17 lk_6_69 cd_X6_error (k_err1) (ly_0) (l84_0) rfl rfl (jroom_of rfl) (Nat.le_of_ble_eq_true rfl) rfl ?_
      refine J_i2l (pc' := 21) dX6_miss_20 rfl ?_
      exact J_lret dX6_miss_21  (by unfold sq_miss; rw [if_neg (fun q => by first | exact jb_0.mp h_5 q.1 | exact jb_0.mp h_12 q.2)]; exact ⟨rfl, bq_err hX (by decide)⟩)
def sq_sum (s k r : sg) (p : Int32) : sQL := if 0 ≤ p ∧ p ≤ 1 then (if sTied s (sSet s) = 2 ^ sP s - 1 then (sPart (sSm s (fLn s) (fAb s) (sM s)) (fLn s * fLn s) p, s, k, r) else ((sErr 3).toInt64, s, k, sEr r 3)) else ((sErr 1).toInt64, s, k, sEr r 1)
set_option maxHeartbeats 4000000 in
set_option maxRecDepth 100000 in
theorem a_X6_sum {G : jG} {w : jWd} (hX : XInv w) (hI : sInv (abX w 1)) {p : Int32} : jKp G 7 yX6_sum cX6_sum 2 (some .long) [.ref 0, .int p] w (some (.long (sq_sum (abX w 1) (abX w 16) (restX w) p).1)) (fun w' => BQ w w' (sq_sum (abX w 1) (abX w 16) (restX w) p).2) := by
  refine jK_of (own := RX6) [some (.ref 0), some (.int p)] pn6 rfl (Nat.le_of_ble_eq_true rfl) rfl ?_
  refine J_iload_n (pc' := 1) dX6_sum_0 rfl rfl ?_
  refine J_S1v (pc' := 4) dX6_sum_1 lk_6_192 cd_X6_isPart (k_X6_isPart) (jroom_of rfl) (Nat.le_of_ble_eq_true rfl) rfl ?_
  refine J_if_ne 14 (pc' := 7) dX6_sum_4 (by decide) rfl (fun h_4 => ?_) (fun h_4 => ?_)
  · refine J_aload_n (pc' := 15) dX6_sum_14 rfl rfl ?_
    refine J_getR (pc' := 18) dX6_sum_15 fl_6_38 (ly_0) (l84_0) rfl rfl ?_
    refine J_aload_n (pc' := 19) dX6_sum_18 rfl rfl ?_
    refine J_getR (pc' := 22) dX6_sum_19 fl_6_12 (ly_0) (l84_0) rfl rfl ?_
    refine J_V1v (pc' := 25) dX6_sum_22 lk_6_195 cd_X1_find (k_X1_find jb1 hI hX.1) (ly_48) (l84_48) rfl rfl (jroom_of rfl) (Nat.le_of_ble_eq_true rfl) rfl ?_
    have hb := jb1
    have hB := hX.1
    have fA : abX (sFw (abX w 1) w) 1 = abX w 1 := sFw_ab hb
    have fB : xB (sFw (abX w 1) w) 1 := sFw_xb hb hB
    have fF : frF 1 w (sFw (abX w 1) w) := sFw_fr hI w 1
    have fK : sTied (abX w 1) (sSet (abX w 1)) = 2 ^ sP (abX w 1) - 1 → sKp (abX w 1) (sFw (abX w 1) w) (sM (abX w 1)) := fun h => sFw_kp h
    have fL : sTied (abX w 1) (sSet (abX w 1)) = 2 ^ sP (abX w 1) - 1 → (sFw (abX w 1) w).2 48 4 = fLn (abX w 1) ∧ ∀ j, j < sP (abX w 1) → (sFw (abX w 1) w).2 54 j = fAb (abX w 1) j := fun h => sFw_ln hI h
    generalize (sFw (abX w 1) w) = v at fA fB fF fK fL ⊢
    have hIv : sInv (abX v 1) := by rw [fA]; exact hI
    have hBv := fB
    have fQ : BQ w v (abX w 1, abX w 16, restX w) := bq_fr hX fF fA fB
    refine J_if_ne 35 (pc' := 28) dX6_sum_25 (by decide) rfl (fun h_25 => ?_) (fun h_25 => ?_)
    · have hH : sTied (abX w 1) (sSet (abX w 1)) = 2 ^ sP (abX w 1) - 1 := jb_n (by first | exact h_25 | exact Decidable.not_not.mp h_25)
      have hKv : sKp (abX v 1) v (sM (abX v 1)) := by rw [fA]; exact fK hH
      obtain ⟨fL1, fL2⟩ := fL hH
      refine J_aload_n (pc' := 36) dX6_sum_35 rfl rfl ?_
      refine J_getR (pc' := 39) dX6_sum_36 fl_6_38 (ly_0) (l84_0) rfl rfl ?_
      refine J_aload_n (pc' := 40) dX6_sum_39 rfl rfl ?_
      refine J_getR (pc' := 43) dX6_sum_40 fl_6_12 (ly_0) (l84_0) rfl rfl ?_
      refine J_V1v (pc' := 46) dX6_sum_43 lk_6_215 cd_X1_sumAbove (k_X1_sumAbove jb1 hIv hKv) (ly_48) (l84_48) rfl rfl (jroom_of rfl) (Nat.le_of_ble_eq_true rfl) rfl ?_
      rw [fA, fL1, sm_ag hI fL2 _ (Nat.le_refl _)]
      refine J_aload_n (pc' := 47) dX6_sum_46 rfl rfl ?_
      refine J_getR (pc' := 50) dX6_sum_47 fl_6_38 (ly_0) (l84_0) rfl rfl ?_
      refine J_getJ (pc' := 53) dX6_sum_50 fl_6_203 (ly_48) (l84_48) rfl rfl ?_
      rw [fL1]
      refine J_aload_n (pc' := 54) dX6_sum_53 rfl rfl ?_
      refine J_getR (pc' := 57) dX6_sum_54 fl_6_38 (ly_0) (l84_0) rfl rfl ?_
      refine J_getJ (pc' := 60) dX6_sum_57 fl_6_203 (ly_48) (l84_48) rfl rfl ?_
      rw [fL1]
      refine J_lmul (pc' := 61) dX6_sum_60 rfl ?_
      refine J_iload_n (pc' := 62) dX6_sum_61 rfl rfl ?_
      refine J_S3v (pc' := 65) dX6_sum_62 lk_6_207 cd_X6_partOf (k_X6_partOf) (jroom_of rfl) (Nat.le_of_ble_eq_true rfl) rfl ?_
      exact J_lret dX6_sum_65  (by unfold sq_sum; rw [if_pos (jb_n h_4), if_pos hH]; exact ⟨rfl, fQ⟩)
    · refine J_aload_n (pc' := 29) dX6_sum_28 rfl rfl ?_
      refine J_iconst (v := 3) (pc' := 30) dX6_sum_29 (by decide) rfl ?_
      refine J_V1v (pc' := 33) dX6_sum_30 lk_6_69 cd_X6_error (k_err3) (ly_0) (l84_0) rfl rfl (jroom_of rfl) (Nat.le_of_ble_eq_true rfl) rfl ?_
      refine J_i2l (pc' := 34) dX6_sum_33 rfl ?_
      exact J_lret dX6_sum_34  (by unfold sq_sum; rw [if_pos (jb_n h_4), if_neg (jb_0.mp (by first | exact h_25 | exact Decidable.not_not.mp h_25))]; exact ⟨rfl, bq_err2 fQ (by decide)⟩)
  · refine J_aload_n (pc' := 8) dX6_sum_7 rfl rfl ?_
    refine J_iconst (v := 1) (pc' := 9) dX6_sum_8 (by decide) rfl ?_
    refine J_V1v (pc' := 12) dX6_sum_9 lk_6_69 cd_X6_error (k_err1) (ly_0) (l84_0) rfl rfl (jroom_of rfl) (Nat.le_of_ble_eq_true rfl) rfl ?_
    refine J_i2l (pc' := 13) dX6_sum_12 rfl ?_
    exact J_lret dX6_sum_13  (by unfold sq_sum; rw [if_neg (fun q => by first | exact jb_0.mp h_4 q)]; exact ⟨rfl, bq_err hX (by decide)⟩)
def sq_doubted (s k r : sg)  : sQI := if sTied s (sSet s) = 2 ^ sP s - 1 then (sMst s, s, k, r) else (sErr 3, s, k, sEr r 3)
set_option maxHeartbeats 4000000 in
set_option maxRecDepth 100000 in
theorem a_X6_doubted {G : jG} {w : jWd} (hX : XInv w) (hI : sInv (abX w 1)) : jKp G 7 yX6_doubted cX6_doubted 1 (some .int) [.ref 0] w (some (.int (sq_doubted (abX w 1) (abX w 16) (restX w)).1)) (fun w' => BQ w w' (sq_doubted (abX w 1) (abX w 16) (restX w)).2) := by
  refine jK_of (own := RX6) [some (.ref 0)] pn6 rfl (Nat.le_of_ble_eq_true rfl) rfl ?_
  refine J_aload_n (pc' := 1) dX6_doubted_0 rfl rfl ?_
  refine J_getR (pc' := 4) dX6_doubted_1 fl_6_38 (ly_0) (l84_0) rfl rfl ?_
  refine J_aload_n (pc' := 5) dX6_doubted_4 rfl rfl ?_
  refine J_getR (pc' := 8) dX6_doubted_5 fl_6_12 (ly_0) (l84_0) rfl rfl ?_
  refine J_V1v (pc' := 11) dX6_doubted_8 lk_6_195 cd_X1_find (k_X1_find jb1 hI hX.1) (ly_48) (l84_48) rfl rfl (jroom_of rfl) (Nat.le_of_ble_eq_true rfl) rfl ?_
  have hb := jb1
  have hB := hX.1
  have fA : abX (sFw (abX w 1) w) 1 = abX w 1 := sFw_ab hb
  have fB : xB (sFw (abX w 1) w) 1 := sFw_xb hb hB
  have fF : frF 1 w (sFw (abX w 1) w) := sFw_fr hI w 1
  have fK : sTied (abX w 1) (sSet (abX w 1)) = 2 ^ sP (abX w 1) - 1 → sKp (abX w 1) (sFw (abX w 1) w) (sM (abX w 1)) := fun h => sFw_kp h
  have fL : sTied (abX w 1) (sSet (abX w 1)) = 2 ^ sP (abX w 1) - 1 → (sFw (abX w 1) w).2 48 4 = fLn (abX w 1) ∧ ∀ j, j < sP (abX w 1) → (sFw (abX w 1) w).2 54 j = fAb (abX w 1) j := fun h => sFw_ln hI h
  generalize (sFw (abX w 1) w) = v at fA fB fF fK fL ⊢
  have hIv : sInv (abX v 1) := by rw [fA]; exact hI
  have hBv := fB
  have fQ : BQ w v (abX w 1, abX w 16, restX w) := bq_fr hX fF fA fB
  refine J_if_eq 28 (pc' := 14) dX6_doubted_11 (by decide) rfl (fun h_11 => ?_) (fun h_11 => ?_)
  · refine J_aload_n (pc' := 29) dX6_doubted_28 rfl rfl ?_
    refine J_iconst (v := 3) (pc' := 30) dX6_doubted_29 (by decide) rfl ?_
    refine J_V1v (pc' := 33) dX6_doubted_30 lk_6_69 cd_X6_error (k_err3) (ly_0) (l84_0) rfl rfl (jroom_of rfl) (Nat.le_of_ble_eq_true rfl) rfl ?_
    first | exact J_iret dX6_doubted_33  (by unfold sq_doubted; rw [if_pos hH]; exact ⟨by rw [fA, fL1, mo_ag hI fL2 _ (Nat.le_refl _)]; rfl, fQ⟩) | exact J_iret dX6_doubted_33  (by unfold sq_doubted; rw [if_neg (jb_0.mp (by first | exact h_11 | exact Decidable.not_not.mp h_11))]; exact ⟨rfl, bq_err2 fQ (by decide)⟩)
  · have hH : sTied (abX w 1) (sSet (abX w 1)) = 2 ^ sP (abX w 1) - 1 := jb_n (by first | exact h_11 | exact Decidable.not_not.mp h_11)
    have hKv : sKp (abX v 1) v (sM (abX v 1)) := by rw [fA]; exact fK hH
    obtain ⟨fL1, fL2⟩ := fL hH
    refine J_aload_n (pc' := 15) dX6_doubted_14 rfl rfl ?_
    refine J_getR (pc' := 18) dX6_doubted_15 fl_6_38 (ly_0) (l84_0) rfl rfl ?_
    refine J_aload_n (pc' := 19) dX6_doubted_18 rfl rfl ?_
    refine J_getR (pc' := 22) dX6_doubted_19 fl_6_12 (ly_0) (l84_0) rfl rfl ?_
    refine J_V1v (pc' := 25) dX6_doubted_22 lk_6_219 cd_X1_mostDoubted (k_X1_mostDoubted jb1 hIv hKv) (ly_48) (l84_48) rfl rfl (jroom_of rfl) (Nat.le_of_ble_eq_true rfl) rfl ?_
    refine J_goto (pc' := 0) 33 dX6_doubted_25 (by decide) ?_
    first | exact J_iret dX6_doubted_33  (by unfold sq_doubted; rw [if_pos hH]; exact ⟨by rw [fA, fL1, mo_ag hI fL2 _ (Nat.le_refl _)]; rfl, fQ⟩) | exact J_iret dX6_doubted_33  (by unfold sq_doubted; rw [if_neg (jb_0.mp (by first | exact h_11 | exact Decidable.not_not.mp h_11))]; exact ⟨rfl, bq_err2 fQ (by decide)⟩)
