/-! ===== the least limit, what to tell ===== -/
/-! ===== the least limit; what to tell ===== -/
theorem lcmpG {x y : Int64} : 0 < lg_cmp x y ↔ y < x := by
  unfold lg_cmp
  by_cases h : x > y
  · rw [if_pos h]; exact ⟨fun _ => h, fun _ => by decide⟩
  · rw [if_neg h]
    by_cases h2 : x = y
    · rw [if_pos h2]; exact ⟨fun q => absurd q (by decide), fun q => absurd q h⟩
    · rw [if_neg h2]; exact ⟨fun q => absurd q (by decide), fun q => absurd q h⟩
theorem lcmpL {x y : Int64} : 0 ≤ lg_cmp x y ↔ ¬ x < y := by
  unfold lg_cmp
  by_cases h : x > y
  · rw [if_pos h]; exact ⟨fun _ => Int64.not_lt.mpr (Int64.le_of_lt h), fun _ => by decide⟩
  · rw [if_neg h]
    by_cases h2 : x = y
    · rw [if_pos h2]; exact ⟨fun _ => by rw [h2]; exact Int64.lt_irrefl, fun _ => by decide⟩
    · rw [if_neg h2]
      exact ⟨fun q => absurd q (by decide), fun q => absurd (Int64.le_antisymm (Int64.not_lt.mp h) (Int64.not_lt.mp q)) h2⟩
theorem sPass_4 {σ : sg} {k : Nat} {v : Int32} (S : Nat) : ∀ n t, sPass (sg1 σ 4 k v) S n t = sPass σ S n t
  | 0, _ => rfl
  | n + 1, t => by
    rw [sPass, sPass, sPass_4 S n t, sg1_f (by decide), sg1_f (by decide)]
theorem sPasses_4 {σ : sg} {k : Nat} {v : Int32} (S : Nat) : ∀ n, sPasses (sg1 σ 4 k v) S n = sPasses σ S n
  | 0 => rfl
  | n + 1 => by
    rw [sPasses, sPasses, sPasses_4 S n, sM_sg1 (Or.inl (by decide)), sPass_4]
theorem sOn_4 {σ : sg} {k : Nat} {v : Int32} : ∀ n, sOn (sg1 σ 4 k v) n = sOn σ n
  | 0 => rfl
  | n + 1 => by rw [sOn, sOn, sOn_4 n, sg1_f (by decide)]
theorem sTied_4 {σ : sg} {k : Nat} {v : Int32} : sTied (sg1 σ 4 k v) (sSet (sg1 σ 4 k v)) = sTied σ (sSet σ) := by
  unfold sTied sSet
  rw [sP_sg1 (Or.inl (by decide)), sM_sg1 (Or.inl (by decide)), sOn_4, sPasses_4]
/-- the sum of a block that is told so -/
def sSum (σ : sg) : Int64 := sSm σ (fLn σ) (fAb σ) (sM σ)
def sTol (σ : sg) (k : Nat) : Nat → Int32 × Int64
  | 0 => (-20, 9223372036854775807)
  | i + 1 => if sSum (sg1 σ 4 k (tw i)) < (sTol σ k i).2 then (tw i, sSum (sg1 σ 4 k (tw i))) else sTol σ k i
def sTolA (σ : sg) (k : Nat) : Int32 := (sTol σ k 41).1
set_option maxHeartbeats 4000000 in
set_option maxRecDepth 100000 in
theorem l_lim {G : jG} {Q : Option Value → jWd → Prop} {w0 : jWd} {σ : sg} (hI0 : sInv σ) {N : Nat} (hN : N ≤ 40) (hR : sR σ ≤ 9999) (hk : ∀ w, xB w 31 → frF 31 w0 w → J G (jM G 8 RX6 cX6_limitFor 5 (some .int) (Q)) w 73 [some (.ref 0), some (.int (nI N)), some (.long (sLf σ N)), none, none] []) : ∀ n i : Nat, i + n = N → ∀ w, abX w 31 = sRdd σ i → xB w 31 → frF 31 w0 w → J G (jM G 8 RX6 cX6_limitFor 5 (some .int) (Q)) w 32 [some (.ref 0), some (.int (nI N)), some (.long (sLf σ i)), none, some (.int (nI i))] [] := by
  intro n
  induction n with
  | zero =>
    intro i hi w h1 h2 h3
    have ei : i = N := by omega
    subst ei
    refine J_iload (pc' := 34) dX6_limitFor_32 rfl rfl ?_
    refine J_iload_n (pc' := 35) dX6_limitFor_34 rfl rfl ?_
    refine J_icmp_ge 73 (pc' := 38) dX6_limitFor_35 (by decide) rfl (fun h_35 => ?_) (fun h_35 => absurd (nI_le (by omega) (by omega)) h_35)
    exact J_mask [true, true, true, true, false] (hk w h2 h3)
  | succ n ih =>
    intro i hi w h1 h2 h3
    have hI : sInv (abX w 31) := by rw [h1]; exact (inv_rdd hI0 i (by omega)).1
    refine J_iload (pc' := 34) dX6_limitFor_32 rfl rfl ?_
    refine J_iload_n (pc' := 35) dX6_limitFor_34 rfl rfl ?_
    refine J_icmp_ge 73 (pc' := 38) dX6_limitFor_35 (by decide) rfl (fun h_35 => absurd h_35 (nI_ge (by omega) (by omega))) (fun h_35 => ?_)
    refine J_lload_n (pc' := 39) dX6_limitFor_38 rfl rfl ?_
    refine J_aload_n (pc' := 40) dX6_limitFor_39 rfl rfl ?_
    refine J_getR (pc' := 43) dX6_limitFor_40 fl_6_38 (ly_0) (l84_0) rfl rfl ?_
    refine J_aload_n (pc' := 44) dX6_limitFor_43 rfl rfl ?_
    refine J_getR (pc' := 47) dX6_limitFor_44 fl_6_19 (ly_0) (l84_0) rfl rfl ?_
    refine J_V1p (pc' := 50) dX6_limitFor_47 lk_6_238 cd_X1_leastLimit (k_X1_leastLimit jb31 hI h2) (ly_48) (l84_48) rfl rfl (jroom_of rfl) (Nat.le_of_ble_eq_true rfl) rfl (fun w47 hw47 => ?_)
    rw [h1]
    obtain ⟨q1, q2, q3⟩ := hw47
    rw [h1] at q1
    refine J_mmaxL (pc' := 53) dX6_limitFor_50 lm_6_241 rfl rfl ?_
    refine J_lstore_n (pc' := 54) dX6_limitFor_53 (Nat.le_of_ble_eq_true rfl) (jstL2 rfl) rfl ?_
    refine J_aload_n (pc' := 55) dX6_limitFor_54 rfl rfl ?_
    refine J_getR (pc' := 58) dX6_limitFor_55 fl_6_19 (ly_0) (l84_0) rfl rfl ?_
    refine J_dup (pc' := 59) dX6_limitFor_58 rfl rfl ?_
    refine J_getI (pc' := 62) dX6_limitFor_59 fl_6_171 (ly_31) (l84_31) rfl rfl ?_
    rw [show w47.1 31 11 = sRdd σ i 6 2 from by rw [← q1]; rfl]
    refine J_iconst (v := 1) (pc' := 63) dX6_limitFor_62 (by decide) rfl ?_
    refine J_iadd (pc' := 64) dX6_limitFor_63 rfl ?_
    refine J_putI (pc' := 67) dX6_limitFor_64 fp_6_171 (ly_31) (l84_31) rfl rfl ?_
    refine J_iinc (pc' := 70) dX6_limitFor_67 rfl (Nat.le_of_ble_eq_true rfl) (jst4 rfl rfl) rfl ?_
    refine J_goto (pc' := 0) 32 dX6_limitFor_70 (by decide) ?_
    have h4 := ih (i + 1) (by omega) (jset w47 31 11 (sRdd σ i 6 2 + 1)) (by rw [abX_f11, q1]; rfl) (xB_set q2 (Or.inr (by decide)) (Or.inl (by omega)) (Or.inl (by omega))) ((h3.tr q3).set (by omega) (by omega))
    rw [← z1 i] at h4
    exact h4
def sq_limitFor (s k r : sg) (n : Int32) : sQI := if 0 ≤ n ∧ n ≤ 40 then (if sLf s (nn n) ≤ 99 then ((sLf s (nn n)).toInt32, s, k, r) else (sErr 2, s, k, sEr r 2)) else (sErr 1, s, k, sEr r 1)
set_option maxHeartbeats 4000000 in
set_option maxRecDepth 100000 in
theorem a_X6_limitFor {G : jG} {w : jWd} (hX : XInv w) (hI : sInv (abX w 1)) (hR : sR (abX w 1) ≤ 9999) {n : Int32} : jKp G 8 yX6_limitFor cX6_limitFor 5 (some .int) [.ref 0, .int n] w (some (.int (sq_limitFor (abX w 1) (abX w 16) (restX w) n).1)) (fun w' => BQ w w' (sq_limitFor (abX w 1) (abX w 16) (restX w) n).2) := by
  refine jK_of (own := RX6) [some (.ref 0), some (.int n), none, none, none] pn6 rfl (Nat.le_of_ble_eq_true rfl) rfl ?_
  refine J_iload_n (pc' := 1) dX6_limitFor_0 rfl rfl ?_
  refine J_iconst (v := 0) (pc' := 2) dX6_limitFor_1 (by decide) rfl ?_
  refine J_bipush (v := 40) (pc' := 4) dX6_limitFor_2 (by decide) rfl ?_
  refine J_S3v (pc' := 7) dX6_limitFor_4 lk_6_108 cd_X6_isWithin (k_X6_isWithin) (jroom_of rfl) (Nat.le_of_ble_eq_true rfl) rfl ?_
  refine J_if_ne 16 (pc' := 10) dX6_limitFor_7 (by decide) rfl (fun h_7 => ?_) (fun h_7 => ?_)
  · obtain ⟨N, hN, rfl⟩ := rng0_ex (n := 40) (by omega) (jb_n h_7)
    refine J_aload_n (pc' := 17) dX6_limitFor_16 rfl rfl ?_
    refine J_getR (pc' := 20) dX6_limitFor_17 fl_6_19 (ly_0) (l84_0) rfl rfl ?_
    refine J_aload_n (pc' := 21) dX6_limitFor_20 rfl rfl ?_
    refine J_getR (pc' := 24) dX6_limitFor_21 fl_6_12 (ly_0) (l84_0) rfl rfl ?_
    refine J_V1w (pc' := 27) dX6_limitFor_24 lk_6_229 cd_X0_copy (k_X0_copy jb31 jb1 (Or.inl ⟨rfl, rfl⟩) hI hX.2.2 hX.1) (ly_31) (l84_31) rfl rfl (jroom_of rfl) (Nat.le_of_ble_eq_true rfl) rfl (fun w24 hw24 => ?_)
    obtain ⟨c1, c2, c3⟩ := hw24
    have hI31 : sInv (abX w24 31) := by rw [c1]; exact hI
    refine J_lconst (v := 0) (pc' := 28) dX6_limitFor_27 (by decide) rfl ?_
    refine J_lstore_n (pc' := 29) dX6_limitFor_28 (Nat.le_of_ble_eq_true rfl) (jstL2 rfl) rfl ?_
    refine J_iconst (v := 0) (pc' := 30) dX6_limitFor_29 (by decide) rfl ?_
    refine J_istore (pc' := 32) dX6_limitFor_30 (Nat.le_of_ble_eq_true rfl) (jst4 rfl rfl) rfl ?_
    refine l_lim (w0 := w) hI hN hR (fun v q2 q3 => ?_) N 0 (by omega) w24 c1 c2 (frF.of c3)
    refine J_lload_n (pc' := 74) dX6_limitFor_73 rfl rfl ?_
    refine J_ldc2 (pc' := 77) dX6_limitFor_74 kc_6_247 rfl ?_
    refine J_lcmp (pc' := 78) dX6_limitFor_77 rfl ?_
    refine J_if_gt 86 (pc' := 81) dX6_limitFor_78 (by decide) rfl (fun h_78 => ?_) (fun h_78 => ?_)
    · refine J_aload_n (pc' := 87) dX6_limitFor_86 rfl rfl ?_
      refine J_iconst (v := 2) (pc' := 88) dX6_limitFor_87 (by decide) rfl ?_
      refine J_V1v (pc' := 91) dX6_limitFor_88 lk_6_69 cd_X6_error (k_err2) (ly_0) (l84_0) rfl rfl (jroom_of rfl) (Nat.le_of_ble_eq_true rfl) rfl ?_
      first | exact J_iret dX6_limitFor_91  (by unfold sq_limitFor; rw [if_pos (jb_n h_7), nn_nI (by omega), if_pos (Int64.not_lt.mp (fun q => h_78 (lcmpG.mpr q)))]; exact ⟨rfl, bq_th hX q3 q2⟩) | exact J_iret dX6_limitFor_91  (by unfold sq_limitFor; rw [if_pos (jb_n h_7), nn_nI (by omega), if_neg (fun q => Int64.not_lt.mpr q (lcmpG.mp h_78))]; exact ⟨rfl, bq_err2 (bq_th hX q3 q2) (by decide)⟩)
    · refine J_lload_n (pc' := 82) dX6_limitFor_81 rfl rfl ?_
      refine J_l2i (pc' := 83) dX6_limitFor_82 rfl ?_
      refine J_goto (pc' := 0) 91 dX6_limitFor_83 (by decide) ?_
      first | exact J_iret dX6_limitFor_91  (by unfold sq_limitFor; rw [if_pos (jb_n h_7), nn_nI (by omega), if_pos (Int64.not_lt.mp (fun q => h_78 (lcmpG.mpr q)))]; exact ⟨rfl, bq_th hX q3 q2⟩) | exact J_iret dX6_limitFor_91  (by unfold sq_limitFor; rw [if_pos (jb_n h_7), nn_nI (by omega), if_neg (fun q => Int64.not_lt.mpr q (lcmpG.mp h_78))]; exact ⟨rfl, bq_err2 (bq_th hX q3 q2) (by decide)⟩)
  · refine J_aload_n (pc' := 11) dX6_limitFor_10 rfl rfl ?_
    refine J_iconst (v := 1) (pc' := 12) dX6_limitFor_11 (by decide) rfl ?_
    refine J_V1v (pc' := 15) dX6_limitFor_12 lk_6_69 cd_X6_error (k_err1) (ly_0) (l84_0) rfl rfl (jroom_of rfl) (Nat.le_of_ble_eq_true rfl) rfl ?_
    exact J_iret dX6_limitFor_15  (by unfold sq_limitFor; rw [if_neg (fun q => by first | exact jb_0.mp h_7 q)]; exact ⟨rfl, bq_err hX (by decide)⟩)
set_option maxHeartbeats 4000000 in
set_option maxRecDepth 100000 in
theorem l_tol {G : jG} {Q : Option Value → jWd → Prop} {w0 : jWd} {σ : sg} (hI0 : sInv σ) (hH : sTied σ (sSet σ) = 2 ^ sP σ - 1) {k : Nat} (hk : k < sM σ) (hQ : ∀ w, xB w 31 → frF 31 w0 w → Q (some (.int (sTolA σ k))) w) : ∀ n i : Nat, i + n = 41 → ∀ w, (∀ v, sg1 (abX w 31) 4 k v = sg1 σ 4 k v) → xB w 31 → frF 31 w0 w → J G (jM G 6 RX6 cX6_toldFor 8 (some .int) (Q)) w 59 [some (.ref 0), some (.int (nI k)), some (.int (sTol σ k i).1), some (.long (sTol σ k i).2), none, some (.int (tw i)), none, none] [] := by
  have h8 : k < 8 := Nat.lt_of_lt_of_le hk (sIM hI0).2
  intro n
  induction n with
  | zero =>
    intro i hi w h1 h2 h3
    have ei : i = 41 := by omega
    subst ei
    refine J_iload (pc' := 61) dX6_toldFor_59 rfl rfl ?_
    refine J_bipush (v := 20) (pc' := 63) dX6_toldFor_61 (by decide) rfl ?_
    refine J_icmp_gt 121 (pc' := 66) dX6_toldFor_63 (by decide) rfl (fun h_63 => ?_) (fun h_63 => absurd tw_41 h_63)
    refine J_iload_n (pc' := 122) dX6_toldFor_121 rfl rfl ?_
    have hq := hQ w h2 h3
    unfold sTolA at hq
    exact J_iret dX6_toldFor_122  hq
  | succ n ih =>
    intro i hi w h1 h2 h3
    have hi41 : i < 41 := by omega
    have hIt : sInv (sg1 σ 4 k (tw i)) := inv_4 hI0 (tw_in i hi41).2
    have hHt : sTied (sg1 σ 4 k (tw i)) (sSet (sg1 σ 4 k (tw i))) = 2 ^ sP (sg1 σ 4 k (tw i)) - 1 := by rw [sTied_4, sP_sg1 (Or.inl (by decide))]; exact hH
    refine J_iload (pc' := 61) dX6_toldFor_59 rfl rfl ?_
    refine J_bipush (v := 20) (pc' := 63) dX6_toldFor_61 (by decide) rfl ?_
    refine J_icmp_gt 121 (pc' := 66) dX6_toldFor_63 (by decide) rfl (fun h_63 => absurd h_63 (tw_in i hi41).1) (fun h_63 => ?_)
    refine J_aload_n (pc' := 67) dX6_toldFor_66 rfl rfl ?_
    refine J_getR (pc' := 70) dX6_toldFor_67 fl_6_19 (ly_0) (l84_0) rfl rfl ?_
    refine J_getR (pc' := 73) dX6_toldFor_70 fl_6_96 (ly_31) (l84_31) rfl rfl ?_
    refine J_iload_n (pc' := 74) dX6_toldFor_73 rfl rfl ?_
    refine J_iload (pc' := 76) dX6_toldFor_74 rfl rfl ?_
    refine J_iast k (pc' := 77) dX6_toldFor_76 (ly_36) (l84_36) rfl h8 (by decide) rfl ?_
    have e4 : abX (jset w (31 + 5) k (tw i)) 31 = sg1 σ 4 k (tw i) := (abX_s4 h8).trans (h1 (tw i))
    have hB4 : xB (jset w (31 + 5) k (tw i)) 31 := xB_set h2 (Or.inl (by omega)) (Or.inl (by omega)) (Or.inl (by omega))
    have fF : frF 31 w0 (jset w (31 + 5) k (tw i)) := h3.set (by omega) (by omega)
    generalize (jset w (31 + 5) k (tw i)) = u at e4 hB4 fF ⊢
    have hI4 : sInv (abX u 31) := by rw [e4]; exact hIt
    refine J_aload_n (pc' := 78) dX6_toldFor_77 rfl rfl ?_
    refine J_getR (pc' := 81) dX6_toldFor_78 fl_6_38 (ly_0) (l84_0) rfl rfl ?_
    refine J_aload_n (pc' := 82) dX6_toldFor_81 rfl rfl ?_
    refine J_getR (pc' := 85) dX6_toldFor_82 fl_6_19 (ly_0) (l84_0) rfl rfl ?_
    refine J_V1v (pc' := 88) dX6_toldFor_85 lk_6_195 cd_X1_find (k_X1_find jb31 hI4 hB4) (ly_48) (l84_48) rfl rfl (jroom_of rfl) (Nat.le_of_ble_eq_true rfl) rfl ?_
    rw [e4]
    have fA : abX (sFw (sg1 σ 4 k (tw i)) u) 31 = sg1 σ 4 k (tw i) := (sFw_ab jb31).trans e4
    have fB : xB (sFw (sg1 σ 4 k (tw i)) u) 31 := sFw_xb jb31 hB4
    have fF2 : frF 31 w0 (sFw (sg1 σ 4 k (tw i)) u) := fF.tr (sFw_fr hIt _ 31)
    have fK : sKp (sg1 σ 4 k (tw i)) (sFw (sg1 σ 4 k (tw i)) u) (sM (sg1 σ 4 k (tw i))) := sFw_kp hHt
    have fL : (sFw (sg1 σ 4 k (tw i)) u).2 48 4 = fLn (sg1 σ 4 k (tw i)) ∧ ∀ j, j < sP (sg1 σ 4 k (tw i)) → (sFw (sg1 σ 4 k (tw i)) u).2 54 j = fAb (sg1 σ 4 k (tw i)) j := sFw_ln hIt hHt
    generalize (sFw (sg1 σ 4 k (tw i)) u) = v at fA fB fF2 fK fL ⊢
    obtain ⟨fL1, fL2⟩ := fL
    have hIv : sInv (abX v 31) := by rw [fA]; exact hIt
    have hKv : sKp (abX v 31) v (sM (abX v 31)) := by rw [fA]; exact fK
    refine J_pop (pc' := 89) dX6_toldFor_88 rfl rfl ?_
    refine J_aload_n (pc' := 90) dX6_toldFor_89 rfl rfl ?_
    refine J_getR (pc' := 93) dX6_toldFor_90 fl_6_38 (ly_0) (l84_0) rfl rfl ?_
    refine J_aload_n (pc' := 94) dX6_toldFor_93 rfl rfl ?_
    refine J_getR (pc' := 97) dX6_toldFor_94 fl_6_19 (ly_0) (l84_0) rfl rfl ?_
    refine J_V1v (pc' := 100) dX6_toldFor_97 lk_6_215 cd_X1_sumAbove (k_X1_sumAbove jb31 hIv hKv) (ly_48) (l84_48) rfl rfl (jroom_of rfl) (Nat.le_of_ble_eq_true rfl) rfl ?_
    rw [fA, fL1, sm_ag hIt fL2 _ (Nat.le_refl _), show sSm (sg1 σ 4 k (tw i)) (fLn (sg1 σ 4 k (tw i))) (fAb (sg1 σ 4 k (tw i))) (sM (sg1 σ 4 k (tw i))) = sSum (sg1 σ 4 k (tw i)) from rfl]
    refine J_lstore (pc' := 102) dX6_toldFor_100 (Nat.le_of_ble_eq_true rfl) (jstL6 rfl) rfl ?_
    refine J_lload (pc' := 104) dX6_toldFor_102 rfl rfl ?_
    refine J_lload_n (pc' := 105) dX6_toldFor_104 rfl rfl ?_
    refine J_lcmp (pc' := 106) dX6_toldFor_105 rfl ?_
    refine J_if_ge 115 (pc' := 109) dX6_toldFor_106 (by decide) rfl (fun h_106 => ?_) (fun h_106 => ?_)
    · refine J_iinc (pc' := 118) dX6_toldFor_115 rfl (Nat.le_of_ble_eq_true rfl) (jst5 rfl rfl) rfl ?_
      refine J_goto (pc' := 0) 59 dX6_toldFor_118 (by decide) ?_
      have e : sTol σ k (i + 1) = sTol σ k i := by rw [sTol, if_neg (lcmpL.mp h_106)]
      have h4 := ih (i + 1) (by omega) v (fun u => by rw [fA, sg1_2]) fB fF2
      rw [e, ← tw_s i hi41] at h4
      exact J_mask [true, true, true, true, true, true, false, false] h4
    · refine J_lload (pc' := 111) dX6_toldFor_109 rfl rfl ?_
      refine J_lstore_n (pc' := 112) dX6_toldFor_111 (Nat.le_of_ble_eq_true rfl) (jstL3 rfl) rfl ?_
      refine J_iload (pc' := 114) dX6_toldFor_112 rfl rfl ?_
      refine J_istore_n (pc' := 115) dX6_toldFor_114 (Nat.le_of_ble_eq_true rfl) (jst2 rfl rfl) rfl ?_
      refine J_iinc (pc' := 118) dX6_toldFor_115 rfl (Nat.le_of_ble_eq_true rfl) (jst5 rfl rfl) rfl ?_
      refine J_goto (pc' := 0) 59 dX6_toldFor_118 (by decide) ?_
      have e : sTol σ k (i + 1) = (tw i, sSum (sg1 σ 4 k (tw i))) := by rw [sTol, if_pos (Decidable.not_not.mp (fun q => h_106 (lcmpL.mpr q)))]
      have h4 := ih (i + 1) (by omega) v (fun u => by rw [fA, sg1_2]) fB fF2
      rw [e, ← tw_s i hi41] at h4
      exact J_mask [true, true, true, true, true, true, false, false] h4
def sq_toldFor (s k r : sg) (x : Int32) : sQI := if sIsM s x then (if sTied s (sSet s) = 2 ^ sP s - 1 then (sTolA s (nn x), s, k, r) else (sErr 3, s, k, sEr r 3)) else (sErr 1, s, k, sEr r 1)
set_option maxHeartbeats 4000000 in
set_option maxRecDepth 100000 in
theorem a_X6_toldFor {G : jG} {w : jWd} (hX : XInv w) (hI : sInv (abX w 1)) {x : Int32} : jKp G 6 yX6_toldFor cX6_toldFor 8 (some .int) [.ref 0, .int x] w (some (.int (sq_toldFor (abX w 1) (abX w 16) (restX w) x).1)) (fun w' => BQ w w' (sq_toldFor (abX w 1) (abX w 16) (restX w) x).2) := by
  obtain ⟨eS, hS⟩ := xB_on hI hX.1
  refine jK_of (own := RX6) [some (.ref 0), some (.int x), none, none, none, none, none, none] pn6 rfl (Nat.le_of_ble_eq_true rfl) rfl ?_
  refine J_aload_n (pc' := 1) dX6_toldFor_0 rfl rfl ?_
  refine J_iload_n (pc' := 2) dX6_toldFor_1 rfl rfl ?_
  refine J_V1v (pc' := 5) dX6_toldFor_2 lk_6_81 cd_X6_isMark (k_X6_isMark) (ly_0) (l84_0) rfl rfl (jroom_of rfl) (Nat.le_of_ble_eq_true rfl) rfl ?_
  refine J_if_ne 14 (pc' := 8) dX6_toldFor_5 (by decide) rfl (fun h_5 => ?_) (fun h_5 => ?_)
  · obtain ⟨k, hk, rfl⟩ := sIsM_ex hI (jb_n h_5)
    have h8 : k < 8 := Nat.lt_of_lt_of_le hk (sIM hI).2
    refine J_aload_n (pc' := 15) dX6_toldFor_14 rfl rfl ?_
    refine J_getR (pc' := 18) dX6_toldFor_15 fl_6_12 (ly_0) (l84_0) rfl rfl ?_
    refine J_aload_n (pc' := 19) dX6_toldFor_18 rfl rfl ?_
    refine J_getR (pc' := 22) dX6_toldFor_19 fl_6_12 (ly_0) (l84_0) rfl rfl ?_
    refine J_getI (pc' := 25) dX6_toldFor_22 fl_6_178 (ly_1) (l84_1) rfl rfl ?_
    rw [eS]
    refine J_V1v (pc' := 28) dX6_toldFor_25 lk_6_223 cd_X0_holds (k_X0_holds jb1 hI hS) (ly_1) (l84_1) rfl rfl (jroom_of rfl) (Nat.le_of_ble_eq_true rfl) rfl ?_
    refine J_if_ne 37 (pc' := 31) dX6_toldFor_28 (by decide) rfl (fun h_28 => ?_) (fun h_28 => ?_)
    · refine J_aload_n (pc' := 38) dX6_toldFor_37 rfl rfl ?_
      refine J_getR (pc' := 41) dX6_toldFor_38 fl_6_19 (ly_0) (l84_0) rfl rfl ?_
      refine J_aload_n (pc' := 42) dX6_toldFor_41 rfl rfl ?_
      refine J_getR (pc' := 45) dX6_toldFor_42 fl_6_12 (ly_0) (l84_0) rfl rfl ?_
      refine J_V1w (pc' := 48) dX6_toldFor_45 lk_6_229 cd_X0_copy (k_X0_copy jb31 jb1 (Or.inl ⟨rfl, rfl⟩) hI hX.2.2 hX.1) (ly_31) (l84_31) rfl rfl (jroom_of rfl) (Nat.le_of_ble_eq_true rfl) rfl (fun w45 hw45 => ?_)
      obtain ⟨c1, c2, c3⟩ := hw45
      have hI31 : sInv (abX w45 31) := by rw [c1]; exact hI
      refine J_bipush (v := (-20)) (pc' := 50) dX6_toldFor_48 (by decide) rfl ?_
      refine J_istore_n (pc' := 51) dX6_toldFor_50 (Nat.le_of_ble_eq_true rfl) (jst2 rfl rfl) rfl ?_
      refine J_ldc2 (pc' := 54) dX6_toldFor_51 kc_6_251 rfl ?_
      refine J_lstore_n (pc' := 55) dX6_toldFor_54 (Nat.le_of_ble_eq_true rfl) (jstL3 rfl) rfl ?_
      refine J_bipush (v := (-20)) (pc' := 57) dX6_toldFor_55 (by decide) rfl ?_
      refine J_istore (pc' := 59) dX6_toldFor_57 (Nat.le_of_ble_eq_true rfl) (jst5 rfl rfl) rfl ?_
      have h9 := fun hq => l_tol (G := G) (Q := fun r' w' => r' = some (.int (sq_toldFor (abX w 1) (abX w 16) (restX w) (nI k)).1) ∧ BQ w w' (sq_toldFor (abX w 1) (abX w 16) (restX w) (nI k)).2) (w0 := w) hI (jb_n (by first | exact h_28 | exact Decidable.not_not.mp h_28)) hk hq 41 0 (by omega) w45 (fun u => by rw [c1]) c2 (frF.of c3)
      rw [tw_0] at h9
      refine J_mask [true, true, true, true, true, true, false, false] (h9 (fun v q2 q3 => ?_))
      unfold sq_toldFor
      rw [if_pos (show sIsM (abX w 1) (nI k) from jb_n h_5), if_pos (jb_n (by first | exact h_28 | exact Decidable.not_not.mp h_28)), nn_nI (by omega)]
      dsimp only
      exact ⟨rfl, bq_th hX q3 q2⟩
    · refine J_aload_n (pc' := 32) dX6_toldFor_31 rfl rfl ?_
      refine J_iconst (v := 3) (pc' := 33) dX6_toldFor_32 (by decide) rfl ?_
      refine J_V1v (pc' := 36) dX6_toldFor_33 lk_6_69 cd_X6_error (k_err3) (ly_0) (l84_0) rfl rfl (jroom_of rfl) (Nat.le_of_ble_eq_true rfl) rfl ?_
      exact J_iret dX6_toldFor_36  (by unfold sq_toldFor; rw [if_pos (show sIsM (abX w 1) (nI k) from jb_n h_5), if_neg (jb_0.mp (by first | exact h_28 | exact Decidable.not_not.mp h_28))]; exact ⟨rfl, bq_err hX (by decide)⟩)
  · refine J_aload_n (pc' := 9) dX6_toldFor_8 rfl rfl ?_
    refine J_iconst (v := 1) (pc' := 10) dX6_toldFor_9 (by decide) rfl ?_
    refine J_V1v (pc' := 13) dX6_toldFor_10 lk_6_69 cd_X6_error (k_err1) (ly_0) (l84_0) rfl rfl (jroom_of rfl) (Nat.le_of_ble_eq_true rfl) rfl ?_
    exact J_iret dX6_toldFor_13  (by unfold sq_toldFor; rw [if_neg (fun q => by first | exact jb_0.mp h_5 q)]; exact ⟨rfl, bq_err hX (by decide)⟩)
