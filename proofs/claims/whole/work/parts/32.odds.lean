/-! ===== odds, the least limit ===== -/
/-! ===== odds, the least limit ===== -/
def tw (i : Nat) : Int32 := nI i - 20
theorem tw_s : ∀ i, i < 41 → tw i + 1 = tw (i + 1) := by decide +kernel
theorem tw_in : ∀ i, i < 41 → (¬ 20 < tw i) ∧ -20 ≤ (tw i).toInt ∧ (tw i).toInt ≤ 20 := by decide +kernel
theorem tw_41 : 20 < tw 41 := by decide +kernel
theorem tw_0 : tw 0 = -20 := by decide +kernel
def sOdd (σ : sg) (k N : Nat) : Nat → Nat
  | 0 => 0
  | i + 1 => sOdd σ k N i + (if 0 ≤ sRu (sg1 σ 4 k (tw i)) k (N + 1) 0 then 0 else 1)
theorem sOdd_le (σ : sg) (k N : Nat) : ∀ i, sOdd σ k N i ≤ i
  | 0 => Nat.le_refl _
  | i + 1 => by
    have := sOdd_le σ k N i
    rw [sOdd]
    split <;> omega
def sRdd (σ : sg) : Nat → sg
  | 0 => σ
  | i + 1 => sg1 (sRdd σ i) 6 2 (sRdd σ i 6 2 + 1)
theorem inv_rdd {σ : sg} (hI : sInv σ) : ∀ n, sR σ + n ≤ 1000000 → sInv (sRdd σ n) ∧ sR (sRdd σ n) = sR σ + n
  | 0, _ => ⟨hI, rfl⟩
  | n + 1, h => by
    obtain ⟨h1, h2⟩ := inv_rdd hI n (by omega)
    have e : sRdd σ n 6 2 + 1 = nI (sR σ + n + 1) := by rw [h1.2.2.1.1, jadd rfl nIc_1, h2]
    rw [sRdd, e]
    exact ⟨inv_62 h1 ⟨_, rfl, by omega⟩, by unfold sR; rw [sg1_at]; rw [show (σ 6 2).toNatClampNeg = sR σ from rfl]; exact nI_clamp (by omega)⟩
def sLf (σ : sg) : Nat → Int64
  | 0 => 0
  | n + 1 => if sLst (sRdd σ n) < sLf σ n then sLf σ n else sLst (sRdd σ n)
set_option maxHeartbeats 4000000 in
set_option maxRecDepth 100000 in
theorem l_odd {G : jG} {Q : Option Value → jWd → Prop} {w0 : jWd} (hX : XInv w0) (hI0 : sInv (abX w0 1)) {N : Nat} (hN : N ≤ 40) (hR : sR (abX w0 1) ≤ 9999) {k : Nat} (hk : k < sM (abX w0 1)) {p : Int32} (hQ : ∀ w, xB w 31 → frF 31 w0 w → Q (some (.int (sPart (nI (sOdd (abX w0 1) k N 41)).toInt64 41 p).toInt32)) w) : ∀ n i : Nat, i + n = 41 → ∀ w, xB w 31 → frF 31 w0 w → J G (jM G 8 RX6 cX6_odds 6 (some .int) (Q)) w 38 [some (.ref 0), some (.int (nI k)), some (.int (nI N)), some (.int p), some (.int (nI (sOdd (abX w0 1) k N i))), some (.int (tw i))] [] := by
  have h8 : k < 8 := Nat.lt_of_lt_of_le hk (sIM hI0).2
  intro n
  induction n with
  | zero =>
    intro i hi w h2 h3
    have ei : i = 41 := by omega
    subst ei
    refine J_iload (pc' := 40) dX6_odds_38 rfl rfl ?_
    refine J_bipush (v := 20) (pc' := 42) dX6_odds_40 (by decide) rfl ?_
    refine J_icmp_gt 85 (pc' := 45) dX6_odds_42 (by decide) rfl (fun h_42 => ?_) (fun h_42 => absurd tw_41 h_42)
    refine J_iload (pc' := 87) dX6_odds_85 rfl rfl ?_
    refine J_i2l (pc' := 88) dX6_odds_87 rfl ?_
    refine J_ldc2 (pc' := 91) dX6_odds_88 kc_6_253 rfl ?_
    refine J_iload_n (pc' := 92) dX6_odds_91 rfl rfl ?_
    refine J_S3v (pc' := 95) dX6_odds_92 lk_6_207 cd_X6_partOf (k_X6_partOf) (jroom_of rfl) (Nat.le_of_ble_eq_true rfl) rfl ?_
    refine J_l2i (pc' := 96) dX6_odds_95 rfl ?_
    exact J_iret dX6_odds_96  (hQ w h2 h3)
  | succ n ih =>
    intro i hi w h2 h3
    have hi41 : i < 41 := by omega
    have eA : abX w 1 = abX w0 1 := abX_congr (fun a q1 q2 => h3.1 a (by omega) (by omega) (by omega))
    have hB1 : xB w 1 := xB_congr (fun a q1 q2 => h3.1 a (by omega) (by omega) (by omega)) hX.1
    have hI : sInv (abX w 1) := by rw [eA]; exact hI0
    have hso := sOdd_le (abX w0 1) k N i
    refine J_iload (pc' := 40) dX6_odds_38 rfl rfl ?_
    refine J_bipush (v := 20) (pc' := 42) dX6_odds_40 (by decide) rfl ?_
    refine J_icmp_gt 85 (pc' := 45) dX6_odds_42 (by decide) rfl (fun h_42 => absurd h_42 (tw_in i hi41).1) (fun h_42 => ?_)
    refine J_aload_n (pc' := 46) dX6_odds_45 rfl rfl ?_
    refine J_getR (pc' := 49) dX6_odds_46 fl_6_19 (ly_0) (l84_0) rfl rfl ?_
    refine J_aload_n (pc' := 50) dX6_odds_49 rfl rfl ?_
    refine J_getR (pc' := 53) dX6_odds_50 fl_6_12 (ly_0) (l84_0) rfl rfl ?_
    refine J_V1w (pc' := 56) dX6_odds_53 lk_6_229 cd_X0_copy (k_X0_copy jb31 jb1 (Or.inl ⟨rfl, rfl⟩) hI h2 hB1) (ly_31) (l84_31) rfl rfl (jroom_of rfl) (Nat.le_of_ble_eq_true rfl) rfl (fun w53 hw53 => ?_)
    obtain ⟨c1, c2, c3⟩ := hw53
    have e4 : abX (jset w53 36 k (tw i)) 31 = sg1 (abX w0 1) 4 k (tw i) := by rw [show abX (jset w53 36 k (tw i)) 31 = sg1 (abX w53 31) 4 k (tw i) from abX_s4 (b := 31) h8, c1, eA]
    have hI4 : sInv (abX (jset w53 36 k (tw i)) 31) := by rw [e4]; exact inv_4 hI0 (tw_in i hi41).2
    have hB4 : xB (jset w53 36 k (tw i)) 31 := xB_set c2 (Or.inl (by omega)) (Or.inl (by omega)) (Or.inl (by omega))
    refine J_aload_n (pc' := 57) dX6_odds_56 rfl rfl ?_
    refine J_getR (pc' := 60) dX6_odds_57 fl_6_19 (ly_0) (l84_0) rfl rfl ?_
    refine J_getR (pc' := 63) dX6_odds_60 fl_6_96 (ly_31) (l84_31) rfl rfl ?_
    refine J_iload_n (pc' := 64) dX6_odds_63 rfl rfl ?_
    refine J_iload (pc' := 66) dX6_odds_64 rfl rfl ?_
    refine J_iast k (pc' := 67) dX6_odds_66 (ly_36) (l84_36) rfl h8 (by decide) rfl ?_
    refine J_aload_n (pc' := 68) dX6_odds_67 rfl rfl ?_
    refine J_iload_n (pc' := 69) dX6_odds_68 rfl rfl ?_
    refine J_iload_n (pc' := 70) dX6_odds_69 rfl rfl ?_
    refine J_V2p (pc' := 73) dX6_odds_70 lk_6_234 cd_X6_roundsUntilOff (k_X6_roundsUntilOff hI4 hB4 (N := N) (by omega) (by rw [e4, sR_sg1 (Or.inl (by decide))]; exact hR) h8) (ly_0) (l84_0) rfl rfl (jroom_of rfl) (Nat.le_of_ble_eq_true rfl) rfl (fun w70 hw70 => ?_)
    rw [e4]
    refine J_if_ge 79 (pc' := 76) dX6_odds_73 (by decide) rfl (fun h_73 => ?_) (fun h_73 => ?_)
    · refine J_iinc (pc' := 82) dX6_odds_79 rfl (Nat.le_of_ble_eq_true rfl) (jst5 rfl rfl) rfl ?_
      refine J_goto (pc' := 0) 38 dX6_odds_82 (by decide) ?_
      have e : sOdd (abX w0 1) k N (i + 1) = sOdd (abX w0 1) k N i := by rw [sOdd, if_pos h_73, Nat.add_zero]
      have h4 := ih (i + 1) (by omega) w70 hw70.1 (((h3.tr (frF.of c3)).set (a := 36) (k := k) (v := tw i) (by omega) (by omega)).tr hw70.2)
      rw [e, ← tw_s i hi41] at h4
      first | exact h4 | (rw [← z1 (sOdd (abX w0 1) k N i)] at h4; exact h4)
    · refine J_iinc (pc' := 79) dX6_odds_76 rfl (Nat.le_of_ble_eq_true rfl) (jst4 rfl rfl) rfl ?_
      refine J_iinc (pc' := 82) dX6_odds_79 rfl (Nat.le_of_ble_eq_true rfl) (jst5 rfl rfl) rfl ?_
      refine J_goto (pc' := 0) 38 dX6_odds_82 (by decide) ?_
      have e : sOdd (abX w0 1) k N (i + 1) = sOdd (abX w0 1) k N i + 1 := by rw [sOdd, if_neg h_73]
      have h4 := ih (i + 1) (by omega) w70 hw70.1 (((h3.tr (frF.of c3)).set (a := 36) (k := k) (v := tw i) (by omega) (by omega)).tr hw70.2)
      rw [e, ← tw_s i hi41] at h4
      first | exact h4 | (rw [← z1 (sOdd (abX w0 1) k N i)] at h4; exact h4)
def sq_odds (s k r : sg) (x : Int32) (n : Int32) (p : Int32) : sQI := if sIsM s x ∧ (0 ≤ n ∧ n ≤ 40) ∧ (0 ≤ p ∧ p ≤ 1) then ((sPart (nI (sOdd s (nn x) (nn n) 41)).toInt64 41 p).toInt32, s, k, r) else (sErr 1, s, k, sEr r 1)
set_option maxHeartbeats 4000000 in
set_option maxRecDepth 100000 in
theorem a_X6_odds {G : jG} {w : jWd} (hX : XInv w) (hI : sInv (abX w 1)) (hR : sR (abX w 1) ≤ 9999) {x : Int32} {n : Int32} {p : Int32} : jKp G 8 yX6_odds cX6_odds 6 (some .int) [.ref 0, .int x, .int n, .int p] w (some (.int (sq_odds (abX w 1) (abX w 16) (restX w) x n p).1)) (fun w' => BQ w w' (sq_odds (abX w 1) (abX w 16) (restX w) x n p).2) := by
  refine jK_of (own := RX6) [some (.ref 0), some (.int x), some (.int n), some (.int p), none, none] pn6 rfl (Nat.le_of_ble_eq_true rfl) rfl ?_
  refine J_aload_n (pc' := 1) dX6_odds_0 rfl rfl ?_
  refine J_iload_n (pc' := 2) dX6_odds_1 rfl rfl ?_
  refine J_V1v (pc' := 5) dX6_odds_2 lk_6_81 cd_X6_isMark (k_X6_isMark) (ly_0) (l84_0) rfl rfl (jroom_of rfl) (Nat.le_of_ble_eq_true rfl) rfl ?_
  refine J_if_eq 25 (pc' := 8) dX6_odds_5 (by decide) rfl (fun h_5 => ?_) (fun h_5 => ?_)
  · refine J_aload_n (pc' := 26) dX6_odds_25 rfl rfl ?_
    refine J_iconst (v := 1) (pc' := 27) dX6_odds_26 (by decide) rfl ?_
    refine J_V1v (pc' := 30) dX6_odds_27 lk_6_69 cd_X6_error (k_err1) (ly_0) (l84_0) rfl rfl (jroom_of rfl) (Nat.le_of_ble_eq_true rfl) rfl ?_
    exact J_iret dX6_odds_30  (by unfold sq_odds; rw [if_neg (fun q => by first | exact jb_0.mp h_5 q.1 | exact jb_0.mp h_15 q.2.1 | exact jb_0.mp h_22 q.2.2)]; exact ⟨rfl, bq_err hX (by decide)⟩)
  · refine J_iload_n (pc' := 9) dX6_odds_8 rfl rfl ?_
    refine J_iconst (v := 0) (pc' := 10) dX6_odds_9 (by decide) rfl ?_
    refine J_bipush (v := 40) (pc' := 12) dX6_odds_10 (by decide) rfl ?_
    refine J_S3v (pc' := 15) dX6_odds_12 lk_6_108 cd_X6_isWithin (k_X6_isWithin) (jroom_of rfl) (Nat.le_of_ble_eq_true rfl) rfl ?_
    refine J_if_eq 25 (pc' := 18) dX6_odds_15 (by decide) rfl (fun h_15 => ?_) (fun h_15 => ?_)
    · refine J_aload_n (pc' := 26) dX6_odds_25 rfl rfl ?_
      refine J_iconst (v := 1) (pc' := 27) dX6_odds_26 (by decide) rfl ?_
      refine J_V1v (pc' := 30) dX6_odds_27 lk_6_69 cd_X6_error (k_err1) (ly_0) (l84_0) rfl rfl (jroom_of rfl) (Nat.le_of_ble_eq_true rfl) rfl ?_
      exact J_iret dX6_odds_30  (by unfold sq_odds; rw [if_neg (fun q => by first | exact jb_0.mp h_5 q.1 | exact jb_0.mp h_15 q.2.1 | exact jb_0.mp h_22 q.2.2)]; exact ⟨rfl, bq_err hX (by decide)⟩)
    · refine J_iload_n (pc' := 19) dX6_odds_18 rfl rfl ?_
      refine J_S1v (pc' := 22) dX6_odds_19 lk_6_192 cd_X6_isPart (k_X6_isPart) (jroom_of rfl) (Nat.le_of_ble_eq_true rfl) rfl ?_
      refine J_if_ne 31 (pc' := 25) dX6_odds_22 (by decide) rfl (fun h_22 => ?_) (fun h_22 => ?_)
      · obtain ⟨k, hk, rfl⟩ := sIsM_ex hI (jb_n h_5)
        have h8 : k < 8 := Nat.lt_of_lt_of_le hk (sIM hI).2
        obtain ⟨N, hN, rfl⟩ := rng0_ex (n := 40) (by omega) (jb_n h_15)
        refine J_iconst (v := 0) (pc' := 32) dX6_odds_31 (by decide) rfl ?_
        refine J_istore (pc' := 34) dX6_odds_32 (Nat.le_of_ble_eq_true rfl) (jst4 rfl rfl) rfl ?_
        refine J_bipush (v := (-20)) (pc' := 36) dX6_odds_34 (by decide) rfl ?_
        refine J_istore (pc' := 38) dX6_odds_36 (Nat.le_of_ble_eq_true rfl) (jst5 rfl rfl) rfl ?_
        have h9 := fun hq => l_odd (G := G) (Q := fun r' w' => r' = some (.int (sq_odds (abX w 1) (abX w 16) (restX w) (nI k) (nI N) p).1) ∧ BQ w w' (sq_odds (abX w 1) (abX w 16) (restX w) (nI k) (nI N) p).2) hX hI hN hR hk (p := p) hq 41 0 (by omega) w hX.2.2 (frF.rf 31 w)
        rw [tw_0] at h9
        refine h9 (fun v q2 q3 => ?_)
        unfold sq_odds
        have hC : sIsM (abX w 1) (nI k) ∧ (0 ≤ nI N ∧ nI N ≤ 40) ∧ (0 ≤ p ∧ p ≤ 1) := ⟨jb_n h_5, jb_n h_15, jb_n h_22⟩
        rw [if_pos hC, nn_nI (by omega), nn_nI (by omega)]
        exact ⟨rfl, bq_th hX q3 q2⟩
      · refine J_aload_n (pc' := 26) dX6_odds_25 rfl rfl ?_
        refine J_iconst (v := 1) (pc' := 27) dX6_odds_26 (by decide) rfl ?_
        refine J_V1v (pc' := 30) dX6_odds_27 lk_6_69 cd_X6_error (k_err1) (ly_0) (l84_0) rfl rfl (jroom_of rfl) (Nat.le_of_ble_eq_true rfl) rfl ?_
        exact J_iret dX6_odds_30  (by unfold sq_odds; rw [if_neg (fun q => by first | exact jb_0.mp h_5 q.1 | exact jb_0.mp h_15 q.2.1 | exact jb_0.mp h_22 q.2.2)]; exact ⟨rfl, bq_err hX (by decide)⟩)
