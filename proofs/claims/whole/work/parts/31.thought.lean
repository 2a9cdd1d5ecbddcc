/-! ===== what is thought ===== -/
/-! ===== what is only thought ===== -/
theorem bq_th {w w2 : jWd} (hX : XInv w) (hf : frF 31 w w2) (hB : xB w2 31) : BQ w w2 (abX w 1, abX w 16, restX w) :=
  bq_gen hX (abX_congr (fun a q1 q2 => hf.1 a (by omega) (by omega) (by omega))) (xB_congr (fun a q1 q2 => hf.1 a (by omega) (by omega) (by omega)) hX.1) hB (fun a q => hf.1 a (by omega) (by omega) (by omega)) (fun a q => hf.2 a (by omega))
theorem rng0_ex {x : Int32} {n : Nat} (hn : n ≤ 1000000) (h : 0 ≤ x ∧ x ≤ nI n) : ∃ k, k ≤ n ∧ x = nI k := by
  have h0 := Int32.le_iff_toInt_le.mp h.1
  have h1 := Int32.le_iff_toInt_le.mp h.2
  rw [show (0 : Int32).toInt = 0 from by decide] at h0
  rw [nI_toInt (by omega)] at h1
  exact ⟨x.toInt.toNat, by omega, Int32.toInt_inj.mp (by rw [nI_toInt (by omega)]; omega)⟩
/-- what is told of a block that is thought -/
def sThn (σ : sg) (m : Int32) : Int32 := if m = 0 then nI (sCnt σ (sM σ)) else if m = 1 then nI (sSet σ) else σ 6 4
/-- how soon a mark is off -/
def sRu (σ : sg) (k : Nat) : Nat → Nat → Int32
  | 0, _ => -1
  | n + 1, r => if sGoN σ r 5 k = 1 then sRu σ k n (r + 1) else nI r
theorem sRu_neg {σ : sg} {k : Nat} : ∀ n r, n + r ≤ 1000000 → sRu σ k n r = -1 ∨ ∃ m, m ≤ 1000000 ∧ sRu σ k n r = nI m
  | 0, _, _ => Or.inl rfl
  | n + 1, r, h => by
    rw [sRu]
    split
    · exact sRu_neg n (r + 1) (by omega)
    · exact Or.inr ⟨r, by omega, rfl⟩
set_option maxHeartbeats 4000000 in
set_option maxRecDepth 100000 in
theorem l_thn {G : jG} {Q : Option Value → jWd → Prop} {w0 : jWd} {σ : sg} (hI0 : sInv σ) {N : Nat} (hN : N ≤ 60) (hR : sR σ ≤ 9999) {m : Int32} (hQ : ∀ w, xB w 31 → frF 31 w0 w → Q (some (.int (sThn (sGoN σ N) m))) w) : ∀ n i : Nat, i + n = N → ∀ w, abX w 31 = sGoN σ i → xB w 31 → frF 31 w0 w → J G (jM G 7 RX6 cX6_then 4 (some .int) (Q)) w 38 [some (.ref 0), some (.int (nI N)), some (.int m), some (.int (nI i))] [] := by
  intro n
  induction n with
  | zero =>
    intro i hi w h1 h2 h3
    have ei : i = N := by omega
    subst ei
    have hI : sInv (abX w 31) := by rw [h1]; exact (inv_goN hI0 i (by omega)).1
    have hRi : sR (abX w 31) < 1000000 := by rw [h1, (inv_goN hI0 i (by omega)).2.2.2]; omega
    obtain ⟨eS, hS⟩ := xB_on hI h2
    have e13 : w.1 31 13 = sGoN σ i 6 4 := by rw [← h1]; rfl
    have hq := hQ w h2 h3
    refine J_iload_n (pc' := 39) dX6_then_38 rfl rfl ?_
    refine J_iload_n (pc' := 40) dX6_then_39 rfl rfl ?_
    refine J_icmp_ge 60 (pc' := 43) dX6_then_40 (by decide) rfl (fun h_40 => ?_) (fun h_40 => absurd (nI_le (by omega) (by omega)) h_40)
    refine J_iload_n (pc' := 61) dX6_then_60 rfl rfl ?_
    refine J_if_ne 75 (pc' := 64) dX6_then_61 (by decide) rfl (fun h_61 => ?_) (fun h_61 => ?_)
    · refine J_iload_n (pc' := 76) dX6_then_75 rfl rfl ?_
      refine J_iconst (v := 1) (pc' := 77) dX6_then_76 (by decide) rfl ?_
      refine J_icmp_ne 90 (pc' := 80) dX6_then_77 (by decide) rfl (fun h_77 => ?_) (fun h_77 => ?_)
      · refine J_aload_n (pc' := 91) dX6_then_90 rfl rfl ?_
        refine J_getR (pc' := 94) dX6_then_91 fl_6_19 (ly_0) (l84_0) rfl rfl ?_
        refine J_getI (pc' := 97) dX6_then_94 fl_6_231 (ly_31) (l84_31) rfl rfl ?_
        rw [e13]
        first | (rw [sThn, if_pos h_61] at hq; exact J_iret dX6_then_97  hq) | (rw [sThn, if_neg h_61, if_pos (by first | exact h_77 | exact Decidable.not_not.mp h_77)] at hq; exact J_iret dX6_then_97  hq) | (rw [sThn, if_neg h_61, if_neg h_77] at hq; exact J_iret dX6_then_97  hq)
      · refine J_aload_n (pc' := 81) dX6_then_80 rfl rfl ?_
        refine J_getR (pc' := 84) dX6_then_81 fl_6_19 (ly_0) (l84_0) rfl rfl ?_
        refine J_getI (pc' := 87) dX6_then_84 fl_6_178 (ly_31) (l84_31) rfl rfl ?_
        rw [eS, h1]
        refine J_goto (pc' := 0) 97 dX6_then_87 (by decide) ?_
        first | (rw [sThn, if_pos h_61] at hq; exact J_iret dX6_then_97  hq) | (rw [sThn, if_neg h_61, if_pos (by first | exact h_77 | exact Decidable.not_not.mp h_77)] at hq; exact J_iret dX6_then_97  hq) | (rw [sThn, if_neg h_61, if_neg h_77] at hq; exact J_iret dX6_then_97  hq)
    · refine J_aload_n (pc' := 65) dX6_then_64 rfl rfl ?_
      refine J_getR (pc' := 68) dX6_then_65 fl_6_19 (ly_0) (l84_0) rfl rfl ?_
      refine J_getI (pc' := 71) dX6_then_68 fl_6_178 (ly_31) (l84_31) rfl rfl ?_
      refine J_S1v (pc' := 74) dX6_then_71 lk_6_181 cd_J6_bitCount_0f7a4 (k_J6_bitCount_0f7a4) (jroom_of rfl) (Nat.le_of_ble_eq_true rfl) rfl ?_
      rw [cnt_on hI h2, h1]
      first | (rw [sThn, if_pos h_61] at hq; exact J_iret dX6_then_74  hq) | (rw [sThn, if_neg h_61, if_pos (by first | exact h_77 | exact Decidable.not_not.mp h_77)] at hq; exact J_iret dX6_then_74  hq) | (rw [sThn, if_neg h_61, if_neg h_77] at hq; exact J_iret dX6_then_74  hq)
  | succ n ih =>
    intro i hi w h1 h2 h3
    have hI : sInv (abX w 31) := by rw [h1]; exact (inv_goN hI0 i (by omega)).1
    have hRi : sR (abX w 31) < 1000000 := by rw [h1, (inv_goN hI0 i (by omega)).2.2.2]; omega
    refine J_iload_n (pc' := 39) dX6_then_38 rfl rfl ?_
    refine J_iload_n (pc' := 40) dX6_then_39 rfl rfl ?_
    refine J_icmp_ge 60 (pc' := 43) dX6_then_40 (by decide) rfl (fun h_40 => absurd h_40 (nI_ge (by omega) (by omega))) (fun h_40 => ?_)
    refine J_aload_n (pc' := 44) dX6_then_43 rfl rfl ?_
    refine J_getR (pc' := 47) dX6_then_44 fl_6_38 (ly_0) (l84_0) rfl rfl ?_
    refine J_aload_n (pc' := 48) dX6_then_47 rfl rfl ?_
    refine J_getR (pc' := 51) dX6_then_48 fl_6_19 (ly_0) (l84_0) rfl rfl ?_
    refine J_V1w (pc' := 54) dX6_then_51 lk_6_174 cd_X1_passRound (k_X1_passRound jb31 hI h2) (ly_48) (l84_48) rfl rfl (jroom_of rfl) (Nat.le_of_ble_eq_true rfl) rfl (fun w51 hw51 => ?_)
    refine J_iinc (pc' := 57) dX6_then_54 rfl (Nat.le_of_ble_eq_true rfl) (jst3 rfl rfl) rfl ?_
    refine J_goto (pc' := 0) 38 dX6_then_57 (by decide) ?_
    obtain ⟨q1, q2, q3⟩ := hw51
    have h4 := ih (i + 1) (by omega) w51 (by rw [q1, h1]; rfl) q2 (h3.tr q3)
    rw [← z1 i] at h4
    exact h4
def sq_then (s k r : sg) (n : Int32) (m : Int32) : sQI := if (0 ≤ n ∧ n ≤ 60) ∧ (0 ≤ m ∧ m ≤ 2) then (sThn (sGoN s (nn n)) m, s, k, r) else (sErr 1, s, k, sEr r 1)
set_option maxHeartbeats 4000000 in
set_option maxRecDepth 100000 in
theorem a_X6_then {G : jG} {w : jWd} (hX : XInv w) (hI : sInv (abX w 1)) (hR : sR (abX w 1) ≤ 9999) {n : Int32} {m : Int32} : jKp G 7 yX6_then cX6_then 4 (some .int) [.ref 0, .int n, .int m] w (some (.int (sq_then (abX w 1) (abX w 16) (restX w) n m).1)) (fun w' => BQ w w' (sq_then (abX w 1) (abX w 16) (restX w) n m).2) := by
  refine jK_of (own := RX6) [some (.ref 0), some (.int n), some (.int m), none] pn6 rfl (Nat.le_of_ble_eq_true rfl) rfl ?_
  refine J_iload_n (pc' := 1) dX6_then_0 rfl rfl ?_
  refine J_iconst (v := 0) (pc' := 2) dX6_then_1 (by decide) rfl ?_
  refine J_bipush (v := 60) (pc' := 4) dX6_then_2 (by decide) rfl ?_
  refine J_S3v (pc' := 7) dX6_then_4 lk_6_108 cd_X6_isWithin (k_X6_isWithin) (jroom_of rfl) (Nat.le_of_ble_eq_true rfl) rfl ?_
  refine J_if_eq 19 (pc' := 10) dX6_then_7 (by decide) rfl (fun h_7 => ?_) (fun h_7 => ?_)
  · refine J_aload_n (pc' := 20) dX6_then_19 rfl rfl ?_
    refine J_iconst (v := 1) (pc' := 21) dX6_then_20 (by decide) rfl ?_
    refine J_V1v (pc' := 24) dX6_then_21 lk_6_69 cd_X6_error (k_err1) (ly_0) (l84_0) rfl rfl (jroom_of rfl) (Nat.le_of_ble_eq_true rfl) rfl ?_
    exact J_iret dX6_then_24  (by unfold sq_then; rw [if_neg (fun q => by first | exact jb_0.mp h_7 q.1 | exact jb_0.mp h_16 q.2)]; exact ⟨rfl, bq_err hX (by decide)⟩)
  · refine J_iload_n (pc' := 11) dX6_then_10 rfl rfl ?_
    refine J_iconst (v := 0) (pc' := 12) dX6_then_11 (by decide) rfl ?_
    refine J_iconst (v := 2) (pc' := 13) dX6_then_12 (by decide) rfl ?_
    refine J_S3v (pc' := 16) dX6_then_13 lk_6_108 cd_X6_isWithin (k_X6_isWithin) (jroom_of rfl) (Nat.le_of_ble_eq_true rfl) rfl ?_
    refine J_if_ne 25 (pc' := 19) dX6_then_16 (by decide) rfl (fun h_16 => ?_) (fun h_16 => ?_)
    · obtain ⟨N, hN, rfl⟩ := rng0_ex (n := 60) (by omega) (jb_n h_7)
      refine J_aload_n (pc' := 26) dX6_then_25 rfl rfl ?_
      refine J_getR (pc' := 29) dX6_then_26 fl_6_19 (ly_0) (l84_0) rfl rfl ?_
      refine J_aload_n (pc' := 30) dX6_then_29 rfl rfl ?_
      refine J_getR (pc' := 33) dX6_then_30 fl_6_12 (ly_0) (l84_0) rfl rfl ?_
      refine J_V1w (pc' := 36) dX6_then_33 lk_6_229 cd_X0_copy (k_X0_copy jb31 jb1 (Or.inl ⟨rfl, rfl⟩) hI hX.2.2 hX.1) (ly_31) (l84_31) rfl rfl (jroom_of rfl) (Nat.le_of_ble_eq_true rfl) rfl (fun w33 hw33 => ?_)
      obtain ⟨c1, c2, c3⟩ := hw33
      have hI31 : sInv (abX w33 31) := by rw [c1]; exact hI
      refine J_iconst (v := 0) (pc' := 37) dX6_then_36 (by decide) rfl ?_
      refine J_istore_n (pc' := 38) dX6_then_37 (Nat.le_of_ble_eq_true rfl) (jst3 rfl rfl) rfl ?_
      refine l_thn (w0 := w) hI hN hR (fun v q2 q3 => ?_) N 0 (by omega) w33 c1 c2 (frF.of c3)
      unfold sq_then
      have hC : (0 ≤ nI N ∧ nI N ≤ 60) ∧ (0 ≤ m ∧ m ≤ 2) := ⟨jb_n h_7, jb_n h_16⟩
      rw [if_pos hC, nn_nI (by omega)]
      exact ⟨rfl, bq_th hX q3 q2⟩
    · refine J_aload_n (pc' := 20) dX6_then_19 rfl rfl ?_
      refine J_iconst (v := 1) (pc' := 21) dX6_then_20 (by decide) rfl ?_
      refine J_V1v (pc' := 24) dX6_then_21 lk_6_69 cd_X6_error (k_err1) (ly_0) (l84_0) rfl rfl (jroom_of rfl) (Nat.le_of_ble_eq_true rfl) rfl ?_
      exact J_iret dX6_then_24  (by unfold sq_then; rw [if_neg (fun q => by first | exact jb_0.mp h_7 q.1 | exact jb_0.mp h_16 q.2)]; exact ⟨rfl, bq_err hX (by decide)⟩)
set_option maxHeartbeats 4000000 in
set_option maxRecDepth 100000 in
theorem l_ruo {G : jG} {w0 : jWd} {σ : sg} (hI0 : sInv σ) {N : Nat} (hN : N ≤ 60) (hR : sR σ ≤ 9999) {k : Nat} (hk : k < 8) : ∀ n i : Nat, i + n = N → ∀ w, abX w 31 = sGoN σ i → xB w 31 → frF 31 w0 w → sRu σ k (N + 1) 0 = sRu σ k n (i + 1) → J G (jM G 6 RX6 cX6_roundsUntilOff 4 (some .int) ((fun r' w' => r' = some (.int (sRu σ k (N + 1) 0)) ∧ (xB w' 31 ∧ frF 31 w0 w')))) w 15 [some (.ref 0), some (.int (nI k)), some (.int (nI N)), some (.int (nI (i + 1)))] [] := by
  intro n
  induction n with
  | zero =>
    intro i hi w h1 h2 h3 h4
    have ei : i = N := by omega
    subst ei
    refine J_iload_n (pc' := 16) dX6_roundsUntilOff_15 rfl rfl ?_
    refine J_iload_n (pc' := 17) dX6_roundsUntilOff_16 rfl rfl ?_
    refine J_icmp_gt 50 (pc' := 20) dX6_roundsUntilOff_17 (by decide) rfl (fun h_17 => ?_) (fun h_17 => absurd (nI_lt (by omega) (by omega)) h_17)
    refine J_iconst (v := -1) (pc' := 51) dX6_roundsUntilOff_50 (by decide) rfl ?_
    exact J_iret dX6_roundsUntilOff_51  ⟨by rw [h4]; rfl, h2, h3⟩
  | succ n ih =>
    intro i hi w h1 h2 h3 h4
    have hI : sInv (abX w 31) := by rw [h1]; exact (inv_goN hI0 i (by omega)).1
    have hRi : sR (abX w 31) < 1000000 := by rw [h1, (inv_goN hI0 i (by omega)).2.2.2]; omega
    refine J_iload_n (pc' := 16) dX6_roundsUntilOff_15 rfl rfl ?_
    refine J_iload_n (pc' := 17) dX6_roundsUntilOff_16 rfl rfl ?_
    refine J_icmp_gt 50 (pc' := 20) dX6_roundsUntilOff_17 (by decide) rfl (fun h_17 => absurd h_17 (nI_nlt (by omega) (by omega))) (fun h_17 => ?_)
    refine J_aload_n (pc' := 21) dX6_roundsUntilOff_20 rfl rfl ?_
    refine J_getR (pc' := 24) dX6_roundsUntilOff_21 fl_6_38 (ly_0) (l84_0) rfl rfl ?_
    refine J_aload_n (pc' := 25) dX6_roundsUntilOff_24 rfl rfl ?_
    refine J_getR (pc' := 28) dX6_roundsUntilOff_25 fl_6_19 (ly_0) (l84_0) rfl rfl ?_
    refine J_V1w (pc' := 31) dX6_roundsUntilOff_28 lk_6_174 cd_X1_passRound (k_X1_passRound jb31 hI h2) (ly_48) (l84_48) rfl rfl (jroom_of rfl) (Nat.le_of_ble_eq_true rfl) rfl (fun w28 hw28 => ?_)
    refine J_aload_n (pc' := 32) dX6_roundsUntilOff_31 rfl rfl ?_
    refine J_getR (pc' := 35) dX6_roundsUntilOff_32 fl_6_19 (ly_0) (l84_0) rfl rfl ?_
    refine J_iload_n (pc' := 36) dX6_roundsUntilOff_35 rfl rfl ?_
    refine J_V1v (pc' := 39) dX6_roundsUntilOff_36 lk_6_99 cd_X0_isOn (k_X0_isOn jb31 hk) (ly_31) (l84_31) rfl rfl (jroom_of rfl) (Nat.le_of_ble_eq_true rfl) rfl ?_
    refine J_if_ne 44 (pc' := 42) dX6_roundsUntilOff_39 (by decide) rfl (fun h_39 => ?_) (fun h_39 => ?_)
    · refine J_iinc (pc' := 47) dX6_roundsUntilOff_44 rfl (Nat.le_of_ble_eq_true rfl) (jst3 rfl rfl) rfl ?_
      refine J_goto (pc' := 0) 15 dX6_roundsUntilOff_47 (by decide) ?_
      obtain ⟨q1, q2, q3⟩ := hw28
      have e1 : abX w28 31 = sGoN σ (i + 1) := by rw [q1, h1]; rfl
      have h5 := ih (i + 1) (by omega) w28 e1 q2 (h3.tr q3) (by rw [h4, sRu, if_pos (by rw [← e1]; exact jb_n (by first | exact h_39 | exact Decidable.not_not.mp h_39))])
      rw [← z1 (i + 1)] at h5
      exact h5
    · refine J_iload_n (pc' := 43) dX6_roundsUntilOff_42 rfl rfl ?_
      obtain ⟨q1, q2, q3⟩ := hw28
      have e1 : abX w28 31 = sGoN σ (i + 1) := by rw [q1, h1]; rfl
      exact J_iret dX6_roundsUntilOff_43  ⟨by rw [h4, sRu, if_neg (by rw [← e1]; exact jb_0.mp (by first | exact h_39 | exact Decidable.not_not.mp h_39))], q2, h3.tr q3⟩
set_option maxHeartbeats 4000000 in
set_option maxRecDepth 100000 in
theorem k_X6_roundsUntilOff {G : jG} {w : jWd} (hI : sInv (abX w 31)) (hB : xB w 31) {N : Nat} (hN : N ≤ 60) (hR : sR (abX w 31) ≤ 9999) {k : Nat} (hk : k < 8) : jKp G 6 yX6_roundsUntilOff cX6_roundsUntilOff 4 (some .int) [.ref 0, .int (nI k), .int (nI N)] w (some (.int (sRu (abX w 31) k (N + 1) 0))) (fun w' => xB w' 31 ∧ frF 31 w w') := by
  refine jK_of (own := RX6) [some (.ref 0), some (.int (nI k)), some (.int (nI N)), none] pn6 rfl (Nat.le_of_ble_eq_true rfl) rfl ?_
  refine J_aload_n (pc' := 1) dX6_roundsUntilOff_0 rfl rfl ?_
  refine J_getR (pc' := 4) dX6_roundsUntilOff_1 fl_6_19 (ly_0) (l84_0) rfl rfl ?_
  refine J_iload_n (pc' := 5) dX6_roundsUntilOff_4 rfl rfl ?_
  refine J_V1v (pc' := 8) dX6_roundsUntilOff_5 lk_6_99 cd_X0_isOn (k_X0_isOn jb31 hk) (ly_31) (l84_31) rfl rfl (jroom_of rfl) (Nat.le_of_ble_eq_true rfl) rfl ?_
  refine J_if_ne 13 (pc' := 11) dX6_roundsUntilOff_8 (by decide) rfl (fun h_8 => ?_) (fun h_8 => ?_)
  · refine J_iconst (v := 1) (pc' := 14) dX6_roundsUntilOff_13 (by decide) rfl ?_
    refine J_istore_n (pc' := 15) dX6_roundsUntilOff_14 (Nat.le_of_ble_eq_true rfl) (jst3 rfl rfl) rfl ?_
    refine l_ruo (w0 := w) hI hN hR hk N 0 (by omega) w rfl hB (frF.rf 31 w) ?_
    rw [sRu, if_pos (show sGoN (abX w 31) 0 5 k = 1 from jb_n (by first | exact h_8 | exact Decidable.not_not.mp h_8))]
  · refine J_iconst (v := 0) (pc' := 12) dX6_roundsUntilOff_11 (by decide) rfl ?_
    exact J_iret dX6_roundsUntilOff_12  ⟨by rw [sRu, if_neg (show ¬ sGoN (abX w 31) 0 5 k = 1 from jb_0.mp (by first | exact h_8 | exact Decidable.not_not.mp h_8))]; rfl, hB, frF.rf 31 w⟩
def sq_soonest (s k r : sg) (x : Int32) : sQI := if sIsM s x then (if 0 ≤ sRu s (nn x) 61 0 then (sRu s (nn x) 61 0, s, k, r) else (sErr 2, s, k, sEr r 2)) else (sErr 1, s, k, sEr r 1)
set_option maxHeartbeats 4000000 in
set_option maxRecDepth 100000 in
theorem a_X6_soonest {G : jG} {w : jWd} (hX : XInv w) (hI : sInv (abX w 1)) (hR : sR (abX w 1) ≤ 9999) {x : Int32} : jKp G 7 yX6_soonest cX6_soonest 3 (some .int) [.ref 0, .int x] w (some (.int (sq_soonest (abX w 1) (abX w 16) (restX w) x).1)) (fun w' => BQ w w' (sq_soonest (abX w 1) (abX w 16) (restX w) x).2) := by
  refine jK_of (own := RX6) [some (.ref 0), some (.int x), none] pn6 rfl (Nat.le_of_ble_eq_true rfl) rfl ?_
  refine J_aload_n (pc' := 1) dX6_soonest_0 rfl rfl ?_
  refine J_iload_n (pc' := 2) dX6_soonest_1 rfl rfl ?_
  refine J_V1v (pc' := 5) dX6_soonest_2 lk_6_81 cd_X6_isMark (k_X6_isMark) (ly_0) (l84_0) rfl rfl (jroom_of rfl) (Nat.le_of_ble_eq_true rfl) rfl ?_
  refine J_if_ne 14 (pc' := 8) dX6_soonest_5 (by decide) rfl (fun h_5 => ?_) (fun h_5 => ?_)
  · obtain ⟨k, hk, rfl⟩ := sIsM_ex hI (jb_n h_5)
    have h8 : k < 8 := Nat.lt_of_lt_of_le hk (sIM hI).2
    refine J_aload_n (pc' := 15) dX6_soonest_14 rfl rfl ?_
    refine J_getR (pc' := 18) dX6_soonest_15 fl_6_19 (ly_0) (l84_0) rfl rfl ?_
    refine J_aload_n (pc' := 19) dX6_soonest_18 rfl rfl ?_
    refine J_getR (pc' := 22) dX6_soonest_19 fl_6_12 (ly_0) (l84_0) rfl rfl ?_
    refine J_V1w (pc' := 25) dX6_soonest_22 lk_6_229 cd_X0_copy (k_X0_copy jb31 jb1 (Or.inl ⟨rfl, rfl⟩) hI hX.2.2 hX.1) (ly_31) (l84_31) rfl rfl (jroom_of rfl) (Nat.le_of_ble_eq_true rfl) rfl (fun w22 hw22 => ?_)
    obtain ⟨c1, c2, c3⟩ := hw22
    have hI31 : sInv (abX w22 31) := by rw [c1]; exact hI
    refine J_aload_n (pc' := 26) dX6_soonest_25 rfl rfl ?_
    refine J_iload_n (pc' := 27) dX6_soonest_26 rfl rfl ?_
    refine J_bipush (v := 60) (pc' := 29) dX6_soonest_27 (by decide) rfl ?_
    refine J_V2p (pc' := 32) dX6_soonest_29 lk_6_234 cd_X6_roundsUntilOff (k_X6_roundsUntilOff hI31 c2 (N := 60) (by omega) (by rw [c1]; exact hR) h8) (ly_0) (l84_0) rfl rfl (jroom_of rfl) (Nat.le_of_ble_eq_true rfl) rfl (fun w29 hw29 => ?_)
    rw [c1]
    refine J_istore_n (pc' := 33) dX6_soonest_32 (Nat.le_of_ble_eq_true rfl) (jst2 rfl rfl) rfl ?_
    refine J_iload_n (pc' := 34) dX6_soonest_33 rfl rfl ?_
    refine J_if_lt 41 (pc' := 37) dX6_soonest_34 (by decide) rfl (fun h_34 => ?_) (fun h_34 => ?_)
    · refine J_aload_n (pc' := 42) dX6_soonest_41 rfl rfl ?_
      refine J_iconst (v := 2) (pc' := 43) dX6_soonest_42 (by decide) rfl ?_
      refine J_V1v (pc' := 46) dX6_soonest_43 lk_6_69 cd_X6_error (k_err2) (ly_0) (l84_0) rfl rfl (jroom_of rfl) (Nat.le_of_ble_eq_true rfl) rfl ?_
      first | exact J_iret dX6_soonest_46  (by unfold sq_soonest; rw [if_pos (show sIsM (abX w 1) (nI k) from jb_n h_5), nn_nI (by omega), if_pos (Int32.not_lt.mp h_34)]; exact ⟨rfl, bq_th hX ((frF.of c3).tr hw29.2) hw29.1⟩) | exact J_iret dX6_soonest_46  (by unfold sq_soonest; rw [if_pos (show sIsM (abX w 1) (nI k) from jb_n h_5), nn_nI (by omega), if_neg (Int32.not_le.mpr h_34)]; exact ⟨rfl, bq_err2 (bq_th hX ((frF.of c3).tr hw29.2) hw29.1) (by decide)⟩)
    · refine J_iload_n (pc' := 38) dX6_soonest_37 rfl rfl ?_
      refine J_goto (pc' := 0) 46 dX6_soonest_38 (by decide) ?_
      first | exact J_iret dX6_soonest_46  (by unfold sq_soonest; rw [if_pos (show sIsM (abX w 1) (nI k) from jb_n h_5), nn_nI (by omega), if_pos (Int32.not_lt.mp h_34)]; exact ⟨rfl, bq_th hX ((frF.of c3).tr hw29.2) hw29.1⟩) | exact J_iret dX6_soonest_46  (by unfold sq_soonest; rw [if_pos (show sIsM (abX w 1) (nI k) from jb_n h_5), nn_nI (by omega), if_neg (Int32.not_le.mpr h_34)]; exact ⟨rfl, bq_err2 (bq_th hX ((frF.of c3).tr hw29.2) hw29.1) (by decide)⟩)
  · refine J_aload_n (pc' := 9) dX6_soonest_8 rfl rfl ?_
    refine J_iconst (v := 1) (pc' := 10) dX6_soonest_9 (by decide) rfl ?_
    refine J_V1v (pc' := 13) dX6_soonest_10 lk_6_69 cd_X6_error (k_err1) (ly_0) (l84_0) rfl rfl (jroom_of rfl) (Nat.le_of_ble_eq_true rfl) rfl ?_
    exact J_iret dX6_soonest_13  (by unfold sq_soonest; rw [if_neg (fun q => by first | exact jb_0.mp h_5 q)]; exact ⟨rfl, bq_err hX (by decide)⟩)
