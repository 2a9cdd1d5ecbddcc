/-! ===== which kinds fit ===== -/
/-! ===== which kinds fit ===== -/
def sFt (r : sg) (s : Nat) (σ : sg) (k T : Nat) : Nat → Nat
  | 0 => 0
  | i + 1 => if sGa r s (sg1 σ 0 k (nI i)) T 0 = 0 then sFt r s σ k T i else sFt r s σ k T i ||| 2 ^ i
theorem sFt_lt (r : sg) (s : Nat) (σ : sg) (k T : Nat) : ∀ i, i ≤ 8 → sFt r s σ k T i < 256
  | 0, _ => by rw [sFt]; decide
  | i + 1, h => by
    have h1 := sFt_lt r s σ k T i (by omega)
    rw [sFt]
    split
    · exact h1
    · exact Nat.or_lt_two_pow (n := 8) h1 (Nat.pow_lt_pow_right (by decide) (by omega))
def sFit (F : Nat) (m : Int32) : Int32 := if m = 0 then nI F else nI (sBn F 8)
theorem kind_in : ∀ i, i < 7 → 0 ≤ (nI i).toInt ∧ (nI i).toInt ≤ 6 := by decide +kernel
set_option maxHeartbeats 4000000 in
set_option maxRecDepth 100000 in
theorem l_fts {G : jG} {w0 : jWd} (hX : XInv w0) (hI0 : sInv (abX w0 1)) (hR : sR (abX w0 1) ≤ 9999) {s T : Nat} (hs4 : s < 4) (hT : restX w0 7 s = nI T) (hT24 : T ≤ 24) {k : Nat} (hk : k < sM (abX w0 1)) {m : Int32} {Q : Option Value → jWd → Prop} (hQ : ∀ w, xB w 31 → frF 31 w0 w → Q (some (.int (sFit (sFt (restX w0) s (abX w0 1) k T 7) m))) w) : ∀ n i : Nat, i + n = 7 → ∀ w, xB w 31 → frF 31 w0 w → J G (jM G 7 RX6 cX6_fits 6 (some .int) (Q)) w 53 [some (.ref 0), some (.int (nI s)), some (.int (nI k)), some (.int m), some (.int (nI (sFt (restX w0) s (abX w0 1) k T i))), some (.int (nI i))] [] := by
  have h8 : k < 8 := Nat.lt_of_lt_of_le hk (sIM hI0).2
  intro n
  induction n with
  | zero =>
    intro i hi w h2 h3
    have ei : i = 7 := by omega
    subst ei
    have hq := hQ w h2 h3
    unfold sFit at hq
    refine J_iload (pc' := 55) dX6_fits_53 rfl rfl ?_
    refine J_bipush (v := 7) (pc' := 57) dX6_fits_55 (by decide) rfl ?_
    refine J_icmp_ge 105 (pc' := 60) dX6_fits_57 (by decide) rfl (fun h_57 => ?_) (fun h_57 => absurd (by rw [show (7 : Int32) = nI 7 from by decide]; exact nI_le (by omega) (by omega)) h_57)
    refine J_iload_n (pc' := 106) dX6_fits_105 rfl rfl ?_
    refine J_if_ne 114 (pc' := 109) dX6_fits_106 (by decide) rfl (fun h_106 => ?_) (fun h_106 => ?_)
    · refine J_iload (pc' := 116) dX6_fits_114 rfl rfl ?_
      refine J_S1v (pc' := 119) dX6_fits_116 lk_6_181 cd_J6_bitCount_0f7a4 (k_J6_bitCount_0f7a4) (jroom_of rfl) (Nat.le_of_ble_eq_true rfl) rfl ?_
      rw [sBc_n _ (sFt_lt _ _ _ _ _ 7 (by omega))]
      first | (rw [if_pos h_106] at hq; exact J_iret dX6_fits_119  hq) | (rw [if_neg h_106] at hq; exact J_iret dX6_fits_119  hq)
    · refine J_iload (pc' := 111) dX6_fits_109 rfl rfl ?_
      refine J_goto (pc' := 0) 119 dX6_fits_111 (by decide) ?_
      first | (rw [if_pos h_106] at hq; exact J_iret dX6_fits_119  hq) | (rw [if_neg h_106] at hq; exact J_iret dX6_fits_119  hq)
  | succ n ih =>
    intro i hi w h2 h3
    have eA : abX w 1 = abX w0 1 := abX_congr (fun a q1 q2 => h3.1 a (by omega) (by omega) (by omega))
    have hB1 : xB w 1 := xB_congr (fun a q1 q2 => h3.1 a (by omega) (by omega) (by omega)) hX.1
    have hI : sInv (abX w 1) := by rw [eA]; exact hI0
    have hF := sFt_lt (restX w0) s (abX w0 1) k T i (by omega)
    refine J_iload (pc' := 55) dX6_fits_53 rfl rfl ?_
    refine J_bipush (v := 7) (pc' := 57) dX6_fits_55 (by decide) rfl ?_
    refine J_icmp_ge 105 (pc' := 60) dX6_fits_57 (by decide) rfl (fun h_57 => absurd h_57 (by rw [show (7 : Int32) = nI 7 from by decide]; exact nI_ge (by omega) (by omega))) (fun h_57 => ?_)
    refine J_aload_n (pc' := 61) dX6_fits_60 rfl rfl ?_
    refine J_getR (pc' := 64) dX6_fits_61 fl_6_19 (ly_0) (l84_0) rfl rfl ?_
    refine J_aload_n (pc' := 65) dX6_fits_64 rfl rfl ?_
    refine J_getR (pc' := 68) dX6_fits_65 fl_6_12 (ly_0) (l84_0) rfl rfl ?_
    refine J_V1w (pc' := 71) dX6_fits_68 lk_6_229 cd_X0_copy (k_X0_copy jb31 jb1 (Or.inl ⟨rfl, rfl⟩) hI h2 hB1) (ly_31) (l84_31) rfl rfl (jroom_of rfl) (Nat.le_of_ble_eq_true rfl) rfl (fun w68 hw68 => ?_)
    obtain ⟨c1, c2, c3⟩ := hw68
    refine J_aload_n (pc' := 72) dX6_fits_71 rfl rfl ?_
    refine J_getR (pc' := 75) dX6_fits_72 fl_6_19 (ly_0) (l84_0) rfl rfl ?_
    refine J_getR (pc' := 78) dX6_fits_75 fl_6_84 (ly_31) (l84_31) rfl rfl ?_
    refine J_iload_n (pc' := 79) dX6_fits_78 rfl rfl ?_
    refine J_iload (pc' := 81) dX6_fits_79 rfl rfl ?_
    refine J_iast k (pc' := 82) dX6_fits_81 (ly_32) (l84_32) rfl h8 (by decide) rfl ?_
    have e4 : abX (jset w68 (31 + 1) k (nI i)) 31 = sg1 (abX w0 1) 0 k (nI i) := by rw [abX_s0 h8, c1, eA]
    have hB4 : xB (jset w68 (31 + 1) k (nI i)) 31 := xB_set c2 (Or.inl (by omega)) (Or.inl (by omega)) (Or.inl (by omega))
    have fF : frF 31 w0 (jset w68 (31 + 1) k (nI i)) := (h3.tr (frF.of c3)).set (by omega) (by omega)
    generalize (jset w68 (31 + 1) k (nI i)) = u at e4 hB4 fF ⊢
    have hI4 : sInv (abX u 31) := by rw [e4]; exact inv_0 hI0 (kind_in i (by omega))
    have eR : restX u = restX w0 := restX_congr (fun a q => fF.1 a (by omega) (by omega) (by omega))
    have hR4 : sR (abX u 31) ≤ 9999 := by rw [e4, sR_sg1 (Or.inl (by decide))]; exact hR
    have hT4 : restX u 7 s = nI T := by rw [eR]; exact hT
    refine J_aload_n (pc' := 83) dX6_fits_82 rfl rfl ?_
    refine J_iload_n (pc' := 84) dX6_fits_83 rfl rfl ?_
    refine J_V1p (pc' := 87) dX6_fits_84 lk_6_261 cd_X6_goesAsSheetTells (k_X6_goesAsSheetTells hI4 hB4 hR4 hs4 hT4 hT24) (ly_0) (l84_0) rfl rfl (jroom_of rfl) (Nat.le_of_ble_eq_true rfl) rfl (fun w84 hw84 => ?_)
    rw [e4, eR]
    refine J_if_eq 99 (pc' := 90) dX6_fits_87 (by decide) rfl (fun h_87 => ?_) (fun h_87 => ?_)
    · refine J_iinc (pc' := 102) dX6_fits_99 rfl (Nat.le_of_ble_eq_true rfl) (jst5 rfl rfl) rfl ?_
      refine J_goto (pc' := 0) 53 dX6_fits_102 (by decide) ?_
      have e : sFt (restX w0) s (abX w0 1) k T (i + 1) = sFt (restX w0) s (abX w0 1) k T i := by rw [sFt, if_pos h_87]
      have h5 := ih (i + 1) (by omega) w84 hw84.1 (fF.tr hw84.2)
      rw [e, ← z1 i] at h5
      exact h5
    · refine J_iload (pc' := 92) dX6_fits_90 rfl rfl ?_
      refine J_iconst (v := 1) (pc' := 93) dX6_fits_92 (by decide) rfl ?_
      refine J_iload (pc' := 95) dX6_fits_93 rfl rfl ?_
      refine J_ishl (pc' := 96) dX6_fits_95 rfl ?_
      refine J_ior (pc' := 97) dX6_fits_96 rfl ?_
      rw [zor8 _ hF i (by omega)]
      refine J_istore (pc' := 99) dX6_fits_97 (Nat.le_of_ble_eq_true rfl) (jst4 rfl rfl) rfl ?_
      refine J_iinc (pc' := 102) dX6_fits_99 rfl (Nat.le_of_ble_eq_true rfl) (jst5 rfl rfl) rfl ?_
      refine J_goto (pc' := 0) 53 dX6_fits_102 (by decide) ?_
      have e : sFt (restX w0) s (abX w0 1) k T (i + 1) = sFt (restX w0) s (abX w0 1) k T i ||| 2 ^ i := by rw [sFt, if_neg h_87]
      have h5 := ih (i + 1) (by omega) w84 hw84.1 (fF.tr hw84.2)
      rw [e, ← z1 i] at h5
      exact h5
def sq_fits (s k r : sg) (x : Int32) (y : Int32) (m : Int32) : sQI := if (0 ≤ x ∧ x ≤ 3) ∧ sIsM s y ∧ (0 ≤ m ∧ m ≤ 1) then (if r 6 (nn x) = 0 then (sErr 2, s, k, sEr r 2) else (sFit (sFt r (nn x) s (nn y) (nn (r 7 (nn x))) 7) m, s, k, r)) else (sErr 1, s, k, sEr r 1)
set_option maxHeartbeats 4000000 in
set_option maxRecDepth 100000 in
theorem a_X6_fits {G : jG} {w : jWd} (hX : XInv w) (hI : sInv (abX w 1)) (hR : sR (abX w 1) ≤ 9999) (hV : rInv (restX w)) {x : Int32} {y : Int32} {m : Int32} : jKp G 7 yX6_fits cX6_fits 6 (some .int) [.ref 0, .int x, .int y, .int m] w (some (.int (sq_fits (abX w 1) (abX w 16) (restX w) x y m).1)) (fun w' => BQ w w' (sq_fits (abX w 1) (abX w 16) (restX w) x y m).2) := by
  refine jK_of (own := RX6) [some (.ref 0), some (.int x), some (.int y), some (.int m), none, none] pn6 rfl (Nat.le_of_ble_eq_true rfl) rfl ?_
  refine J_iload_n (pc' := 1) dX6_fits_0 rfl rfl ?_
  refine J_S1v (pc' := 4) dX6_fits_1 lk_6_255 cd_X6_isSheet (k_X6_isSheet) (jroom_of rfl) (Nat.le_of_ble_eq_true rfl) rfl ?_
  refine J_if_eq 24 (pc' := 7) dX6_fits_4 (by decide) rfl (fun h_4 => ?_) (fun h_4 => ?_)
  · refine J_aload_n (pc' := 25) dX6_fits_24 rfl rfl ?_
    refine J_iconst (v := 1) (pc' := 26) dX6_fits_25 (by decide) rfl ?_
    refine J_V1v (pc' := 29) dX6_fits_26 lk_6_69 cd_X6_error (k_err1) (ly_0) (l84_0) rfl rfl (jroom_of rfl) (Nat.le_of_ble_eq_true rfl) rfl ?_
    exact J_iret dX6_fits_29  (by unfold sq_fits; rw [if_neg (fun q => by first | exact jb_0.mp h_4 q.1 | exact jb_0.mp h_12 q.2.1 | exact jb_0.mp h_21 q.2.2)]; exact ⟨rfl, bq_err hX (by decide)⟩)
  · refine J_aload_n (pc' := 8) dX6_fits_7 rfl rfl ?_
    refine J_iload_n (pc' := 9) dX6_fits_8 rfl rfl ?_
    refine J_V1v (pc' := 12) dX6_fits_9 lk_6_81 cd_X6_isMark (k_X6_isMark) (ly_0) (l84_0) rfl rfl (jroom_of rfl) (Nat.le_of_ble_eq_true rfl) rfl ?_
    refine J_if_eq 24 (pc' := 15) dX6_fits_12 (by decide) rfl (fun h_12 => ?_) (fun h_12 => ?_)
    · refine J_aload_n (pc' := 25) dX6_fits_24 rfl rfl ?_
      refine J_iconst (v := 1) (pc' := 26) dX6_fits_25 (by decide) rfl ?_
      refine J_V1v (pc' := 29) dX6_fits_26 lk_6_69 cd_X6_error (k_err1) (ly_0) (l84_0) rfl rfl (jroom_of rfl) (Nat.le_of_ble_eq_true rfl) rfl ?_
      exact J_iret dX6_fits_29  (by unfold sq_fits; rw [if_neg (fun q => by first | exact jb_0.mp h_4 q.1 | exact jb_0.mp h_12 q.2.1 | exact jb_0.mp h_21 q.2.2)]; exact ⟨rfl, bq_err hX (by decide)⟩)
    · refine J_iload_n (pc' := 16) dX6_fits_15 rfl rfl ?_
      refine J_iconst (v := 0) (pc' := 17) dX6_fits_16 (by decide) rfl ?_
      refine J_iconst (v := 1) (pc' := 18) dX6_fits_17 (by decide) rfl ?_
      refine J_S3v (pc' := 21) dX6_fits_18 lk_6_108 cd_X6_isWithin (k_X6_isWithin) (jroom_of rfl) (Nat.le_of_ble_eq_true rfl) rfl ?_
      refine J_if_ne 30 (pc' := 24) dX6_fits_21 (by decide) rfl (fun h_21 => ?_) (fun h_21 => ?_)
      · obtain ⟨s, hs3, rfl⟩ := rng0_ex (n := 3) (by omega) (jb_n h_4)
        have hs4 : s < 4 := by omega
        obtain ⟨k, hk, rfl⟩ := sIsM_ex hI (jb_n h_12)
        have h8 : k < 8 := Nat.lt_of_lt_of_le hk (sIM hI).2
        obtain ⟨⟨T, hT, hT24⟩, -⟩ := hV.2 s hs4
        have hTn : nn (restX w 7 s) = T := by rw [hT, nn_nI (by omega)]
        have hC : (0 ≤ nI s ∧ nI s ≤ 3) ∧ sIsM (abX w 1) (nI k) ∧ (0 ≤ m ∧ m ≤ 1) := ⟨jb_n h_4, jb_n h_12, jb_n h_21⟩
        refine J_aload_n (pc' := 31) dX6_fits_30 rfl rfl ?_
        refine J_getR (pc' := 34) dX6_fits_31 fl_6_52 (ly_0) (l84_0) rfl rfl ?_
        refine J_iload_n (pc' := 35) dX6_fits_34 rfl rfl ?_
        refine J_V1v (pc' := 38) dX6_fits_35 lk_6_258 cd_X3_isMissing (k_X3_isMissing hs4) (ly_59) (l84_59) rfl rfl (jroom_of rfl) (Nat.le_of_ble_eq_true rfl) rfl ?_
        refine J_if_eq 47 (pc' := 41) dX6_fits_38 (by decide) rfl (fun h_38 => ?_) (fun h_38 => ?_)
        · refine J_iconst (v := 0) (pc' := 48) dX6_fits_47 (by decide) rfl ?_
          refine J_istore (pc' := 50) dX6_fits_48 (Nat.le_of_ble_eq_true rfl) (jst4 rfl rfl) rfl ?_
          refine J_iconst (v := 0) (pc' := 51) dX6_fits_50 (by decide) rfl ?_
          refine J_istore (pc' := 53) dX6_fits_51 (Nat.le_of_ble_eq_true rfl) (jst5 rfl rfl) rfl ?_
          refine l_fts (w0 := w) hX hI hR hs4 hT hT24 hk (m := m) (fun v q2 q3 => ?_) 7 0 (by omega) w hX.2.2 (frF.rf 31 w)
          unfold sq_fits
          rw [if_pos hC, nn_nI (by omega), nn_nI (by omega), if_neg (jb_0.mp (by first | exact h_38 | exact Decidable.not_not.mp h_38)), hTn]
          dsimp only
          exact ⟨rfl, bq_th hX q3 q2⟩
        · refine J_aload_n (pc' := 42) dX6_fits_41 rfl rfl ?_
          refine J_iconst (v := 2) (pc' := 43) dX6_fits_42 (by decide) rfl ?_
          refine J_V1v (pc' := 46) dX6_fits_43 lk_6_69 cd_X6_error (k_err2) (ly_0) (l84_0) rfl rfl (jroom_of rfl) (Nat.le_of_ble_eq_true rfl) rfl ?_
          exact J_iret dX6_fits_46  (by unfold sq_fits; rw [if_pos hC, nn_nI (by omega), nn_nI (by omega), if_pos (jb_n (by first | exact h_38 | exact Decidable.not_not.mp h_38))]; exact ⟨rfl, bq_err hX (by decide)⟩)
      · refine J_aload_n (pc' := 25) dX6_fits_24 rfl rfl ?_
        refine J_iconst (v := 1) (pc' := 26) dX6_fits_25 (by decide) rfl ?_
        refine J_V1v (pc' := 29) dX6_fits_26 lk_6_69 cd_X6_error (k_err1) (ly_0) (l84_0) rfl rfl (jroom_of rfl) (Nat.le_of_ble_eq_true rfl) rfl ?_
        exact J_iret dX6_fits_29  (by unfold sq_fits; rw [if_neg (fun q => by first | exact jb_0.mp h_4 q.1 | exact jb_0.mp h_12 q.2.1 | exact jb_0.mp h_21 q.2.2)]; exact ⟨rfl, bq_err hX (by decide)⟩)
