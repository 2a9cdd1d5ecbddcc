/-! ===== a sheet tells ===== -/
/-! ===== a sheet tells ===== -/
set_option maxHeartbeats 4000000 in
set_option maxRecDepth 100000 in
theorem l_tls {G : jG} {w0 : jWd} {Q : Option Value → jWd → Prop} {s : Nat} (hs4 : s < 4) {m : Nat} (hm8 : m ≤ 8) {R : Int32 × sg} (hQ : ∀ w, abX w 1 = R.2 → xB w 1 → frB 1 w0 w → Q (some (.int R.1)) w) : ∀ n i : Nat, i + n = m → ∀ w, xB w 1 → frB 1 w0 w → R = sTel (restX w0) s n i (abX w 1) → J G (jM G 2 RX6 cX6_tells 5 (some .int) (Q)) w 52 [some (.ref 0), some (.int (nI s)), some (.int (nI m)), some (.int (nI i)), none] [] := by
  intro n
  induction n with
  | zero =>
    intro i hi w h2 h3 h4
    have ei : i = m := by omega
    subst ei
    have hq := hQ w (by rw [h4, sTel]) h2 h3
    refine J_iload_n (pc' := 53) dX6_tells_52 rfl rfl ?_
    refine J_iload_n (pc' := 54) dX6_tells_53 rfl rfl ?_
    refine J_icmp_ge 97 (pc' := 57) dX6_tells_54 (by decide) rfl (fun h_54 => ?_) (fun h_54 => absurd (nI_le (by omega) (by omega)) h_54)
    refine J_iload_n (pc' := 98) dX6_tells_97 rfl rfl ?_
    rw [h4, sTel] at hq
    dsimp only at hq
    exact J_iret dX6_tells_98  hq
  | succ n ih =>
    intro i hi w h2 h3 h4
    have h8 : i < 8 := by omega
    have ev : w.1 (61 + s) i = restX w0 (2 + s) i := by rw [h3.1 (61 + s) (by omega)]; exact rx_2 hs4 (by omega)
    refine J_iload_n (pc' := 53) dX6_tells_52 rfl rfl ?_
    refine J_iload_n (pc' := 54) dX6_tells_53 rfl rfl ?_
    refine J_icmp_ge 97 (pc' := 57) dX6_tells_54 (by decide) rfl (fun h_54 => absurd h_54 (nI_ge (by omega) (by omega))) (fun h_54 => ?_)
    refine J_aload_n (pc' := 58) dX6_tells_57 rfl rfl ?_
    refine J_getR (pc' := 61) dX6_tells_58 fl_6_52 (ly_0) (l84_0) rfl rfl ?_
    refine J_getR (pc' := 64) dX6_tells_61 fl_6_294 (ly_59) (l84_59) rfl rfl ?_
    refine J_iload_n (pc' := 65) dX6_tells_64 rfl rfl ?_
    refine J_aald s (pc' := 66) dX6_tells_65 (ly_60) (Or.inr (Or.inl rfl)) (l84_60) rfl (row61 hs4) (by omega) (by decide) rfl ?_
    refine J_iload_n (pc' := 67) dX6_tells_66 rfl rfl ?_
    refine J_iald i (pc' := 68) dX6_tells_67 (ly61 hs4) (l8461 hs4) rfl (by omega) (by decide) rfl ?_
    rw [ev]
    refine J_istore (pc' := 70) dX6_tells_68 (Nat.le_of_ble_eq_true rfl) (jst4 rfl rfl) rfl ?_
    refine J_iload (pc' := 72) dX6_tells_70 rfl rfl ?_
    refine J_S1v (pc' := 75) dX6_tells_72 lk_6_66 cd_X6_isTold (k_X6_isTold) (jroom_of rfl) (Nat.le_of_ble_eq_true rfl) rfl ?_
    refine J_if_ne 80 (pc' := 78) dX6_tells_75 (by decide) rfl (fun h_75 => ?_) (fun h_75 => ?_)
    · refine J_aload_n (pc' := 81) dX6_tells_80 rfl rfl ?_
      refine J_getR (pc' := 84) dX6_tells_81 fl_6_12 (ly_0) (l84_0) rfl rfl ?_
      refine J_getR (pc' := 87) dX6_tells_84 fl_6_96 (ly_1) (l84_1) rfl rfl ?_
      refine J_iload_n (pc' := 88) dX6_tells_87 rfl rfl ?_
      refine J_iload (pc' := 90) dX6_tells_88 rfl rfl ?_
      refine J_iast i (pc' := 91) dX6_tells_90 (ly_6) (l84_6) rfl h8 (by decide) rfl ?_
      refine J_iinc (pc' := 94) dX6_tells_91 rfl (Nat.le_of_ble_eq_true rfl) (jst3 rfl rfl) rfl ?_
      refine J_goto (pc' := 0) 52 dX6_tells_94 (by decide) ?_
      have hp : -20 ≤ restX w0 (2 + s) i ∧ restX w0 (2 + s) i ≤ 20 := (jb_n (by first | exact h_75 | exact Decidable.not_not.mp h_75))
      have h5 := ih (i + 1) (by omega) (jset w (1 + 5) i (restX w0 (2 + s) i)) (xB_set h2 (Or.inl (by omega)) (Or.inl (by omega)) (Or.inl (by omega))) (h3.set (by omega) (by omega)) (by rw [h4, sTel, if_pos hp, abX_s4 h8])
      rw [← z1 i] at h5
      exact J_mask [true, true, true, true, false] h5
    · refine J_iload_n (pc' := 79) dX6_tells_78 rfl rfl ?_
      have hp : ¬ (-20 ≤ restX w0 (2 + s) i ∧ restX w0 (2 + s) i ≤ 20) := (jb_0.mp (by first | exact h_75 | exact Decidable.not_not.mp h_75))
      have e5 : R = (nI i, abX w 1) := by rw [h4, sTel, if_neg hp]
      have hq := hQ w (by rw [e5]) h2 h3
      rw [e5] at hq
      exact J_iret dX6_tells_79  hq
def sq_tells (s k r : sg) (x : Int32) : sQI := if 0 ≤ x ∧ x ≤ 3 then (if r 6 (nn x) = 0 then (sErr 2, s, k, sEr r 2) else ((sTel r (nn x) (sTelN r s (nn x)) 0 s).1, (sTel r (nn x) (sTelN r s (nn x)) 0 s).2, k, r)) else (sErr 1, s, k, sEr r 1)
set_option maxHeartbeats 4000000 in
set_option maxRecDepth 100000 in
theorem a_X6_tells {G : jG} {w : jWd} (hX : XInv w) (hI : sInv (abX w 1)) (hR : rInv (restX w)) {x : Int32} : jKp G 2 yX6_tells cX6_tells 5 (some .int) [.ref 0, .int x] w (some (.int (sq_tells (abX w 1) (abX w 16) (restX w) x).1)) (fun w' => BQ w w' (sq_tells (abX w 1) (abX w 16) (restX w) x).2) := by
  refine jK_of (own := RX6) [some (.ref 0), some (.int x), none, none, none] pn6 rfl (Nat.le_of_ble_eq_true rfl) rfl ?_
  refine J_iload_n (pc' := 1) dX6_tells_0 rfl rfl ?_
  refine J_S1v (pc' := 4) dX6_tells_1 lk_6_255 cd_X6_isSheet (k_X6_isSheet) (jroom_of rfl) (Nat.le_of_ble_eq_true rfl) rfl ?_
  refine J_if_ne 13 (pc' := 7) dX6_tells_4 (by decide) rfl (fun h_4 => ?_) (fun h_4 => ?_)
  · obtain ⟨s, hs3, rfl⟩ := rng0_ex (n := 3) (by omega) (jb_n h_4)
    have hs4 : s < 4 := by omega
    obtain ⟨⟨T, hT, hT24⟩, -⟩ := hR.2 s hs4
    have hM : w.1 1 8 = nI (sM (abX w 1)) := (sIM hI).1
    have hM8 := (sIM hI).2
    have hTn : nn (restX w 7 s) = T := by rw [hT, nn_nI (by omega)]
    obtain ⟨mE, m1, m2⟩ := mmin_nI (a := T) (b := sM (abX w 1)) (by omega) (by omega)
    have eT : sTelN (restX w) (abX w 1) s = Nat.min (sM (abX w 1)) T := by unfold sTelN; rw [hTn]
    generalize hTm : Nat.min (sM (abX w 1)) T = m at mE m1 m2 eT
    refine J_aload_n (pc' := 14) dX6_tells_13 rfl rfl ?_
    refine J_getR (pc' := 17) dX6_tells_14 fl_6_52 (ly_0) (l84_0) rfl rfl ?_
    refine J_iload_n (pc' := 18) dX6_tells_17 rfl rfl ?_
    refine J_V1v (pc' := 21) dX6_tells_18 lk_6_258 cd_X3_isMissing (k_X3_isMissing hs4) (ly_59) (l84_59) rfl rfl (jroom_of rfl) (Nat.le_of_ble_eq_true rfl) rfl ?_
    refine J_if_eq 30 (pc' := 24) dX6_tells_21 (by decide) rfl (fun h_21 => ?_) (fun h_21 => ?_)
    · refine J_aload_n (pc' := 31) dX6_tells_30 rfl rfl ?_
      refine J_getR (pc' := 34) dX6_tells_31 fl_6_52 (ly_0) (l84_0) rfl rfl ?_
      refine J_getR (pc' := 37) dX6_tells_34 fl_6_282 (ly_59) (l84_59) rfl rfl ?_
      refine J_iload_n (pc' := 38) dX6_tells_37 rfl rfl ?_
      refine J_iald s (pc' := 39) dX6_tells_38 (ly_66) (l84_66) rfl hs4 (by decide) rfl ?_
      rw [rx_7 hs4, hT]
      refine J_aload_n (pc' := 40) dX6_tells_39 rfl rfl ?_
      refine J_getR (pc' := 43) dX6_tells_40 fl_6_12 (ly_0) (l84_0) rfl rfl ?_
      refine J_getI (pc' := 46) dX6_tells_43 fl_6_73 (ly_1) (l84_1) rfl rfl ?_
      rw [hM]
      refine J_mmin (pc' := 49) dX6_tells_46 lm_6_304 rfl rfl ?_
      rw [mE]
      refine J_istore_n (pc' := 50) dX6_tells_49 (Nat.le_of_ble_eq_true rfl) (jst2 rfl rfl) rfl ?_
      refine J_iconst (v := 0) (pc' := 51) dX6_tells_50 (by decide) rfl ?_
      refine J_istore_n (pc' := 52) dX6_tells_51 (Nat.le_of_ble_eq_true rfl) (jst3 rfl rfl) rfl ?_
      refine J_mask [true, true, true, true, false] (l_tls (w0 := w) hs4 (by omega) (R := sTel (restX w) s m 0 (abX w 1)) (fun v q1 q2 q3 => ?_) m 0 (by omega) w hX.1 (frB.rf 1 w) rfl)
      unfold sq_tells
      rw [if_pos (jb_n h_4), nn_nI (by omega), if_neg (jb_0.mp (by first | exact h_21 | exact Decidable.not_not.mp h_21)), eT]
      dsimp only
      exact ⟨rfl, bq_now hX q3 q1 q2⟩
    · refine J_aload_n (pc' := 25) dX6_tells_24 rfl rfl ?_
      refine J_iconst (v := 2) (pc' := 26) dX6_tells_25 (by decide) rfl ?_
      refine J_V1v (pc' := 29) dX6_tells_26 lk_6_69 cd_X6_error (k_err2) (ly_0) (l84_0) rfl rfl (jroom_of rfl) (Nat.le_of_ble_eq_true rfl) rfl ?_
      exact J_iret dX6_tells_29  (by unfold sq_tells; rw [if_pos (jb_n h_4), nn_nI (by omega), if_pos (jb_n (by first | exact h_21 | exact Decidable.not_not.mp h_21))]; exact ⟨rfl, bq_err hX (by decide)⟩)
  · refine J_aload_n (pc' := 8) dX6_tells_7 rfl rfl ?_
    refine J_iconst (v := 1) (pc' := 9) dX6_tells_8 (by decide) rfl ?_
    refine J_V1v (pc' := 12) dX6_tells_9 lk_6_69 cd_X6_error (k_err1) (ly_0) (l84_0) rfl rfl (jroom_of rfl) (Nat.le_of_ble_eq_true rfl) rfl ?_
    exact J_iret dX6_tells_12  (by unfold sq_tells; rw [if_neg (fun q => by first | exact jb_0.mp h_4 q)]; exact ⟨rfl, bq_err hX (by decide)⟩)
