/-! ===== sheets tell ===== -/
/-! ===== sheets tell, sheets are judged ===== -/
set_option maxHeartbeats 4000000 in
set_option maxRecDepth 100000 in
theorem l_jdg {G : jG} {w : jWd} {Q : Option Value → jWd → Prop} {s : Nat} (hs4 : s < 4) {m : Nat} (hm8 : m ≤ 8) {R : Int32} (hQ : Q (some (.int R)) w) : ∀ n i : Nat, i + n = m → R = sJdg (restX w) (abX w 1) s n i → J G (jM G 2 RX6 cX6_judge 4 (some .int) (Q)) w 52 [some (.ref 0), some (.int (nI s)), some (.int (nI m)), some (.int (nI i))] [] := by
  intro n
  induction n with
  | zero =>
    intro i hi h1
    have ei : i = m := by omega
    subst ei
    refine J_iload_n (pc' := 53) dX6_judge_52 rfl rfl ?_
    refine J_iload_n (pc' := 54) dX6_judge_53 rfl rfl ?_
    refine J_icmp_ge 88 (pc' := 57) dX6_judge_54 (by decide) rfl (fun h_54 => ?_) (fun h_54 => absurd (nI_le (by omega) (by omega)) h_54)
    refine J_iload_n (pc' := 89) dX6_judge_88 rfl rfl ?_
    rw [h1, sJdg] at hQ
    exact J_iret dX6_judge_89  hQ
  | succ n ih =>
    intro i hi h1
    have h8 : i < 8 := by omega
    refine J_iload_n (pc' := 53) dX6_judge_52 rfl rfl ?_
    refine J_iload_n (pc' := 54) dX6_judge_53 rfl rfl ?_
    refine J_icmp_ge 88 (pc' := 57) dX6_judge_54 (by decide) rfl (fun h_54 => absurd h_54 (nI_ge (by omega) (by omega))) (fun h_54 => ?_)
    refine J_aload_n (pc' := 58) dX6_judge_57 rfl rfl ?_
    refine J_getR (pc' := 61) dX6_judge_58 fl_6_52 (ly_0) (l84_0) rfl rfl ?_
    refine J_getR (pc' := 64) dX6_judge_61 fl_6_294 (ly_59) (l84_59) rfl rfl ?_
    refine J_iload_n (pc' := 65) dX6_judge_64 rfl rfl ?_
    refine J_aald s (pc' := 66) dX6_judge_65 (ly_60) (Or.inr (Or.inl rfl)) (l84_60) rfl (row61 hs4) (by omega) (by decide) rfl ?_
    refine J_iload_n (pc' := 67) dX6_judge_66 rfl rfl ?_
    refine J_iald i (pc' := 68) dX6_judge_67 (ly61 hs4) (l8461 hs4) rfl (by omega) (by decide) rfl ?_
    rw [rx_2 hs4 (show i < 24 by omega)]
    refine J_aload_n (pc' := 69) dX6_judge_68 rfl rfl ?_
    refine J_getR (pc' := 72) dX6_judge_69 fl_6_12 (ly_0) (l84_0) rfl rfl ?_
    refine J_getR (pc' := 75) dX6_judge_72 fl_6_96 (ly_1) (l84_1) rfl rfl ?_
    refine J_iload_n (pc' := 76) dX6_judge_75 rfl rfl ?_
    refine J_iald i (pc' := 77) dX6_judge_76 (ly_6) (l84_6) rfl h8 (by decide) rfl ?_
    rw [show w.1 6 i = abX w 1 4 i from (ax4 (b := 1) h8).symm]
    refine J_icmp_eq 82 (pc' := 80) dX6_judge_77 (by decide) rfl (fun h_77 => ?_) (fun h_77 => ?_)
    · refine J_iinc (pc' := 85) dX6_judge_82 rfl (Nat.le_of_ble_eq_true rfl) (jst3 rfl rfl) rfl ?_
      refine J_goto (pc' := 0) 52 dX6_judge_85 (by decide) ?_
      have h4 := ih (i + 1) (by omega) (by rw [h1, sJdg, if_pos (by first | exact h_77 | exact Decidable.not_not.mp h_77)])
      rw [← z1 i] at h4
      exact h4
    · refine J_iload_n (pc' := 81) dX6_judge_80 rfl rfl ?_
      rw [h1, sJdg, if_neg h_77] at hQ
      exact J_iret dX6_judge_81  hQ
def sq_judge (s k r : sg) (x : Int32) : sQI := if 0 ≤ x ∧ x ≤ 3 then (if r 6 (nn x) = 0 then (sErr 2, s, k, sEr r 2) else (sJdg r s (nn x) (sTelN r s (nn x)) 0, s, k, r)) else (sErr 1, s, k, sEr r 1)
set_option maxHeartbeats 4000000 in
set_option maxRecDepth 100000 in
theorem a_X6_judge {G : jG} {w : jWd} (hX : XInv w) (hI : sInv (abX w 1)) (hR : rInv (restX w)) {x : Int32} : jKp G 2 yX6_judge cX6_judge 4 (some .int) [.ref 0, .int x] w (some (.int (sq_judge (abX w 1) (abX w 16) (restX w) x).1)) (fun w' => BQ w w' (sq_judge (abX w 1) (abX w 16) (restX w) x).2) := by
  refine jK_of (own := RX6) [some (.ref 0), some (.int x), none, none] pn6 rfl (Nat.le_of_ble_eq_true rfl) rfl ?_
  refine J_iload_n (pc' := 1) dX6_judge_0 rfl rfl ?_
  refine J_S1v (pc' := 4) dX6_judge_1 lk_6_255 cd_X6_isSheet (k_X6_isSheet) (jroom_of rfl) (Nat.le_of_ble_eq_true rfl) rfl ?_
  refine J_if_ne 13 (pc' := 7) dX6_judge_4 (by decide) rfl (fun h_4 => ?_) (fun h_4 => ?_)
  · obtain ⟨s, hs3, rfl⟩ := rng0_ex (n := 3) (by omega) (jb_n h_4)
    have hs4 : s < 4 := by omega
    obtain ⟨⟨T, hT, hT24⟩, -⟩ := hR.2 s hs4
    have hM : w.1 1 8 = nI (sM (abX w 1)) := (sIM hI).1
    have hM8 := (sIM hI).2
    have hTn : nn (restX w 7 s) = T := by rw [hT, nn_nI (by omega)]
    obtain ⟨mE, m1, m2⟩ := mmin_nI (a := T) (b := sM (abX w 1)) (by omega) (by omega)
    have eT : sTelN (restX w) (abX w 1) s = Nat.min (sM (abX w 1)) T := by unfold sTelN; rw [hTn]
    generalize hTm : Nat.min (sM (abX w 1)) T = m at mE m1 m2 eT
    refine J_aload_n (pc' := 14) dX6_judge_13 rfl rfl ?_
    refine J_getR (pc' := 17) dX6_judge_14 fl_6_52 (ly_0) (l84_0) rfl rfl ?_
    refine J_iload_n (pc' := 18) dX6_judge_17 rfl rfl ?_
    refine J_V1v (pc' := 21) dX6_judge_18 lk_6_258 cd_X3_isMissing (k_X3_isMissing hs4) (ly_59) (l84_59) rfl rfl (jroom_of rfl) (Nat.le_of_ble_eq_true rfl) rfl ?_
    refine J_if_eq 30 (pc' := 24) dX6_judge_21 (by decide) rfl (fun h_21 => ?_) (fun h_21 => ?_)
    · refine J_aload_n (pc' := 31) dX6_judge_30 rfl rfl ?_
      refine J_getR (pc' := 34) dX6_judge_31 fl_6_52 (ly_0) (l84_0) rfl rfl ?_
      refine J_getR (pc' := 37) dX6_judge_34 fl_6_282 (ly_59) (l84_59) rfl rfl ?_
      refine J_iload_n (pc' := 38) dX6_judge_37 rfl rfl ?_
      refine J_iald s (pc' := 39) dX6_judge_38 (ly_66) (l84_66) rfl hs4 (by decide) rfl ?_
      rw [rx_7 hs4, hT]
      refine J_aload_n (pc' := 40) dX6_judge_39 rfl rfl ?_
      refine J_getR (pc' := 43) dX6_judge_40 fl_6_12 (ly_0) (l84_0) rfl rfl ?_
      refine J_getI (pc' := 46) dX6_judge_43 fl_6_73 (ly_1) (l84_1) rfl rfl ?_
      rw [hM]
      refine J_mmin (pc' := 49) dX6_judge_46 lm_6_304 rfl rfl ?_
      rw [mE]
      refine J_istore_n (pc' := 50) dX6_judge_49 (Nat.le_of_ble_eq_true rfl) (jst2 rfl rfl) rfl ?_
      refine J_iconst (v := 0) (pc' := 51) dX6_judge_50 (by decide) rfl ?_
      refine J_istore_n (pc' := 52) dX6_judge_51 (Nat.le_of_ble_eq_true rfl) (jst3 rfl rfl) rfl ?_
      refine l_jdg hs4 (by omega) (R := sJdg (restX w) (abX w 1) s m 0) ?_ m 0 (by omega) rfl
      unfold sq_judge
      rw [if_pos (jb_n h_4), nn_nI (by omega), if_neg (jb_0.mp (by first | exact h_21 | exact Decidable.not_not.mp h_21)), eT]
      dsimp only
      exact ⟨rfl, bq_rf hX⟩
    · refine J_aload_n (pc' := 25) dX6_judge_24 rfl rfl ?_
      refine J_iconst (v := 2) (pc' := 26) dX6_judge_25 (by decide) rfl ?_
      refine J_V1v (pc' := 29) dX6_judge_26 lk_6_69 cd_X6_error (k_err2) (ly_0) (l84_0) rfl rfl (jroom_of rfl) (Nat.le_of_ble_eq_true rfl) rfl ?_
      exact J_iret dX6_judge_29  (by unfold sq_judge; rw [if_pos (jb_n h_4), nn_nI (by omega), if_pos (jb_n (by first | exact h_21 | exact Decidable.not_not.mp h_21))]; exact ⟨rfl, bq_err hX (by decide)⟩)
  · refine J_aload_n (pc' := 8) dX6_judge_7 rfl rfl ?_
    refine J_iconst (v := 1) (pc' := 9) dX6_judge_8 (by decide) rfl ?_
    refine J_V1v (pc' := 12) dX6_judge_9 lk_6_69 cd_X6_error (k_err1) (ly_0) (l84_0) rfl rfl (jroom_of rfl) (Nat.le_of_ble_eq_true rfl) rfl ?_
    exact J_iret dX6_judge_12  (by unfold sq_judge; rw [if_neg (fun q => by first | exact jb_0.mp h_4 q)]; exact ⟨rfl, bq_err hX (by decide)⟩)
