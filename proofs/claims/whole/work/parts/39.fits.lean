/-! ===== what fits a sheet ===== -/
/-! ===== what fits a sheet ===== -/
def sGa (r : sg) (s : Nat) (σ : sg) : Nat → Nat → Int32
  | 0, _ => 1
  | n + 1, i => if r (2 + s) i = nI (sSet (sGoN σ i)) then sGa r s σ n (i + 1) else 0
set_option maxHeartbeats 4000000 in
set_option maxRecDepth 100000 in
theorem l_gas {G : jG} {w0 : jWd} {σ : sg} (hI0 : sInv σ) (hR : sR σ ≤ 9999) {s T : Nat} (hs4 : s < 4) (hT : restX w0 7 s = nI T) (hT24 : T ≤ 24) : ∀ n i : Nat, i + n = T → ∀ w, abX w 31 = sGoN σ (i - 1) → xB w 31 → frF 31 w0 w → sGa (restX w0) s σ T 0 = sGa (restX w0) s σ n i → J G (jM G 6 RX6 cX6_goesAsSheetTells 3 (some .boolean) ((fun r' w' => r' = some (.int (sGa (restX w0) s σ T 0)) ∧ (xB w' 31 ∧ frF 31 w0 w')))) w 2 [some (.ref 0), some (.int (nI s)), some (.int (nI i))] [] := by
  intro n
  induction n with
  | zero =>
    intro i hi w h1 h2 h3 h4
    have eL : w.1 66 s = nI T := by rw [h3.1 66 (by omega) (by omega) (by omega), rx_7 hs4]; exact hT
    refine J_iload_n (pc' := 3) dX6_goesAsSheetTells_2 rfl rfl ?_
    refine J_aload_n (pc' := 4) dX6_goesAsSheetTells_3 rfl rfl ?_
    refine J_getR (pc' := 7) dX6_goesAsSheetTells_4 fl_6_52 (ly_0) (l84_0) rfl rfl ?_
    refine J_getR (pc' := 10) dX6_goesAsSheetTells_7 fl_6_282 (ly_59) (l84_59) rfl rfl ?_
    refine J_iload_n (pc' := 11) dX6_goesAsSheetTells_10 rfl rfl ?_
    refine J_iald s (pc' := 12) dX6_goesAsSheetTells_11 (ly_66) (l84_66) rfl hs4 (by decide) rfl ?_
    rw [eL]
    refine J_icmp_ge 59 (pc' := 15) dX6_goesAsSheetTells_12 (by decide) rfl (fun h_12 => ?_) (fun h_12 => absurd (nI_le (by omega) (by omega)) h_12)
    refine J_iconst (v := 1) (pc' := 60) dX6_goesAsSheetTells_59 (by decide) rfl ?_
    exact J_zret dX6_goesAsSheetTells_60 (Or.inr rfl) ⟨by rw [h4]; rfl, h2, h3⟩
  | succ n ih =>
    intro i hi w h1 h2 h3 h4
    have eL : w.1 66 s = nI T := by rw [h3.1 66 (by omega) (by omega) (by omega), rx_7 hs4]; exact hT
    have hI : sInv (abX w 31) := by rw [h1]; exact (inv_goN hI0 (i - 1) (by omega)).1
    have hRi : sR (abX w 31) < 1000000 := by rw [h1, (inv_goN hI0 (i - 1) (by omega)).2.2.2]; omega
    refine J_iload_n (pc' := 3) dX6_goesAsSheetTells_2 rfl rfl ?_
    refine J_aload_n (pc' := 4) dX6_goesAsSheetTells_3 rfl rfl ?_
    refine J_getR (pc' := 7) dX6_goesAsSheetTells_4 fl_6_52 (ly_0) (l84_0) rfl rfl ?_
    refine J_getR (pc' := 10) dX6_goesAsSheetTells_7 fl_6_282 (ly_59) (l84_59) rfl rfl ?_
    refine J_iload_n (pc' := 11) dX6_goesAsSheetTells_10 rfl rfl ?_
    refine J_iald s (pc' := 12) dX6_goesAsSheetTells_11 (ly_66) (l84_66) rfl hs4 (by decide) rfl ?_
    rw [eL]
    refine J_icmp_ge 59 (pc' := 15) dX6_goesAsSheetTells_12 (by decide) rfl (fun h_12 => absurd h_12 (nI_ge (by omega) (by omega))) (fun h_12 => ?_)
    refine J_iload_n (pc' := 16) dX6_goesAsSheetTells_15 rfl rfl ?_
    refine J_if_le 30 (pc' := 19) dX6_goesAsSheetTells_16 (by decide) rfl (fun h_16 => ?_) (fun h_16 => ?_)
    · have i0 : i = 0 := by
        rcases Nat.eq_zero_or_pos i with q | q
        · exact q
        · exact absurd h_16 (nI_nle q (by omega))
      have g1 : abX w 31 = sGoN σ i := by rw [h1, i0]
      have g2 := h2
      have g3 := h3
      obtain ⟨eS, -⟩ := xB_on (by rw [g1]; exact (inv_goN hI0 i (by omega)).1) g2
      rw [g1] at eS
      have ev : w.1 (61 + s) i = restX w0 (2 + s) i := by rw [g3.1 (61 + s) (by omega) (by omega) (by omega)]; exact rx_2 hs4 (by omega)
      refine J_aload_n (pc' := 31) dX6_goesAsSheetTells_30 rfl rfl ?_
      refine J_getR (pc' := 34) dX6_goesAsSheetTells_31 fl_6_52 (ly_0) (l84_0) rfl rfl ?_
      refine J_getR (pc' := 37) dX6_goesAsSheetTells_34 fl_6_294 (ly_59) (l84_59) rfl rfl ?_
      refine J_iload_n (pc' := 38) dX6_goesAsSheetTells_37 rfl rfl ?_
      refine J_aald s (pc' := 39) dX6_goesAsSheetTells_38 (ly_60) (Or.inr (Or.inl rfl)) (l84_60) rfl (row61 hs4) (by omega) (by decide) rfl ?_
      refine J_iload_n (pc' := 40) dX6_goesAsSheetTells_39 rfl rfl ?_
      refine J_iald i (pc' := 41) dX6_goesAsSheetTells_40 (ly61 hs4) (l8461 hs4) rfl (by omega) (by decide) rfl ?_
      rw [ev]
      refine J_aload_n (pc' := 42) dX6_goesAsSheetTells_41 rfl rfl ?_
      refine J_getR (pc' := 45) dX6_goesAsSheetTells_42 fl_6_19 (ly_0) (l84_0) rfl rfl ?_
      refine J_getI (pc' := 48) dX6_goesAsSheetTells_45 fl_6_178 (ly_31) (l84_31) rfl rfl ?_
      rw [eS]
      refine J_icmp_eq 53 (pc' := 51) dX6_goesAsSheetTells_48 (by decide) rfl (fun h_48 => ?_) (fun h_48 => ?_)
      · refine J_iinc (pc' := 56) dX6_goesAsSheetTells_53 rfl (Nat.le_of_ble_eq_true rfl) (jst2 rfl rfl) rfl ?_
        refine J_goto (pc' := 0) 2 dX6_goesAsSheetTells_56 (by decide) ?_
        have h5 := ih (i + 1) (by omega) w (by rw [g1]; rfl) g2 g3 (by rw [h4, sGa, if_pos (by first | exact h_48 | exact Decidable.not_not.mp h_48)])
        rw [← z1 i] at h5
        exact h5
      · refine J_iconst (v := 0) (pc' := 52) dX6_goesAsSheetTells_51 (by decide) rfl ?_
        exact J_zret dX6_goesAsSheetTells_52 (Or.inl rfl) ⟨by rw [h4, sGa, if_neg h_48], g2, g3⟩
    · refine J_aload_n (pc' := 20) dX6_goesAsSheetTells_19 rfl rfl ?_
      refine J_getR (pc' := 23) dX6_goesAsSheetTells_20 fl_6_38 (ly_0) (l84_0) rfl rfl ?_
      refine J_aload_n (pc' := 24) dX6_goesAsSheetTells_23 rfl rfl ?_
      refine J_getR (pc' := 27) dX6_goesAsSheetTells_24 fl_6_19 (ly_0) (l84_0) rfl rfl ?_
      refine J_V1w (pc' := 30) dX6_goesAsSheetTells_27 lk_6_174 cd_X1_passRound (k_X1_passRound jb31 hI h2) (ly_48) (l84_48) rfl rfl (jroom_of rfl) (Nat.le_of_ble_eq_true rfl) rfl (fun w27 hw27 => ?_)
      obtain ⟨q1, q2, q3⟩ := hw27
      have ip : 0 < i := by
        rcases Nat.eq_zero_or_pos i with q | q
        · subst q; exact absurd (show nI 0 ≤ 0 from Int32.le_refl _) h_16
        · exact q
      have g1 : abX w27 31 = sGoN σ i := by
        rw [q1, h1]
        obtain ⟨j, rfl⟩ : ∃ j, i = j + 1 := ⟨i - 1, by omega⟩
        rfl
      have g2 := q2
      have g3 := h3.tr q3
      obtain ⟨eS, -⟩ := xB_on (by rw [g1]; exact (inv_goN hI0 i (by omega)).1) g2
      rw [g1] at eS
      have ev : w27.1 (61 + s) i = restX w0 (2 + s) i := by rw [g3.1 (61 + s) (by omega) (by omega) (by omega)]; exact rx_2 hs4 (by omega)
      refine J_aload_n (pc' := 31) dX6_goesAsSheetTells_30 rfl rfl ?_
      refine J_getR (pc' := 34) dX6_goesAsSheetTells_31 fl_6_52 (ly_0) (l84_0) rfl rfl ?_
      refine J_getR (pc' := 37) dX6_goesAsSheetTells_34 fl_6_294 (ly_59) (l84_59) rfl rfl ?_
      refine J_iload_n (pc' := 38) dX6_goesAsSheetTells_37 rfl rfl ?_
      refine J_aald s (pc' := 39) dX6_goesAsSheetTells_38 (ly_60) (Or.inr (Or.inl rfl)) (l84_60) rfl (row61 hs4) (by omega) (by decide) rfl ?_
      refine J_iload_n (pc' := 40) dX6_goesAsSheetTells_39 rfl rfl ?_
      refine J_iald i (pc' := 41) dX6_goesAsSheetTells_40 (ly61 hs4) (l8461 hs4) rfl (by omega) (by decide) rfl ?_
      rw [ev]
      refine J_aload_n (pc' := 42) dX6_goesAsSheetTells_41 rfl rfl ?_
      refine J_getR (pc' := 45) dX6_goesAsSheetTells_42 fl_6_19 (ly_0) (l84_0) rfl rfl ?_
      refine J_getI (pc' := 48) dX6_goesAsSheetTells_45 fl_6_178 (ly_31) (l84_31) rfl rfl ?_
      rw [eS]
      refine J_icmp_eq 53 (pc' := 51) dX6_goesAsSheetTells_48 (by decide) rfl (fun h_48 => ?_) (fun h_48 => ?_)
      · refine J_iinc (pc' := 56) dX6_goesAsSheetTells_53 rfl (Nat.le_of_ble_eq_true rfl) (jst2 rfl rfl) rfl ?_
        refine J_goto (pc' := 0) 2 dX6_goesAsSheetTells_56 (by decide) ?_
        have h5 := ih (i + 1) (by omega) w27 (by rw [g1]; rfl) g2 g3 (by rw [h4, sGa, if_pos (by first | exact h_48 | exact Decidable.not_not.mp h_48)])
        rw [← z1 i] at h5
        exact h5
      · refine J_iconst (v := 0) (pc' := 52) dX6_goesAsSheetTells_51 (by decide) rfl ?_
        exact J_zret dX6_goesAsSheetTells_52 (Or.inl rfl) ⟨by rw [h4, sGa, if_neg h_48], g2, g3⟩
set_option maxHeartbeats 4000000 in
set_option maxRecDepth 100000 in
theorem k_X6_goesAsSheetTells {G : jG} {w : jWd} (hI : sInv (abX w 31)) (hB : xB w 31) (hR : sR (abX w 31) ≤ 9999) {s T : Nat} (hs4 : s < 4) (hT : restX w 7 s = nI T) (hT24 : T ≤ 24) : jKp G 6 yX6_goesAsSheetTells cX6_goesAsSheetTells 3 (some .boolean) [.ref 0, .int (nI s)] w (some (.int (sGa (restX w) s (abX w 31) T 0))) (fun w' => xB w' 31 ∧ frF 31 w w') := by
  refine jK_of (own := RX6) [some (.ref 0), some (.int (nI s)), none] pn6 rfl (Nat.le_of_ble_eq_true rfl) rfl ?_
  refine J_iconst (v := 0) (pc' := 1) dX6_goesAsSheetTells_0 (by decide) rfl ?_
  refine J_istore_n (pc' := 2) dX6_goesAsSheetTells_1 (Nat.le_of_ble_eq_true rfl) (jst2 rfl rfl) rfl ?_
  exact l_gas (w0 := w) hI hR hs4 hT hT24 T 0 (by omega) w rfl hB (frF.rf 31 w) rfl
