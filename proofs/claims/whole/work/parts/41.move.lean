/-! ===== numbers move ===== -/
theorem rx_off0 {w w2 : jWd} (o : ∀ a, a ≠ 61 → w2.1 a = w.1 a) {f j : Nat} (hf : f ≠ 2) : restX w2 f j = restX w f j := by
  match f, hf with
  | 0, _ => unfold restX; simp only [o 67 (by decide)]
  | 1, _ => unfold restX; simp only [o 0 (by decide)]
  | 2, hf => exact absurd rfl hf
  | 3, _ => unfold restX; simp only [o 62 (by decide)]
  | 4, _ => unfold restX; simp only [o 63 (by decide)]
  | 5, _ => unfold restX; simp only [o 64 (by decide)]
  | 6, _ => unfold restX; simp only [o 65 (by decide)]
  | 7, _ => unfold restX; simp only [o 66 (by decide)]
  | 8, _ => unfold restX; simp only [o 57 (by decide), o 58 (by decide)]
  | 9, _ => unfold restX; simp only [o 57 (by decide)]
  | n + 10, _ => exact (show restX _ (n + 10) j = 0 from rfl).trans (show restX _ (n + 10) j = 0 from rfl).symm
theorem rx_off1 {w w2 : jWd} (o : ∀ a, a ≠ 62 → w2.1 a = w.1 a) {f j : Nat} (hf : f ≠ 3) : restX w2 f j = restX w f j := by
  match f, hf with
  | 0, _ => unfold restX; simp only [o 67 (by decide)]
  | 1, _ => unfold restX; simp only [o 0 (by decide)]
  | 2, _ => unfold restX; simp only [o 61 (by decide)]
  | 3, hf => exact absurd rfl hf
  | 4, _ => unfold restX; simp only [o 63 (by decide)]
  | 5, _ => unfold restX; simp only [o 64 (by decide)]
  | 6, _ => unfold restX; simp only [o 65 (by decide)]
  | 7, _ => unfold restX; simp only [o 66 (by decide)]
  | 8, _ => unfold restX; simp only [o 57 (by decide), o 58 (by decide)]
  | 9, _ => unfold restX; simp only [o 57 (by decide)]
  | n + 10, _ => exact (show restX _ (n + 10) j = 0 from rfl).trans (show restX _ (n + 10) j = 0 from rfl).symm
theorem rx_off2 {w w2 : jWd} (o : ∀ a, a ≠ 63 → w2.1 a = w.1 a) {f j : Nat} (hf : f ≠ 4) : restX w2 f j = restX w f j := by
  match f, hf with
  | 0, _ => unfold restX; simp only [o 67 (by decide)]
  | 1, _ => unfold restX; simp only [o 0 (by decide)]
  | 2, _ => unfold restX; simp only [o 61 (by decide)]
  | 3, _ => unfold restX; simp only [o 62 (by decide)]
  | 4, hf => exact absurd rfl hf
  | 5, _ => unfold restX; simp only [o 64 (by decide)]
  | 6, _ => unfold restX; simp only [o 65 (by decide)]
  | 7, _ => unfold restX; simp only [o 66 (by decide)]
  | 8, _ => unfold restX; simp only [o 57 (by decide), o 58 (by decide)]
  | 9, _ => unfold restX; simp only [o 57 (by decide)]
  | n + 10, _ => exact (show restX _ (n + 10) j = 0 from rfl).trans (show restX _ (n + 10) j = 0 from rfl).symm
theorem rx_off3 {w w2 : jWd} (o : ∀ a, a ≠ 64 → w2.1 a = w.1 a) {f j : Nat} (hf : f ≠ 5) : restX w2 f j = restX w f j := by
  match f, hf with
  | 0, _ => unfold restX; simp only [o 67 (by decide)]
  | 1, _ => unfold restX; simp only [o 0 (by decide)]
  | 2, _ => unfold restX; simp only [o 61 (by decide)]
  | 3, _ => unfold restX; simp only [o 62 (by decide)]
  | 4, _ => unfold restX; simp only [o 63 (by decide)]
  | 5, hf => exact absurd rfl hf
  | 6, _ => unfold restX; simp only [o 65 (by decide)]
  | 7, _ => unfold restX; simp only [o 66 (by decide)]
  | 8, _ => unfold restX; simp only [o 57 (by decide), o 58 (by decide)]
  | 9, _ => unfold restX; simp only [o 57 (by decide)]
  | n + 10, _ => exact (show restX _ (n + 10) j = 0 from rfl).trans (show restX _ (n + 10) j = 0 from rfl).symm
def sMov (r : sg) (s p u q n : Nat) : sg := fun f j => if f = 2 + u ∧ q ≤ j ∧ j < q + n then r (2 + s) (p + (j - q)) else r f j
theorem rx_out {w : jWd} {u j : Nat} (hu : u < 4) (hj : 24 ≤ j) : restX w (2 + u) j = 0 := by
  obtain rfl | rfl | rfl | rfl : u = 0 ∨ u = 1 ∨ u = 2 ∨ u = 3 := by omega
  all_goals exact if_neg (by omega)
theorem rx_mov {w : jWd} {s p u q n : Nat} (hs : s < 4) (hu : u < 4) (hp : p + n ≤ 24) (hq : q + n ≤ 24) : restX (jsetA w (61 + u) (va_cpy (w.1 (61 + s)) (w.1 (61 + u)) p q n)) = sMov (restX w) s p u q n := by
  funext f j
  unfold sMov
  by_cases hf : f = 2 + u
  · subst hf
    by_cases hj : j < 24
    · rw [← rx_2 hu hj, jsetA_1, if_pos rfl]
      show (if q ≤ j ∧ j < q + n then w.1 (61 + s) (p + (j - q)) else w.1 (61 + u) j) = _
      by_cases h : q ≤ j ∧ j < q + n
      · rw [if_pos h, if_pos ⟨rfl, h⟩]; exact rx_2 hs (by omega)
      · rw [if_neg h, if_neg (fun z => h z.2)]; exact rx_2 hu hj
    · rw [if_neg (by omega), rx_out hu (by omega), rx_out hu (by omega)]
  · rw [if_neg (fun z => hf z.1)]
    have o : ∀ a, a ≠ 61 + u → (jsetA w (61 + u) (va_cpy (w.1 (61 + s)) (w.1 (61 + u)) p q n)).1 a = w.1 a := fun a h => by rw [jsetA_1, if_neg h]
    obtain rfl | rfl | rfl | rfl : u = 0 ∨ u = 1 ∨ u = 2 ∨ u = 3 := by omega
    · exact rx_off0 o hf
    · exact rx_off1 o hf
    · exact rx_off2 o hf
    · exact rx_off3 o hf
theorem stand_ex {r : sg} {s T : Nat} (hT : r 7 s = nI T) (hT24 : T ≤ 24) {p n : Int32} (h : 0 ≤ p ∧ p ≤ r 7 s ∧ 0 ≤ n ∧ n ≤ r 7 s - p) : ∃ a c, p = nI a ∧ n = nI c ∧ a + c ≤ 24 := by
  obtain ⟨h1, h2, h3, h4⟩ := h
  rw [hT] at h2
  obtain ⟨a, ha, rfl⟩ := rng0_ex (n := T) (by omega) ⟨h1, h2⟩
  rw [hT, jsub (a := T) (b := a) rfl rfl ha] at h4
  obtain ⟨c, hc, rfl⟩ := rng0_ex (n := T - a) (by omega) ⟨h3, h4⟩
  exact ⟨a, c, rfl, rfl, by omega⟩
def sq_move (s k r : sg) (x : Int32) (p : Int32) (y : Int32) (q : Int32) (n : Int32) : sQI := if (0 ≤ x ∧ x ≤ 3) ∧ (0 ≤ y ∧ y ≤ 3) then (if r 6 (nn x) = 0 ∨ r 6 (nn y) = 0 then (sErr 2, s, k, sEr r 2) else if r 6 (nn x) ≠ r 6 (nn y) then (sErr 5, s, k, sEr r 5) else if (0 ≤ p ∧ p ≤ r 7 (nn x) ∧ 0 ≤ n ∧ n ≤ r 7 (nn x) - p) ∧ (0 ≤ q ∧ q ≤ r 7 (nn y) ∧ 0 ≤ n ∧ n ≤ r 7 (nn y) - q) then (n, s, k, sMov r (nn x) (nn p) (nn y) (nn q) (nn n)) else (sErr 1, s, k, sEr r 1)) else (sErr 1, s, k, sEr r 1)
set_option maxHeartbeats 4000000 in
set_option maxRecDepth 100000 in
theorem a_X6_move {G : jG} {w : jWd} (hX : XInv w) (hI : sInv (abX w 1)) (hR : rInv (restX w)) {x : Int32} {p : Int32} {y : Int32} {q : Int32} {n : Int32} : jKp G 2 yX6_move cX6_move 6 (some .int) [.ref 0, .int x, .int p, .int y, .int q, .int n] w (some (.int (sq_move (abX w 1) (abX w 16) (restX w) x p y q n).1)) (fun w' => BQ w w' (sq_move (abX w 1) (abX w 16) (restX w) x p y q n).2) := by
  refine jK_of (own := RX6) [some (.ref 0), some (.int x), some (.int p), some (.int y), some (.int q), some (.int n)] pn6 rfl (Nat.le_of_ble_eq_true rfl) rfl ?_
  refine J_iload_n (pc' := 1) dX6_move_0 rfl rfl ?_
  refine J_S1v (pc' := 4) dX6_move_1 lk_6_255 cd_X6_isSheet (k_X6_isSheet) (jroom_of rfl) (Nat.le_of_ble_eq_true rfl) rfl ?_
  refine J_if_eq 14 (pc' := 7) dX6_move_4 (by decide) rfl (fun h_4 => ?_) (fun h_4 => ?_)
  · refine J_aload_n (pc' := 15) dX6_move_14 rfl rfl ?_
    refine J_iconst (v := 1) (pc' := 16) dX6_move_15 (by decide) rfl ?_
    refine J_V1v (pc' := 19) dX6_move_16 lk_6_69 cd_X6_error (k_err1) (ly_0) (l84_0) rfl rfl (jroom_of rfl) (Nat.le_of_ble_eq_true rfl) rfl ?_
    exact J_iret dX6_move_19  (by unfold sq_move; rw [if_neg (fun q => by first | exact jb_0.mp h_4 q.1 | exact jb_0.mp h_11 q.2)]; exact ⟨rfl, bq_err hX (by decide)⟩)
  · refine J_iload_n (pc' := 8) dX6_move_7 rfl rfl ?_
    refine J_S1v (pc' := 11) dX6_move_8 lk_6_255 cd_X6_isSheet (k_X6_isSheet) (jroom_of rfl) (Nat.le_of_ble_eq_true rfl) rfl ?_
    refine J_if_ne 20 (pc' := 14) dX6_move_11 (by decide) rfl (fun h_11 => ?_) (fun h_11 => ?_)
    · obtain ⟨s, hs3, rfl⟩ := rng0_ex (n := 3) (by omega) (jb_n h_4)
      have hs4 : s < 4 := by omega
      obtain ⟨u, hu3, rfl⟩ := rng0_ex (n := 3) (by omega) (jb_n h_11)
      have hu4 : u < 4 := by omega
      obtain ⟨⟨T, hT, hT24⟩, -⟩ := hR.2 s hs4
      obtain ⟨⟨U, hU, hU24⟩, -⟩ := hR.2 u hu4
      have hC : (0 ≤ nI s ∧ nI s ≤ 3) ∧ (0 ≤ nI u ∧ nI u ≤ 3) := ⟨jb_n h_4, jb_n h_11⟩
      refine J_aload_n (pc' := 21) dX6_move_20 rfl rfl ?_
      refine J_getR (pc' := 24) dX6_move_21 fl_6_52 (ly_0) (l84_0) rfl rfl ?_
      refine J_iload_n (pc' := 25) dX6_move_24 rfl rfl ?_
      refine J_V1v (pc' := 28) dX6_move_25 lk_6_258 cd_X3_isMissing (k_X3_isMissing hs4) (ly_59) (l84_59) rfl rfl (jroom_of rfl) (Nat.le_of_ble_eq_true rfl) rfl ?_
      refine J_if_ne 42 (pc' := 31) dX6_move_28 (by decide) rfl (fun h_28 => ?_) (fun h_28 => ?_)
      · refine J_aload_n (pc' := 43) dX6_move_42 rfl rfl ?_
        refine J_iconst (v := 2) (pc' := 44) dX6_move_43 (by decide) rfl ?_
        refine J_V1v (pc' := 47) dX6_move_44 lk_6_69 cd_X6_error (k_err2) (ly_0) (l84_0) rfl rfl (jroom_of rfl) (Nat.le_of_ble_eq_true rfl) rfl ?_
        exact J_iret dX6_move_47  (by unfold sq_move; rw [if_pos hC, nn_nI (by omega), nn_nI (by omega), if_pos (by first | exact Or.inl (jb_n (by first | exact h_28 | exact Decidable.not_not.mp h_28)) | exact Or.inr (jb_n (by first | exact h_39 | exact Decidable.not_not.mp h_39)))]; exact ⟨rfl, bq_err hX (by decide)⟩)
      · refine J_aload_n (pc' := 32) dX6_move_31 rfl rfl ?_
        refine J_getR (pc' := 35) dX6_move_32 fl_6_52 (ly_0) (l84_0) rfl rfl ?_
        refine J_iload_n (pc' := 36) dX6_move_35 rfl rfl ?_
        refine J_V1v (pc' := 39) dX6_move_36 lk_6_258 cd_X3_isMissing (k_X3_isMissing hu4) (ly_59) (l84_59) rfl rfl (jroom_of rfl) (Nat.le_of_ble_eq_true rfl) rfl ?_
        refine J_if_eq 48 (pc' := 42) dX6_move_39 (by decide) rfl (fun h_39 => ?_) (fun h_39 => ?_)
        · refine J_aload_n (pc' := 49) dX6_move_48 rfl rfl ?_
          refine J_getR (pc' := 52) dX6_move_49 fl_6_52 (ly_0) (l84_0) rfl rfl ?_
          refine J_getR (pc' := 55) dX6_move_52 fl_6_288 (ly_59) (l84_59) rfl rfl ?_
          refine J_iload_n (pc' := 56) dX6_move_55 rfl rfl ?_
          refine J_iald s (pc' := 57) dX6_move_56 (ly_65) (l84_65) rfl hs4 (by decide) rfl ?_
          rw [rx_6 hs4]
          refine J_aload_n (pc' := 58) dX6_move_57 rfl rfl ?_
          refine J_getR (pc' := 61) dX6_move_58 fl_6_52 (ly_0) (l84_0) rfl rfl ?_
          refine J_getR (pc' := 64) dX6_move_61 fl_6_288 (ly_59) (l84_59) rfl rfl ?_
          refine J_iload_n (pc' := 65) dX6_move_64 rfl rfl ?_
          refine J_iald u (pc' := 66) dX6_move_65 (ly_65) (l84_65) rfl hu4 (by decide) rfl ?_
          rw [rx_6 hu4]
          refine J_icmp_eq 75 (pc' := 69) dX6_move_66 (by decide) rfl (fun h_66 => ?_) (fun h_66 => ?_)
          · refine J_aload_n (pc' := 76) dX6_move_75 rfl rfl ?_
            refine J_getR (pc' := 79) dX6_move_76 fl_6_52 (ly_0) (l84_0) rfl rfl ?_
            refine J_iload_n (pc' := 80) dX6_move_79 rfl rfl ?_
            refine J_iload_n (pc' := 81) dX6_move_80 rfl rfl ?_
            refine J_iload (pc' := 83) dX6_move_81 rfl rfl ?_
            refine J_V3v (pc' := 86) dX6_move_83 lk_6_291 cd_X3_stand (k_X3_stand hs4) (ly_59) (l84_59) rfl rfl (jroom_of rfl) (Nat.le_of_ble_eq_true rfl) rfl ?_
            refine J_if_eq 104 (pc' := 89) dX6_move_86 (by decide) rfl (fun h_86 => ?_) (fun h_86 => ?_)
            · refine J_aload_n (pc' := 105) dX6_move_104 rfl rfl ?_
              refine J_iconst (v := 1) (pc' := 106) dX6_move_105 (by decide) rfl ?_
              refine J_V1v (pc' := 109) dX6_move_106 lk_6_69 cd_X6_error (k_err1) (ly_0) (l84_0) rfl rfl (jroom_of rfl) (Nat.le_of_ble_eq_true rfl) rfl ?_
              exact J_iret dX6_move_109  (by unfold sq_move; rw [if_pos hC, nn_nI (by omega), nn_nI (by omega), if_neg (fun q => by rcases q with q | q; exact (jb_0.mp (by first | exact h_28 | exact Decidable.not_not.mp h_28)) q; exact (jb_0.mp (by first | exact h_39 | exact Decidable.not_not.mp h_39)) q), if_neg (fun q => q h_66), if_neg (fun q => by first | exact (jb_0.mp (by first | exact h_86 | exact Decidable.not_not.mp h_86)) q.1 | exact (jb_0.mp (by first | exact h_101 | exact Decidable.not_not.mp h_101)) q.2)]; exact ⟨rfl, bq_err hX (by decide)⟩)
            · refine J_aload_n (pc' := 90) dX6_move_89 rfl rfl ?_
              refine J_getR (pc' := 93) dX6_move_90 fl_6_52 (ly_0) (l84_0) rfl rfl ?_
              refine J_iload_n (pc' := 94) dX6_move_93 rfl rfl ?_
              refine J_iload (pc' := 96) dX6_move_94 rfl rfl ?_
              refine J_iload (pc' := 98) dX6_move_96 rfl rfl ?_
              refine J_V3v (pc' := 101) dX6_move_98 lk_6_291 cd_X3_stand (k_X3_stand hu4) (ly_59) (l84_59) rfl rfl (jroom_of rfl) (Nat.le_of_ble_eq_true rfl) rfl ?_
              refine J_if_ne 110 (pc' := 104) dX6_move_101 (by decide) rfl (fun h_101 => ?_) (fun h_101 => ?_)
              · have z1 := (jb_n (by first | exact h_86 | exact Decidable.not_not.mp h_86))
                have z2 := (jb_n (by first | exact h_101 | exact Decidable.not_not.mp h_101))
                obtain ⟨a, c, rfl, rfl, hac⟩ := stand_ex hT hT24 z1
                obtain ⟨d, c2, rfl, ec, hdc⟩ := stand_ex hU hU24 z2
                have ec2 : c = c2 := by
                  have q := congrArg Int32.toInt ec
                  rw [nI_toInt (by omega), nI_toInt (by omega)] at q
                  omega
                subst ec2
                refine J_aload_n (pc' := 111) dX6_move_110 rfl rfl ?_
                refine J_getR (pc' := 114) dX6_move_111 fl_6_52 (ly_0) (l84_0) rfl rfl ?_
                refine J_getR (pc' := 117) dX6_move_114 fl_6_294 (ly_59) (l84_59) rfl rfl ?_
                refine J_iload_n (pc' := 118) dX6_move_117 rfl rfl ?_
                refine J_aald s (pc' := 119) dX6_move_118 (ly_60) (Or.inr (Or.inl rfl)) (l84_60) rfl (row61 hs4) (by omega) (by decide) rfl ?_
                refine J_iload_n (pc' := 120) dX6_move_119 rfl rfl ?_
                refine J_aload_n (pc' := 121) dX6_move_120 rfl rfl ?_
                refine J_getR (pc' := 124) dX6_move_121 fl_6_52 (ly_0) (l84_0) rfl rfl ?_
                refine J_getR (pc' := 127) dX6_move_124 fl_6_294 (ly_59) (l84_59) rfl rfl ?_
                refine J_iload_n (pc' := 128) dX6_move_127 rfl rfl ?_
                refine J_aald u (pc' := 129) dX6_move_128 (ly_60) (Or.inr (Or.inl rfl)) (l84_60) rfl (row61 hu4) (by omega) (by decide) rfl ?_
                refine J_iload (pc' := 131) dX6_move_129 rfl rfl ?_
                refine J_iload (pc' := 133) dX6_move_131 rfl rfl ?_
                refine J_copy (a) (d) (c) (pc' := 136) dX6_move_133 lc_6_298 ac_2 ac_3 ac_4 (ly61 hs4) (ly61 hu4) (l8461 hs4) (l8461 hu4) rfl rfl rfl hac hdc (by decide) (by decide) ⟨Nat.le_of_ble_eq_true rfl, Nat.le_of_ble_eq_true rfl⟩ rfl ?_
                refine J_iload (pc' := 138) dX6_move_136 rfl rfl ?_
                exact J_iret dX6_move_138  (by unfold sq_move; rw [if_pos hC, nn_nI (by omega), nn_nI (by omega), if_neg (fun q => by rcases q with q | q; exact (jb_0.mp (by first | exact h_28 | exact Decidable.not_not.mp h_28)) q; exact (jb_0.mp (by first | exact h_39 | exact Decidable.not_not.mp h_39)) q), if_neg (fun q => q h_66), if_pos ⟨z1, z2⟩, nn_nI (by omega), nn_nI (by omega), nn_nI (by omega)]; dsimp only; exact ⟨rfl, bq_sh hX ⟨fun x hx => by rw [jsetA_1, if_neg (by omega)], rfl⟩ (rx_mov hs4 hu4 hac hdc)⟩)
              · refine J_aload_n (pc' := 105) dX6_move_104 rfl rfl ?_
                refine J_iconst (v := 1) (pc' := 106) dX6_move_105 (by decide) rfl ?_
                refine J_V1v (pc' := 109) dX6_move_106 lk_6_69 cd_X6_error (k_err1) (ly_0) (l84_0) rfl rfl (jroom_of rfl) (Nat.le_of_ble_eq_true rfl) rfl ?_
                exact J_iret dX6_move_109  (by unfold sq_move; rw [if_pos hC, nn_nI (by omega), nn_nI (by omega), if_neg (fun q => by rcases q with q | q; exact (jb_0.mp (by first | exact h_28 | exact Decidable.not_not.mp h_28)) q; exact (jb_0.mp (by first | exact h_39 | exact Decidable.not_not.mp h_39)) q), if_neg (fun q => q h_66), if_neg (fun q => by first | exact (jb_0.mp (by first | exact h_86 | exact Decidable.not_not.mp h_86)) q.1 | exact (jb_0.mp (by first | exact h_101 | exact Decidable.not_not.mp h_101)) q.2)]; exact ⟨rfl, bq_err hX (by decide)⟩)
          · refine J_aload_n (pc' := 70) dX6_move_69 rfl rfl ?_
            refine J_iconst (v := 5) (pc' := 71) dX6_move_70 (by decide) rfl ?_
            refine J_V1v (pc' := 74) dX6_move_71 lk_6_69 cd_X6_error (k_err5) (ly_0) (l84_0) rfl rfl (jroom_of rfl) (Nat.le_of_ble_eq_true rfl) rfl ?_
            exact J_iret dX6_move_74  (by unfold sq_move; rw [if_pos hC, nn_nI (by omega), nn_nI (by omega), if_neg (fun q => by rcases q with q | q; exact (jb_0.mp (by first | exact h_28 | exact Decidable.not_not.mp h_28)) q; exact (jb_0.mp (by first | exact h_39 | exact Decidable.not_not.mp h_39)) q), if_pos h_66]; exact ⟨rfl, bq_err hX (by decide)⟩)
        · refine J_aload_n (pc' := 43) dX6_move_42 rfl rfl ?_
          refine J_iconst (v := 2) (pc' := 44) dX6_move_43 (by decide) rfl ?_
          refine J_V1v (pc' := 47) dX6_move_44 lk_6_69 cd_X6_error (k_err2) (ly_0) (l84_0) rfl rfl (jroom_of rfl) (Nat.le_of_ble_eq_true rfl) rfl ?_
          exact J_iret dX6_move_47  (by unfold sq_move; rw [if_pos hC, nn_nI (by omega), nn_nI (by omega), if_pos (by first | exact Or.inl (jb_n (by first | exact h_28 | exact Decidable.not_not.mp h_28)) | exact Or.inr (jb_n (by first | exact h_39 | exact Decidable.not_not.mp h_39)))]; exact ⟨rfl, bq_err hX (by decide)⟩)
    · refine J_aload_n (pc' := 15) dX6_move_14 rfl rfl ?_
      refine J_iconst (v := 1) (pc' := 16) dX6_move_15 (by decide) rfl ?_
      refine J_V1v (pc' := 19) dX6_move_16 lk_6_69 cd_X6_error (k_err1) (ly_0) (l84_0) rfl rfl (jroom_of rfl) (Nat.le_of_ble_eq_true rfl) rfl ?_
      exact J_iret dX6_move_19  (by unfold sq_move; rw [if_neg (fun q => by first | exact jb_0.mp h_4 q.1 | exact jb_0.mp h_11 q.2)]; exact ⟨rfl, bq_err hX (by decide)⟩)
