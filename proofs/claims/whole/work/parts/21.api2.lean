/-! ===== the class: more calls ===== -/
theorem jb1 : jB 1 := Or.inl rfl
theorem jb16 : jB 16 := Or.inr (Or.inl rfl)
theorem jb31 : jB 31 := Or.inr (Or.inr rfl)
/-- the marks that are on, as the class keeps them -/
theorem sOn_mod {σ : sg} {S : Nat} : ∀ n, (∀ k, k < n → (σ 5 k = 1 ↔ S.testBit k = true)) → sOn σ n = S % 2 ^ n
  | 0, _ => by rw [sOn, Nat.pow_zero, Nat.mod_one]
  | n + 1, h => by
    rw [sOn, sOn_mod n (fun k hk => h k (by omega)), Nat.mod_pow_succ]
    congr 1
    have hb := h n (by omega)
    rw [Nat.testBit_eq_decide_div_mod_eq, decide_eq_true_iff] at hb
    by_cases e : S / 2 ^ n % 2 = 1
    · rw [if_pos (hb.mpr e), e, Nat.mul_one]
    · rw [if_neg (fun q => e (hb.mp q)), show S / 2 ^ n % 2 = 0 by omega, Nat.mul_zero]
theorem xB_on {w : jWd} {b : Nat} (hI : sInv (abX w b)) (hB : xB w b) : w.1 b 9 = nI (sSet (abX w b)) ∧ sSet (abX w b) < 256 := by
  obtain ⟨⟨S, hS, e⟩, -⟩ := hB
  have hbit : ∀ k, k < 8 → (abX w b 5 k = 1 ↔ S.testBit k = true) := by
    intro k hk
    rw [ax5 hk, e]
    exact zbit S hS k hk
  have hM := (sIM hI).2
  have h1 : sSet (abX w b) = S % 2 ^ sM (abX w b) := sOn_mod _ (fun k hk => hbit k (by omega))
  have h2 : S % 2 ^ sM (abX w b) = S := by
    apply Nat.eq_of_testBit_eq
    intro j
    rw [Nat.testBit_mod_two_pow]
    by_cases q : j < sM (abX w b)
    · simp [q]
    · simp only [q, decide_false, Bool.false_and]
      by_cases q8 : j < 8
      · have h0 : abX w b 5 j = 0 := hI.2.2.2.2.2.2.2.2.1 j (by omega)
        have hn : ¬ S.testBit j = true := fun q => absurd ((hbit j q8).mpr q) (by rw [h0]; decide)
        simpa using hn
      · exact (Nat.testBit_lt_two_pow (Nat.lt_of_lt_of_le hS (by rw [show 256 = 2 ^ 8 from rfl]; exact Nat.pow_le_pow_right (by omega) (by omega)))).symm
  rw [h1, h2]
  exact ⟨e, hS⟩
def sq_mark (s k r : sg) (km : Int32) (f : Int32) (t : Int32) (td : Int32) : sQI := if (0 ≤ km ∧ km ≤ 69) ∧ (f = -1 ∨ sIsP s f) ∧ sIsP s t ∧ f ≠ t ∧ (-20 ≤ td ∧ td ≤ 20) then (if 8 ≤ s 6 0 then (sErr 4, s, k, sEr r 4) else (s 6 0, sAdd s km f t td, k, r)) else (sErr 1, s, k, sEr r 1)
set_option maxHeartbeats 4000000 in
set_option maxRecDepth 100000 in
theorem a_X6_mark {G : jG} {w : jWd} (hX : XInv w) (hI : sInv (abX w 1)) {km : Int32} {f : Int32} {t : Int32} {td : Int32} : jKp G 2 yX6_mark cX6_mark 6 (some .int) [.ref 0, .int km, .int f, .int t, .int td] w (some (.int (sq_mark (abX w 1) (abX w 16) (restX w) km f t td).1)) (fun w' => BQ w w' (sq_mark (abX w 1) (abX w 16) (restX w) km f t td).2) := by
  refine jK_of (own := RX6) [some (.ref 0), some (.int km), some (.int f), some (.int t), some (.int td), none] pn6 rfl (Nat.le_of_ble_eq_true rfl) rfl ?_
  refine J_iload_n (pc' := 1) dX6_mark_0 rfl rfl ?_
  refine J_S1v (pc' := 4) dX6_mark_1 lk_6_59 cd_X6_isKindAndNumber (k_X6_isKindAndNumber) (jroom_of rfl) (Nat.le_of_ble_eq_true rfl) rfl ?_
  refine J_if_eq 32 (pc' := 7) dX6_mark_4 (by decide) rfl (fun h_4 => ?_) (fun h_4 => ?_)
  · refine J_iconst (v := 0) (pc' := 33) dX6_mark_32 (by decide) rfl ?_
    refine J_istore (pc' := 35) dX6_mark_33 (Nat.le_of_ble_eq_true rfl) (jst5 rfl rfl) rfl ?_
    refine J_iload (pc' := 37) dX6_mark_35 rfl rfl ?_
    refine J_if_eq 53 (pc' := 40) dX6_mark_37 (by decide) rfl (fun h_37 => ?_) (fun h_37 => absurd (by decide) h_37)
    refine J_aload_n (pc' := 54) dX6_mark_53 rfl rfl ?_
    refine J_iconst (v := 1) (pc' := 55) dX6_mark_54 (by decide) rfl ?_
    refine J_V1v (pc' := 58) dX6_mark_55 lk_6_69 cd_X6_error (k_err1) (ly_0) (l84_0) rfl rfl (jroom_of rfl) (Nat.le_of_ble_eq_true rfl) rfl ?_
    exact J_iret dX6_mark_58  (by unfold sq_mark; rw [if_neg (fun q => by first | exact jb_0.mp h_4 q.1 | exact q.2.1.elim h_9 (jb_0.mp h_17) | exact jb_0.mp h_25 q.2.2.1 | exact q.2.2.2.1 h_42 | exact jb_0.mp h_50 q.2.2.2.2)]; exact ⟨rfl, bq_err hX (by decide)⟩)
  · refine J_iload_n (pc' := 8) dX6_mark_7 rfl rfl ?_
    refine J_iconst (v := -1) (pc' := 9) dX6_mark_8 (by decide) rfl ?_
    refine J_icmp_eq 20 (pc' := 12) dX6_mark_9 (by decide) rfl (fun h_9 => ?_) (fun h_9 => ?_)
    · refine J_aload_n (pc' := 21) dX6_mark_20 rfl rfl ?_
      refine J_iload_n (pc' := 22) dX6_mark_21 rfl rfl ?_
      refine J_V1v (pc' := 25) dX6_mark_22 lk_6_63 cd_X6_isPicture (k_X6_isPicture) (ly_0) (l84_0) rfl rfl (jroom_of rfl) (Nat.le_of_ble_eq_true rfl) rfl ?_
      refine J_if_eq 32 (pc' := 28) dX6_mark_25 (by decide) rfl (fun h_25 => ?_) (fun h_25 => ?_)
      · refine J_iconst (v := 0) (pc' := 33) dX6_mark_32 (by decide) rfl ?_
        refine J_istore (pc' := 35) dX6_mark_33 (Nat.le_of_ble_eq_true rfl) (jst5 rfl rfl) rfl ?_
        refine J_iload (pc' := 37) dX6_mark_35 rfl rfl ?_
        refine J_if_eq 53 (pc' := 40) dX6_mark_37 (by decide) rfl (fun h_37 => ?_) (fun h_37 => absurd (by decide) h_37)
        refine J_aload_n (pc' := 54) dX6_mark_53 rfl rfl ?_
        refine J_iconst (v := 1) (pc' := 55) dX6_mark_54 (by decide) rfl ?_
        refine J_V1v (pc' := 58) dX6_mark_55 lk_6_69 cd_X6_error (k_err1) (ly_0) (l84_0) rfl rfl (jroom_of rfl) (Nat.le_of_ble_eq_true rfl) rfl ?_
        exact J_iret dX6_mark_58  (by unfold sq_mark; rw [if_neg (fun q => by first | exact jb_0.mp h_4 q.1 | exact q.2.1.elim h_9 (jb_0.mp h_17) | exact jb_0.mp h_25 q.2.2.1 | exact q.2.2.2.1 h_42 | exact jb_0.mp h_50 q.2.2.2.2)]; exact ⟨rfl, bq_err hX (by decide)⟩)
      · refine J_iconst (v := 1) (pc' := 29) dX6_mark_28 (by decide) rfl ?_
        refine J_goto (pc' := 0) 33 dX6_mark_29 (by decide) ?_
        refine J_istore (pc' := 35) dX6_mark_33 (Nat.le_of_ble_eq_true rfl) (jst5 rfl rfl) rfl ?_
        refine J_iload (pc' := 37) dX6_mark_35 rfl rfl ?_
        refine J_if_eq 53 (pc' := 40) dX6_mark_37 (by decide) rfl (fun h_37 => absurd h_37 (by decide)) (fun h_37 => ?_)
        refine J_iload_n (pc' := 41) dX6_mark_40 rfl rfl ?_
        refine J_iload_n (pc' := 42) dX6_mark_41 rfl rfl ?_
        refine J_icmp_eq 53 (pc' := 45) dX6_mark_42 (by decide) rfl (fun h_42 => ?_) (fun h_42 => ?_)
        · refine J_aload_n (pc' := 54) dX6_mark_53 rfl rfl ?_
          refine J_iconst (v := 1) (pc' := 55) dX6_mark_54 (by decide) rfl ?_
          refine J_V1v (pc' := 58) dX6_mark_55 lk_6_69 cd_X6_error (k_err1) (ly_0) (l84_0) rfl rfl (jroom_of rfl) (Nat.le_of_ble_eq_true rfl) rfl ?_
          exact J_iret dX6_mark_58  (by unfold sq_mark; rw [if_neg (fun q => by first | exact jb_0.mp h_4 q.1 | exact q.2.1.elim h_9 (jb_0.mp h_17) | exact jb_0.mp h_25 q.2.2.1 | exact q.2.2.2.1 h_42 | exact jb_0.mp h_50 q.2.2.2.2)]; exact ⟨rfl, bq_err hX (by decide)⟩)
        · refine J_iload (pc' := 47) dX6_mark_45 rfl rfl ?_
          refine J_S1v (pc' := 50) dX6_mark_47 lk_6_66 cd_X6_isTold (k_X6_isTold) (jroom_of rfl) (Nat.le_of_ble_eq_true rfl) rfl ?_
          refine J_if_ne 59 (pc' := 53) dX6_mark_50 (by decide) rfl (fun h_50 => ?_) (fun h_50 => ?_)
          · refine J_aload_n (pc' := 60) dX6_mark_59 rfl rfl ?_
            refine J_getR (pc' := 63) dX6_mark_60 fl_6_12 (ly_0) (l84_0) rfl rfl ?_
            refine J_getI (pc' := 66) dX6_mark_63 fl_6_73 (ly_1) (l84_1) rfl rfl ?_
            refine J_bipush (v := 8) (pc' := 68) dX6_mark_66 (by decide) rfl ?_
            refine J_icmp_lt 77 (pc' := 71) dX6_mark_68 (by decide) rfl (fun h_68 => ?_) (fun h_68 => ?_)
            · have hM : w.1 1 8 = nI (sM (abX w 1)) := (sIM hI).1
              have hM8 : sM (abX w 1) < 8 := by
                have h := h_68
                rw [hM, nIc_8] at h
                exact (nI_ltI (by have := (sIM hI).2; omega) (by decide)).mp h
              refine J_aload_n (pc' := 78) dX6_mark_77 rfl rfl ?_
              refine J_getR (pc' := 81) dX6_mark_78 fl_6_12 (ly_0) (l84_0) rfl rfl ?_
              refine J_iload_n (pc' := 82) dX6_mark_81 rfl rfl ?_
              refine J_iload_n (pc' := 83) dX6_mark_82 rfl rfl ?_
              refine J_iload_n (pc' := 84) dX6_mark_83 rfl rfl ?_
              refine J_iload (pc' := 86) dX6_mark_84 rfl rfl ?_
              refine J_V4p (pc' := 89) dX6_mark_86 lk_6_77 cd_X0_add (k_X0_add jb1 hI hX.1 hM8) (ly_1) (l84_1) rfl rfl (jroom_of rfl) (Nat.le_of_ble_eq_true rfl) rfl (fun w86 hw86 => ?_)
              exact J_iret dX6_mark_89  (by unfold sq_mark; rw [if_pos ⟨jb_n h_4, by first | exact Or.inl h_9 | exact Or.inr (jb_n h_17), jb_n h_25, h_42, jb_n h_50⟩, if_neg (by exact Int32.not_le.mpr h_68)]; exact ⟨jv (sIM hI).1.symm, bq_now hX hw86.2.2 hw86.1 hw86.2.1⟩)
            · refine J_aload_n (pc' := 72) dX6_mark_71 rfl rfl ?_
              refine J_iconst (v := 4) (pc' := 73) dX6_mark_72 (by decide) rfl ?_
              refine J_V1v (pc' := 76) dX6_mark_73 lk_6_69 cd_X6_error (k_err4) (ly_0) (l84_0) rfl rfl (jroom_of rfl) (Nat.le_of_ble_eq_true rfl) rfl ?_
              exact J_iret dX6_mark_76  (by unfold sq_mark; rw [if_pos ⟨jb_n h_4, by first | exact Or.inl h_9 | exact Or.inr (jb_n h_17), jb_n h_25, h_42, jb_n h_50⟩, if_pos (by exact Int32.not_lt.mp h_68)]; exact ⟨rfl, bq_err hX (by decide)⟩)
          · refine J_aload_n (pc' := 54) dX6_mark_53 rfl rfl ?_
            refine J_iconst (v := 1) (pc' := 55) dX6_mark_54 (by decide) rfl ?_
            refine J_V1v (pc' := 58) dX6_mark_55 lk_6_69 cd_X6_error (k_err1) (ly_0) (l84_0) rfl rfl (jroom_of rfl) (Nat.le_of_ble_eq_true rfl) rfl ?_
            exact J_iret dX6_mark_58  (by unfold sq_mark; rw [if_neg (fun q => by first | exact jb_0.mp h_4 q.1 | exact q.2.1.elim h_9 (jb_0.mp h_17) | exact jb_0.mp h_25 q.2.2.1 | exact q.2.2.2.1 h_42 | exact jb_0.mp h_50 q.2.2.2.2)]; exact ⟨rfl, bq_err hX (by decide)⟩)
    · refine J_aload_n (pc' := 13) dX6_mark_12 rfl rfl ?_
      refine J_iload_n (pc' := 14) dX6_mark_13 rfl rfl ?_
      refine J_V1v (pc' := 17) dX6_mark_14 lk_6_63 cd_X6_isPicture (k_X6_isPicture) (ly_0) (l84_0) rfl rfl (jroom_of rfl) (Nat.le_of_ble_eq_true rfl) rfl ?_
      refine J_if_eq 32 (pc' := 20) dX6_mark_17 (by decide) rfl (fun h_17 => ?_) (fun h_17 => ?_)
      · refine J_iconst (v := 0) (pc' := 33) dX6_mark_32 (by decide) rfl ?_
        refine J_istore (pc' := 35) dX6_mark_33 (Nat.le_of_ble_eq_true rfl) (jst5 rfl rfl) rfl ?_
        refine J_iload (pc' := 37) dX6_mark_35 rfl rfl ?_
        refine J_if_eq 53 (pc' := 40) dX6_mark_37 (by decide) rfl (fun h_37 => ?_) (fun h_37 => absurd (by decide) h_37)
        refine J_aload_n (pc' := 54) dX6_mark_53 rfl rfl ?_
        refine J_iconst (v := 1) (pc' := 55) dX6_mark_54 (by decide) rfl ?_
        refine J_V1v (pc' := 58) dX6_mark_55 lk_6_69 cd_X6_error (k_err1) (ly_0) (l84_0) rfl rfl (jroom_of rfl) (Nat.le_of_ble_eq_true rfl) rfl ?_
        exact J_iret dX6_mark_58  (by unfold sq_mark; rw [if_neg (fun q => by first | exact jb_0.mp h_4 q.1 | exact q.2.1.elim h_9 (jb_0.mp h_17) | exact jb_0.mp h_25 q.2.2.1 | exact q.2.2.2.1 h_42 | exact jb_0.mp h_50 q.2.2.2.2)]; exact ⟨rfl, bq_err hX (by decide)⟩)
      · refine J_aload_n (pc' := 21) dX6_mark_20 rfl rfl ?_
        refine J_iload_n (pc' := 22) dX6_mark_21 rfl rfl ?_
        refine J_V1v (pc' := 25) dX6_mark_22 lk_6_63 cd_X6_isPicture (k_X6_isPicture) (ly_0) (l84_0) rfl rfl (jroom_of rfl) (Nat.le_of_ble_eq_true rfl) rfl ?_
        refine J_if_eq 32 (pc' := 28) dX6_mark_25 (by decide) rfl (fun h_25 => ?_) (fun h_25 => ?_)
        · refine J_iconst (v := 0) (pc' := 33) dX6_mark_32 (by decide) rfl ?_
          refine J_istore (pc' := 35) dX6_mark_33 (Nat.le_of_ble_eq_true rfl) (jst5 rfl rfl) rfl ?_
          refine J_iload (pc' := 37) dX6_mark_35 rfl rfl ?_
          refine J_if_eq 53 (pc' := 40) dX6_mark_37 (by decide) rfl (fun h_37 => ?_) (fun h_37 => absurd (by decide) h_37)
          refine J_aload_n (pc' := 54) dX6_mark_53 rfl rfl ?_
          refine J_iconst (v := 1) (pc' := 55) dX6_mark_54 (by decide) rfl ?_
          refine J_V1v (pc' := 58) dX6_mark_55 lk_6_69 cd_X6_error (k_err1) (ly_0) (l84_0) rfl rfl (jroom_of rfl) (Nat.le_of_ble_eq_true rfl) rfl ?_
          exact J_iret dX6_mark_58  (by unfold sq_mark; rw [if_neg (fun q => by first | exact jb_0.mp h_4 q.1 | exact q.2.1.elim h_9 (jb_0.mp h_17) | exact jb_0.mp h_25 q.2.2.1 | exact q.2.2.2.1 h_42 | exact jb_0.mp h_50 q.2.2.2.2)]; exact ⟨rfl, bq_err hX (by decide)⟩)
        · refine J_iconst (v := 1) (pc' := 29) dX6_mark_28 (by decide) rfl ?_
          refine J_goto (pc' := 0) 33 dX6_mark_29 (by decide) ?_
          refine J_istore (pc' := 35) dX6_mark_33 (Nat.le_of_ble_eq_true rfl) (jst5 rfl rfl) rfl ?_
          refine J_iload (pc' := 37) dX6_mark_35 rfl rfl ?_
          refine J_if_eq 53 (pc' := 40) dX6_mark_37 (by decide) rfl (fun h_37 => absurd h_37 (by decide)) (fun h_37 => ?_)
          refine J_iload_n (pc' := 41) dX6_mark_40 rfl rfl ?_
          refine J_iload_n (pc' := 42) dX6_mark_41 rfl rfl ?_
          refine J_icmp_eq 53 (pc' := 45) dX6_mark_42 (by decide) rfl (fun h_42 => ?_) (fun h_42 => ?_)
          · refine J_aload_n (pc' := 54) dX6_mark_53 rfl rfl ?_
            refine J_iconst (v := 1) (pc' := 55) dX6_mark_54 (by decide) rfl ?_
            refine J_V1v (pc' := 58) dX6_mark_55 lk_6_69 cd_X6_error (k_err1) (ly_0) (l84_0) rfl rfl (jroom_of rfl) (Nat.le_of_ble_eq_true rfl) rfl ?_
            exact J_iret dX6_mark_58  (by unfold sq_mark; rw [if_neg (fun q => by first | exact jb_0.mp h_4 q.1 | exact q.2.1.elim h_9 (jb_0.mp h_17) | exact jb_0.mp h_25 q.2.2.1 | exact q.2.2.2.1 h_42 | exact jb_0.mp h_50 q.2.2.2.2)]; exact ⟨rfl, bq_err hX (by decide)⟩)
          · refine J_iload (pc' := 47) dX6_mark_45 rfl rfl ?_
            refine J_S1v (pc' := 50) dX6_mark_47 lk_6_66 cd_X6_isTold (k_X6_isTold) (jroom_of rfl) (Nat.le_of_ble_eq_true rfl) rfl ?_
            refine J_if_ne 59 (pc' := 53) dX6_mark_50 (by decide) rfl (fun h_50 => ?_) (fun h_50 => ?_)
            · refine J_aload_n (pc' := 60) dX6_mark_59 rfl rfl ?_
              refine J_getR (pc' := 63) dX6_mark_60 fl_6_12 (ly_0) (l84_0) rfl rfl ?_
              refine J_getI (pc' := 66) dX6_mark_63 fl_6_73 (ly_1) (l84_1) rfl rfl ?_
              refine J_bipush (v := 8) (pc' := 68) dX6_mark_66 (by decide) rfl ?_
              refine J_icmp_lt 77 (pc' := 71) dX6_mark_68 (by decide) rfl (fun h_68 => ?_) (fun h_68 => ?_)
              · have hM : w.1 1 8 = nI (sM (abX w 1)) := (sIM hI).1
                have hM8 : sM (abX w 1) < 8 := by
                  have h := h_68
                  rw [hM, nIc_8] at h
                  exact (nI_ltI (by have := (sIM hI).2; omega) (by decide)).mp h
                refine J_aload_n (pc' := 78) dX6_mark_77 rfl rfl ?_
                refine J_getR (pc' := 81) dX6_mark_78 fl_6_12 (ly_0) (l84_0) rfl rfl ?_
                refine J_iload_n (pc' := 82) dX6_mark_81 rfl rfl ?_
                refine J_iload_n (pc' := 83) dX6_mark_82 rfl rfl ?_
                refine J_iload_n (pc' := 84) dX6_mark_83 rfl rfl ?_
                refine J_iload (pc' := 86) dX6_mark_84 rfl rfl ?_
                refine J_V4p (pc' := 89) dX6_mark_86 lk_6_77 cd_X0_add (k_X0_add jb1 hI hX.1 hM8) (ly_1) (l84_1) rfl rfl (jroom_of rfl) (Nat.le_of_ble_eq_true rfl) rfl (fun w86 hw86 => ?_)
                exact J_iret dX6_mark_89  (by unfold sq_mark; rw [if_pos ⟨jb_n h_4, by first | exact Or.inl h_9 | exact Or.inr (jb_n h_17), jb_n h_25, h_42, jb_n h_50⟩, if_neg (by exact Int32.not_le.mpr h_68)]; exact ⟨jv (sIM hI).1.symm, bq_now hX hw86.2.2 hw86.1 hw86.2.1⟩)
              · refine J_aload_n (pc' := 72) dX6_mark_71 rfl rfl ?_
                refine J_iconst (v := 4) (pc' := 73) dX6_mark_72 (by decide) rfl ?_
                refine J_V1v (pc' := 76) dX6_mark_73 lk_6_69 cd_X6_error (k_err4) (ly_0) (l84_0) rfl rfl (jroom_of rfl) (Nat.le_of_ble_eq_true rfl) rfl ?_
                exact J_iret dX6_mark_76  (by unfold sq_mark; rw [if_pos ⟨jb_n h_4, by first | exact Or.inl h_9 | exact Or.inr (jb_n h_17), jb_n h_25, h_42, jb_n h_50⟩, if_pos (by exact Int32.not_lt.mp h_68)]; exact ⟨rfl, bq_err hX (by decide)⟩)
            · refine J_aload_n (pc' := 54) dX6_mark_53 rfl rfl ?_
              refine J_iconst (v := 1) (pc' := 55) dX6_mark_54 (by decide) rfl ?_
              refine J_V1v (pc' := 58) dX6_mark_55 lk_6_69 cd_X6_error (k_err1) (ly_0) (l84_0) rfl rfl (jroom_of rfl) (Nat.le_of_ble_eq_true rfl) rfl ?_
              exact J_iret dX6_mark_58  (by unfold sq_mark; rw [if_neg (fun q => by first | exact jb_0.mp h_4 q.1 | exact q.2.1.elim h_9 (jb_0.mp h_17) | exact jb_0.mp h_25 q.2.2.1 | exact q.2.2.2.1 h_42 | exact jb_0.mp h_50 q.2.2.2.2)]; exact ⟨rfl, bq_err hX (by decide)⟩)
def sq_markIs (s k r : sg) (x : Int32) (y : Int32) : sQI := if sIsM s x then (if y = 0 then (s 0 (nn x), s, k, r) else if y = 1 then (s 1 (nn x), s, k, r) else if y = 2 then (s 2 (nn x), s, k, r) else if y = 3 then (s 3 (nn x), s, k, r) else if y = 4 then (s 4 (nn x), s, k, r) else if y = 5 then (s 5 (nn x), s, k, r) else if y = 6 then (sW s (nn x), s, k, r) else if y = 7 then (sS s (nn x), s, k, r) else (sErr 1, s, k, sEr r 1)) else (sErr 1, s, k, sEr r 1)
set_option maxHeartbeats 4000000 in
set_option maxRecDepth 100000 in
theorem a_X6_markIs {G : jG} {w : jWd} (hX : XInv w) (hI : sInv (abX w 1)) {x : Int32} {y : Int32} : jKp G 4 yX6_markIs cX6_markIs 3 (some .int) [.ref 0, .int x, .int y] w (some (.int (sq_markIs (abX w 1) (abX w 16) (restX w) x y).1)) (fun w' => BQ w w' (sq_markIs (abX w 1) (abX w 16) (restX w) x y).2) := by
  refine jK_of (own := RX6) [some (.ref 0), some (.int x), some (.int y)] pn6 rfl (Nat.le_of_ble_eq_true rfl) rfl ?_
  refine J_aload_n (pc' := 1) dX6_markIs_0 rfl rfl ?_
  refine J_iload_n (pc' := 2) dX6_markIs_1 rfl rfl ?_
  refine J_V1v (pc' := 5) dX6_markIs_2 lk_6_81 cd_X6_isMark (k_X6_isMark) (ly_0) (l84_0) rfl rfl (jroom_of rfl) (Nat.le_of_ble_eq_true rfl) rfl ?_
  refine J_if_ne 14 (pc' := 8) dX6_markIs_5 (by decide) rfl (fun h_5 => ?_) (fun h_5 => ?_)
  · obtain ⟨k, hk, rfl⟩ := sIsM_ex hI (jb_n h_5)
    have h8 : k < 8 := Nat.lt_of_lt_of_le hk (sIM hI).2
    refine J_iload_n (pc' := 15) dX6_markIs_14 rfl rfl ?_
    by_cases e15_0 : y = 0
    · refine J_tabIn (pc' := 0) (off := 45) 60 dX6_markIs_15 (by rw [e15_0]; decide) (by rw [e15_0]; decide) (by rw [e15_0]; decide) (by decide) ?_
      refine J_aload_n (pc' := 61) dX6_markIs_60 rfl rfl ?_
      refine J_getR (pc' := 64) dX6_markIs_61 fl_6_12 (ly_0) (l84_0) rfl rfl ?_
      refine J_getR (pc' := 67) dX6_markIs_64 fl_6_84 (ly_1) (l84_1) rfl rfl ?_
      refine J_iload_n (pc' := 68) dX6_markIs_67 rfl rfl ?_
      refine J_iald k (pc' := 69) dX6_markIs_68 (ly_2) (l84_2) rfl h8 (by decide) rfl ?_
      exact J_iret dX6_markIs_69  (by unfold sq_markIs; rw [if_pos (by exact jb_n h_5), if_pos e15_0, nn_nI (by omega)]; exact ⟨by rw [ax0 h8], bq_rf hX⟩)
    by_cases e15_1 : y = 1
    · refine J_tabIn (pc' := 0) (off := 55) 70 dX6_markIs_15 (by rw [e15_1]; decide) (by rw [e15_1]; decide) (by rw [e15_1]; decide) (by decide) ?_
      refine J_aload_n (pc' := 71) dX6_markIs_70 rfl rfl ?_
      refine J_getR (pc' := 74) dX6_markIs_71 fl_6_12 (ly_0) (l84_0) rfl rfl ?_
      refine J_getR (pc' := 77) dX6_markIs_74 fl_6_87 (ly_1) (l84_1) rfl rfl ?_
      refine J_iload_n (pc' := 78) dX6_markIs_77 rfl rfl ?_
      refine J_iald k (pc' := 79) dX6_markIs_78 (ly_3) (l84_3) rfl h8 (by decide) rfl ?_
      exact J_iret dX6_markIs_79  (by unfold sq_markIs; rw [if_pos (by exact jb_n h_5), if_neg e15_0, if_pos e15_1, nn_nI (by omega)]; exact ⟨by rw [ax1 h8], bq_rf hX⟩)
    by_cases e15_2 : y = 2
    · refine J_tabIn (pc' := 0) (off := 65) 80 dX6_markIs_15 (by rw [e15_2]; decide) (by rw [e15_2]; decide) (by rw [e15_2]; decide) (by decide) ?_
      refine J_aload_n (pc' := 81) dX6_markIs_80 rfl rfl ?_
      refine J_getR (pc' := 84) dX6_markIs_81 fl_6_12 (ly_0) (l84_0) rfl rfl ?_
      refine J_getR (pc' := 87) dX6_markIs_84 fl_6_90 (ly_1) (l84_1) rfl rfl ?_
      refine J_iload_n (pc' := 88) dX6_markIs_87 rfl rfl ?_
      refine J_iald k (pc' := 89) dX6_markIs_88 (ly_4) (l84_4) rfl h8 (by decide) rfl ?_
      exact J_iret dX6_markIs_89  (by unfold sq_markIs; rw [if_pos (by exact jb_n h_5), if_neg e15_0, if_neg e15_1, if_pos e15_2, nn_nI (by omega)]; exact ⟨by rw [ax2 h8], bq_rf hX⟩)
    by_cases e15_3 : y = 3
    · refine J_tabIn (pc' := 0) (off := 75) 90 dX6_markIs_15 (by rw [e15_3]; decide) (by rw [e15_3]; decide) (by rw [e15_3]; decide) (by decide) ?_
      refine J_aload_n (pc' := 91) dX6_markIs_90 rfl rfl ?_
      refine J_getR (pc' := 94) dX6_markIs_91 fl_6_12 (ly_0) (l84_0) rfl rfl ?_
      refine J_getR (pc' := 97) dX6_markIs_94 fl_6_93 (ly_1) (l84_1) rfl rfl ?_
      refine J_iload_n (pc' := 98) dX6_markIs_97 rfl rfl ?_
      refine J_iald k (pc' := 99) dX6_markIs_98 (ly_5) (l84_5) rfl h8 (by decide) rfl ?_
      exact J_iret dX6_markIs_99  (by unfold sq_markIs; rw [if_pos (by exact jb_n h_5), if_neg e15_0, if_neg e15_1, if_neg e15_2, if_pos e15_3, nn_nI (by omega)]; exact ⟨by rw [ax3 h8], bq_rf hX⟩)
    by_cases e15_4 : y = 4
    · refine J_tabIn (pc' := 0) (off := 85) 100 dX6_markIs_15 (by rw [e15_4]; decide) (by rw [e15_4]; decide) (by rw [e15_4]; decide) (by decide) ?_
      refine J_aload_n (pc' := 101) dX6_markIs_100 rfl rfl ?_
      refine J_getR (pc' := 104) dX6_markIs_101 fl_6_12 (ly_0) (l84_0) rfl rfl ?_
      refine J_getR (pc' := 107) dX6_markIs_104 fl_6_96 (ly_1) (l84_1) rfl rfl ?_
      refine J_iload_n (pc' := 108) dX6_markIs_107 rfl rfl ?_
      refine J_iald k (pc' := 109) dX6_markIs_108 (ly_6) (l84_6) rfl h8 (by decide) rfl ?_
      exact J_iret dX6_markIs_109  (by unfold sq_markIs; rw [if_pos (by exact jb_n h_5), if_neg e15_0, if_neg e15_1, if_neg e15_2, if_neg e15_3, if_pos e15_4, nn_nI (by omega)]; exact ⟨by rw [ax4 h8], bq_rf hX⟩)
    by_cases e15_5 : y = 5
    · refine J_tabIn (pc' := 0) (off := 95) 110 dX6_markIs_15 (by rw [e15_5]; decide) (by rw [e15_5]; decide) (by rw [e15_5]; decide) (by decide) ?_
      refine J_aload_n (pc' := 111) dX6_markIs_110 rfl rfl ?_
      refine J_getR (pc' := 114) dX6_markIs_111 fl_6_12 (ly_0) (l84_0) rfl rfl ?_
      refine J_iload_n (pc' := 115) dX6_markIs_114 rfl rfl ?_
      refine J_V1v (pc' := 118) dX6_markIs_115 lk_6_99 cd_X0_isOn (k_X0_isOn jb1 h8) (ly_1) (l84_1) rfl rfl (jroom_of rfl) (Nat.le_of_ble_eq_true rfl) rfl ?_
      refine J_if_eq 125 (pc' := 121) dX6_markIs_118 (by decide) rfl (fun h_118 => ?_) (fun h_118 => ?_)
      · refine J_iconst (v := 0) (pc' := 126) dX6_markIs_125 (by decide) rfl ?_
        have h01 := (sIk hI hk).2.2.2.2.2.2
        exact J_iret dX6_markIs_126  (by unfold sq_markIs; rw [if_pos (by exact jb_n h_5), if_neg e15_0, if_neg e15_1, if_neg e15_2, if_neg e15_3, if_neg e15_4, if_pos e15_5, nn_nI (by omega)]; exact ⟨jv (by first | exact (jb_n h_118).symm | exact (h01.resolve_right (jb_0.mp h_118)).symm), bq_rf hX⟩)
      · refine J_iconst (v := 1) (pc' := 122) dX6_markIs_121 (by decide) rfl ?_
        refine J_goto (pc' := 0) 126 dX6_markIs_122 (by decide) ?_
        have h01 := (sIk hI hk).2.2.2.2.2.2
        exact J_iret dX6_markIs_126  (by unfold sq_markIs; rw [if_pos (by exact jb_n h_5), if_neg e15_0, if_neg e15_1, if_neg e15_2, if_neg e15_3, if_neg e15_4, if_pos e15_5, nn_nI (by omega)]; exact ⟨jv (by first | exact (jb_n h_118).symm | exact (h01.resolve_right (jb_0.mp h_118)).symm), bq_rf hX⟩)
    by_cases e15_6 : y = 6
    · refine J_tabIn (pc' := 0) (off := 112) 127 dX6_markIs_15 (by rw [e15_6]; decide) (by rw [e15_6]; decide) (by rw [e15_6]; decide) (by decide) ?_
      refine J_aload_n (pc' := 128) dX6_markIs_127 rfl rfl ?_
      refine J_getR (pc' := 131) dX6_markIs_128 fl_6_12 (ly_0) (l84_0) rfl rfl ?_
      refine J_iload_n (pc' := 132) dX6_markIs_131 rfl rfl ?_
      refine J_V1v (pc' := 135) dX6_markIs_132 lk_6_102 cd_X0_weightOf (k_X0_weightOf jb1 hI hX.1 hk) (ly_1) (l84_1) rfl rfl (jroom_of rfl) (Nat.le_of_ble_eq_true rfl) rfl ?_
      exact J_iret dX6_markIs_135  (by unfold sq_markIs; rw [if_pos (by exact jb_n h_5), if_neg e15_0, if_neg e15_1, if_neg e15_2, if_neg e15_3, if_neg e15_4, if_neg e15_5, if_pos e15_6, nn_nI (by omega)]; exact ⟨rfl, bq_rf hX⟩)
    by_cases e15_7 : y = 7
    · refine J_tabIn (pc' := 0) (off := 121) 136 dX6_markIs_15 (by rw [e15_7]; decide) (by rw [e15_7]; decide) (by rw [e15_7]; decide) (by decide) ?_
      refine J_aload_n (pc' := 137) dX6_markIs_136 rfl rfl ?_
      refine J_getR (pc' := 140) dX6_markIs_137 fl_6_12 (ly_0) (l84_0) rfl rfl ?_
      refine J_iload_n (pc' := 141) dX6_markIs_140 rfl rfl ?_
      refine J_V1v (pc' := 144) dX6_markIs_141 lk_6_105 cd_X0_saidBy (k_X0_saidBy jb1 hI hX.1 hk) (ly_1) (l84_1) rfl rfl (jroom_of rfl) (Nat.le_of_ble_eq_true rfl) rfl ?_
      exact J_iret dX6_markIs_144  (by unfold sq_markIs; rw [if_pos (by exact jb_n h_5), if_neg e15_0, if_neg e15_1, if_neg e15_2, if_neg e15_3, if_neg e15_4, if_neg e15_5, if_neg e15_6, if_pos e15_7, nn_nI (by omega)]; exact ⟨rfl, bq_rf hX⟩)
    refine J_tabOut (pc' := 0) 145 dX6_markIs_15 (by have q0 := zneI e15_0 (k := 0) (by decide); have q1 := zneI e15_1 (k := 1) (by decide); have q2 := zneI e15_2 (k := 2) (by decide); have q3 := zneI e15_3 (k := 3) (by decide); have q4 := zneI e15_4 (k := 4) (by decide); have q5 := zneI e15_5 (k := 5) (by decide); have q6 := zneI e15_6 (k := 6) (by decide); have q7 := zneI e15_7 (k := 7) (by decide); omega) (by decide) ?_
    refine J_aload_n (pc' := 146) dX6_markIs_145 rfl rfl ?_
    refine J_iconst (v := 1) (pc' := 147) dX6_markIs_146 (by decide) rfl ?_
    refine J_V1v (pc' := 150) dX6_markIs_147 lk_6_69 cd_X6_error (k_err1) (ly_0) (l84_0) rfl rfl (jroom_of rfl) (Nat.le_of_ble_eq_true rfl) rfl ?_
    exact J_iret dX6_markIs_150  (by unfold sq_markIs; rw [if_pos (by exact jb_n h_5), if_neg e15_0, if_neg e15_1, if_neg e15_2, if_neg e15_3, if_neg e15_4, if_neg e15_5, if_neg e15_6, if_neg e15_7]; exact ⟨rfl, bq_err hX (by decide)⟩)
  · refine J_aload_n (pc' := 9) dX6_markIs_8 rfl rfl ?_
    refine J_iconst (v := 1) (pc' := 10) dX6_markIs_9 (by decide) rfl ?_
    refine J_V1v (pc' := 13) dX6_markIs_10 lk_6_69 cd_X6_error (k_err1) (ly_0) (l84_0) rfl rfl (jroom_of rfl) (Nat.le_of_ble_eq_true rfl) rfl ?_
    exact J_iret dX6_markIs_13  (by unfold sq_markIs; rw [if_neg (by exact jb_0.mp h_5)]; exact ⟨rfl, bq_err hX (by decide)⟩)
def sq_on (s k r : sg) (x : Int32) (v : Int32) : sQI := if sIsM s x ∧ (0 ≤ v ∧ v ≤ 1) then (s 5 (nn x), sg1 s 5 (nn x) (if v = 1 then 1 else 0), k, r) else (sErr 1, s, k, sEr r 1)
set_option maxHeartbeats 4000000 in
set_option maxRecDepth 100000 in
theorem a_X6_on {G : jG} {w : jWd} (hX : XInv w) (hI : sInv (abX w 1)) {x : Int32} {v : Int32} : jKp G 2 yX6_on cX6_on 4 (some .int) [.ref 0, .int x, .int v] w (some (.int (sq_on (abX w 1) (abX w 16) (restX w) x v).1)) (fun w' => BQ w w' (sq_on (abX w 1) (abX w 16) (restX w) x v).2) := by
  refine jK_of (own := RX6) [some (.ref 0), some (.int x), some (.int v), none] pn6 rfl (Nat.le_of_ble_eq_true rfl) rfl ?_
  refine J_aload_n (pc' := 1) dX6_on_0 rfl rfl ?_
  refine J_iload_n (pc' := 2) dX6_on_1 rfl rfl ?_
  refine J_V1v (pc' := 5) dX6_on_2 lk_6_81 cd_X6_isMark (k_X6_isMark) (ly_0) (l84_0) rfl rfl (jroom_of rfl) (Nat.le_of_ble_eq_true rfl) rfl ?_
  refine J_if_eq 17 (pc' := 8) dX6_on_5 (by decide) rfl (fun h_5 => ?_) (fun h_5 => ?_)
  · refine J_aload_n (pc' := 18) dX6_on_17 rfl rfl ?_
    refine J_iconst (v := 1) (pc' := 19) dX6_on_18 (by decide) rfl ?_
    refine J_V1v (pc' := 22) dX6_on_19 lk_6_69 cd_X6_error (k_err1) (ly_0) (l84_0) rfl rfl (jroom_of rfl) (Nat.le_of_ble_eq_true rfl) rfl ?_
    exact J_iret dX6_on_22  (by unfold sq_on; rw [if_neg (fun q => by first | exact jb_0.mp h_5 q.1 | exact jb_0.mp h_14 q.2)]; exact ⟨rfl, bq_err hX (by decide)⟩)
  · refine J_iload_n (pc' := 9) dX6_on_8 rfl rfl ?_
    refine J_iconst (v := 0) (pc' := 10) dX6_on_9 (by decide) rfl ?_
    refine J_iconst (v := 1) (pc' := 11) dX6_on_10 (by decide) rfl ?_
    refine J_S3v (pc' := 14) dX6_on_11 lk_6_108 cd_X6_isWithin (k_X6_isWithin) (jroom_of rfl) (Nat.le_of_ble_eq_true rfl) rfl ?_
    refine J_if_ne 23 (pc' := 17) dX6_on_14 (by decide) rfl (fun h_14 => ?_) (fun h_14 => ?_)
    · obtain ⟨k, hk, rfl⟩ := sIsM_ex hI (jb_n h_5)
      have h8 : k < 8 := Nat.lt_of_lt_of_le hk (sIM hI).2
      refine J_aload_n (pc' := 24) dX6_on_23 rfl rfl ?_
      refine J_getR (pc' := 27) dX6_on_24 fl_6_12 (ly_0) (l84_0) rfl rfl ?_
      refine J_iload_n (pc' := 28) dX6_on_27 rfl rfl ?_
      refine J_V1v (pc' := 31) dX6_on_28 lk_6_99 cd_X0_isOn (k_X0_isOn jb1 h8) (ly_1) (l84_1) rfl rfl (jroom_of rfl) (Nat.le_of_ble_eq_true rfl) rfl ?_
      refine J_if_eq 38 (pc' := 34) dX6_on_31 (by decide) rfl (fun h_31 => ?_) (fun h_31 => ?_)
      · refine J_iconst (v := 0) (pc' := 39) dX6_on_38 (by decide) rfl ?_
        refine J_istore_n (pc' := 40) dX6_on_39 (Nat.le_of_ble_eq_true rfl) (jst3 rfl rfl) rfl ?_
        refine J_aload_n (pc' := 41) dX6_on_40 rfl rfl ?_
        refine J_getR (pc' := 44) dX6_on_41 fl_6_12 (ly_0) (l84_0) rfl rfl ?_
        refine J_iload_n (pc' := 45) dX6_on_44 rfl rfl ?_
        refine J_iload_n (pc' := 46) dX6_on_45 rfl rfl ?_
        refine J_iconst (v := 1) (pc' := 47) dX6_on_46 (by decide) rfl ?_
        refine J_icmp_ne 54 (pc' := 50) dX6_on_47 (by decide) rfl (fun h_47 => ?_) (fun h_47 => ?_)
        · refine J_iconst (v := 0) (pc' := 55) dX6_on_54 (by decide) rfl ?_
          refine J_V20 (pc' := 58) dX6_on_55 lk_6_116 cd_X0_turn (k_X0_turn jb1 (k := k)) (ly_1) (l84_1) rfl rfl (jroom_of rfl) (Nat.le_of_ble_eq_true rfl) rfl ?_
          refine J_iload_n (pc' := 59) dX6_on_58 rfl rfl ?_
          have h01 := (sIk hI hk).2.2.2.2.2.2
          exact J_iret dX6_on_59  (by unfold sq_on; rw [if_pos ⟨jb_n h_5, jb_n h_14⟩, nn_nI (by omega)]; (first | rw [if_pos h_47] | rw [if_neg h_47]); exact ⟨jv (by first | exact (jb_n h_31).symm | exact (h01.resolve_right (jb_0.mp h_31)).symm), bq_now hX ((frB.rf 1 w).set (by omega) (by omega)) (abX_turn hX.1 h8).1 (abX_turn hX.1 h8).2⟩)
        · refine J_iconst (v := 1) (pc' := 51) dX6_on_50 (by decide) rfl ?_
          refine J_goto (pc' := 0) 55 dX6_on_51 (by decide) ?_
          refine J_V20 (pc' := 58) dX6_on_55 lk_6_116 cd_X0_turn (k_X0_turn jb1 (k := k)) (ly_1) (l84_1) rfl rfl (jroom_of rfl) (Nat.le_of_ble_eq_true rfl) rfl ?_
          refine J_iload_n (pc' := 59) dX6_on_58 rfl rfl ?_
          have h01 := (sIk hI hk).2.2.2.2.2.2
          exact J_iret dX6_on_59  (by unfold sq_on; rw [if_pos ⟨jb_n h_5, jb_n h_14⟩, nn_nI (by omega)]; (first | rw [if_pos h_47] | rw [if_neg h_47]); exact ⟨jv (by first | exact (jb_n h_31).symm | exact (h01.resolve_right (jb_0.mp h_31)).symm), bq_now hX ((frB.rf 1 w).set (by omega) (by omega)) (abX_turn hX.1 h8).1 (abX_turn hX.1 h8).2⟩)
      · refine J_iconst (v := 1) (pc' := 35) dX6_on_34 (by decide) rfl ?_
        refine J_goto (pc' := 0) 39 dX6_on_35 (by decide) ?_
        refine J_istore_n (pc' := 40) dX6_on_39 (Nat.le_of_ble_eq_true rfl) (jst3 rfl rfl) rfl ?_
        refine J_aload_n (pc' := 41) dX6_on_40 rfl rfl ?_
        refine J_getR (pc' := 44) dX6_on_41 fl_6_12 (ly_0) (l84_0) rfl rfl ?_
        refine J_iload_n (pc' := 45) dX6_on_44 rfl rfl ?_
        refine J_iload_n (pc' := 46) dX6_on_45 rfl rfl ?_
        refine J_iconst (v := 1) (pc' := 47) dX6_on_46 (by decide) rfl ?_
        refine J_icmp_ne 54 (pc' := 50) dX6_on_47 (by decide) rfl (fun h_47 => ?_) (fun h_47 => ?_)
        · refine J_iconst (v := 0) (pc' := 55) dX6_on_54 (by decide) rfl ?_
          refine J_V20 (pc' := 58) dX6_on_55 lk_6_116 cd_X0_turn (k_X0_turn jb1 (k := k)) (ly_1) (l84_1) rfl rfl (jroom_of rfl) (Nat.le_of_ble_eq_true rfl) rfl ?_
          refine J_iload_n (pc' := 59) dX6_on_58 rfl rfl ?_
          have h01 := (sIk hI hk).2.2.2.2.2.2
          exact J_iret dX6_on_59  (by unfold sq_on; rw [if_pos ⟨jb_n h_5, jb_n h_14⟩, nn_nI (by omega)]; (first | rw [if_pos h_47] | rw [if_neg h_47]); exact ⟨jv (by first | exact (jb_n h_31).symm | exact (h01.resolve_right (jb_0.mp h_31)).symm), bq_now hX ((frB.rf 1 w).set (by omega) (by omega)) (abX_turn hX.1 h8).1 (abX_turn hX.1 h8).2⟩)
        · refine J_iconst (v := 1) (pc' := 51) dX6_on_50 (by decide) rfl ?_
          refine J_goto (pc' := 0) 55 dX6_on_51 (by decide) ?_
          refine J_V20 (pc' := 58) dX6_on_55 lk_6_116 cd_X0_turn (k_X0_turn jb1 (k := k)) (ly_1) (l84_1) rfl rfl (jroom_of rfl) (Nat.le_of_ble_eq_true rfl) rfl ?_
          refine J_iload_n (pc' := 59) dX6_on_58 rfl rfl ?_
          have h01 := (sIk hI hk).2.2.2.2.2.2
          exact J_iret dX6_on_59  (by unfold sq_on; rw [if_pos ⟨jb_n h_5, jb_n h_14⟩, nn_nI (by omega)]; (first | rw [if_pos h_47] | rw [if_neg h_47]); exact ⟨jv (by first | exact (jb_n h_31).symm | exact (h01.resolve_right (jb_0.mp h_31)).symm), bq_now hX ((frB.rf 1 w).set (by omega) (by omega)) (abX_turn hX.1 h8).1 (abX_turn hX.1 h8).2⟩)
    · refine J_aload_n (pc' := 18) dX6_on_17 rfl rfl ?_
      refine J_iconst (v := 1) (pc' := 19) dX6_on_18 (by decide) rfl ?_
      refine J_V1v (pc' := 22) dX6_on_19 lk_6_69 cd_X6_error (k_err1) (ly_0) (l84_0) rfl rfl (jroom_of rfl) (Nat.le_of_ble_eq_true rfl) rfl ?_
      exact J_iret dX6_on_22  (by unfold sq_on; rw [if_neg (fun q => by first | exact jb_0.mp h_5 q.1 | exact jb_0.mp h_14 q.2)]; exact ⟨rfl, bq_err hX (by decide)⟩)
def sq_pictures (s k r : sg) (n : Int32) : sQI := if 1 ≤ n ∧ n ≤ 4 then (if n ≤ sLast s (sM s) then (sErr 3, s, k, sEr r 3) else (s 6 1, sg1 s 6 1 n, k, r)) else (sErr 1, s, k, sEr r 1)
set_option maxHeartbeats 4000000 in
set_option maxRecDepth 100000 in
theorem a_X6_pictures {G : jG} {w : jWd} (hX : XInv w) (hI : sInv (abX w 1)) {n : Int32} : jKp G 2 yX6_pictures cX6_pictures 3 (some .int) [.ref 0, .int n] w (some (.int (sq_pictures (abX w 1) (abX w 16) (restX w) n).1)) (fun w' => BQ w w' (sq_pictures (abX w 1) (abX w 16) (restX w) n).2) := by
  refine jK_of (own := RX6) [some (.ref 0), some (.int n), none] pn6 rfl (Nat.le_of_ble_eq_true rfl) rfl ?_
  refine J_iload_n (pc' := 1) dX6_pictures_0 rfl rfl ?_
  refine J_iconst (v := 1) (pc' := 2) dX6_pictures_1 (by decide) rfl ?_
  refine J_iconst (v := 4) (pc' := 3) dX6_pictures_2 (by decide) rfl ?_
  refine J_S3v (pc' := 6) dX6_pictures_3 lk_6_108 cd_X6_isWithin (k_X6_isWithin) (jroom_of rfl) (Nat.le_of_ble_eq_true rfl) rfl ?_
  refine J_if_ne 15 (pc' := 9) dX6_pictures_6 (by decide) rfl (fun h_6 => ?_) (fun h_6 => ?_)
  · refine J_aload_n (pc' := 16) dX6_pictures_15 rfl rfl ?_
    refine J_getR (pc' := 19) dX6_pictures_16 fl_6_12 (ly_0) (l84_0) rfl rfl ?_
    refine J_V0v (pc' := 22) dX6_pictures_19 lk_6_120 cd_X0_lastPictureMarked (k_X0_lastPictureMarked jb1 hI) (ly_1) (l84_1) rfl rfl (jroom_of rfl) (Nat.le_of_ble_eq_true rfl) rfl ?_
    refine J_iload_n (pc' := 23) dX6_pictures_22 rfl rfl ?_
    refine J_icmp_lt 32 (pc' := 26) dX6_pictures_23 (by decide) rfl (fun h_23 => ?_) (fun h_23 => ?_)
    · refine J_aload_n (pc' := 33) dX6_pictures_32 rfl rfl ?_
      refine J_getR (pc' := 36) dX6_pictures_33 fl_6_12 (ly_0) (l84_0) rfl rfl ?_
      refine J_getI (pc' := 39) dX6_pictures_36 fl_6_124 (ly_1) (l84_1) rfl rfl ?_
      refine J_istore_n (pc' := 40) dX6_pictures_39 (Nat.le_of_ble_eq_true rfl) (jst2 rfl rfl) rfl ?_
      refine J_aload_n (pc' := 41) dX6_pictures_40 rfl rfl ?_
      refine J_getR (pc' := 44) dX6_pictures_41 fl_6_12 (ly_0) (l84_0) rfl rfl ?_
      refine J_iload_n (pc' := 45) dX6_pictures_44 rfl rfl ?_
      refine J_putI (pc' := 48) dX6_pictures_45 fp_6_124 (ly_1) (l84_1) rfl rfl ?_
      refine J_iload_n (pc' := 49) dX6_pictures_48 rfl rfl ?_
      exact J_iret dX6_pictures_49  (by unfold sq_pictures; rw [if_pos (by exact jb_n h_6), if_neg (by exact Int32.not_le.mpr h_23)]; exact ⟨rfl, bq_now hX ((frB.rf 1 w).set (by omega) (by omega)) abX_f10 (xB_set hX.1 (by omega) (by omega) (by omega))⟩)
    · refine J_aload_n (pc' := 27) dX6_pictures_26 rfl rfl ?_
      refine J_iconst (v := 3) (pc' := 28) dX6_pictures_27 (by decide) rfl ?_
      refine J_V1v (pc' := 31) dX6_pictures_28 lk_6_69 cd_X6_error (k_err3) (ly_0) (l84_0) rfl rfl (jroom_of rfl) (Nat.le_of_ble_eq_true rfl) rfl ?_
      exact J_iret dX6_pictures_31  (by unfold sq_pictures; rw [if_pos (by exact jb_n h_6), if_pos (by exact Int32.not_lt.mp h_23)]; exact ⟨rfl, bq_err hX (by decide)⟩)
  · refine J_aload_n (pc' := 10) dX6_pictures_9 rfl rfl ?_
    refine J_iconst (v := 1) (pc' := 11) dX6_pictures_10 (by decide) rfl ?_
    refine J_V1v (pc' := 14) dX6_pictures_11 lk_6_69 cd_X6_error (k_err1) (ly_0) (l84_0) rfl rfl (jroom_of rfl) (Nat.le_of_ble_eq_true rfl) rfl ?_
    exact J_iret dX6_pictures_14  (by unfold sq_pictures; rw [if_neg (fun q => by first | exact jb_0.mp h_6 q)]; exact ⟨rfl, bq_err hX (by decide)⟩)
def sq_limit (s k r : sg) (v : Int32) : sQI := if 0 ≤ v ∧ v ≤ 99 then (s 6 3, sg1 s 6 3 v, k, r) else (sErr 1, s, k, sEr r 1)
set_option maxHeartbeats 4000000 in
set_option maxRecDepth 100000 in
theorem a_X6_limit {G : jG} {w : jWd} (hX : XInv w) (hI : sInv (abX w 1)) {v : Int32} : jKp G 2 yX6_limit cX6_limit 3 (some .int) [.ref 0, .int v] w (some (.int (sq_limit (abX w 1) (abX w 16) (restX w) v).1)) (fun w' => BQ w w' (sq_limit (abX w 1) (abX w 16) (restX w) v).2) := by
  refine jK_of (own := RX6) [some (.ref 0), some (.int v), none] pn6 rfl (Nat.le_of_ble_eq_true rfl) rfl ?_
  refine J_iload_n (pc' := 1) dX6_limit_0 rfl rfl ?_
  refine J_iconst (v := 0) (pc' := 2) dX6_limit_1 (by decide) rfl ?_
  refine J_bipush (v := 99) (pc' := 4) dX6_limit_2 (by decide) rfl ?_
  refine J_S3v (pc' := 7) dX6_limit_4 lk_6_108 cd_X6_isWithin (k_X6_isWithin) (jroom_of rfl) (Nat.le_of_ble_eq_true rfl) rfl ?_
  refine J_if_ne 16 (pc' := 10) dX6_limit_7 (by decide) rfl (fun h_7 => ?_) (fun h_7 => ?_)
  · refine J_aload_n (pc' := 17) dX6_limit_16 rfl rfl ?_
    refine J_getR (pc' := 20) dX6_limit_17 fl_6_12 (ly_0) (l84_0) rfl rfl ?_
    refine J_getI (pc' := 23) dX6_limit_20 fl_6_127 (ly_1) (l84_1) rfl rfl ?_
    refine J_istore_n (pc' := 24) dX6_limit_23 (Nat.le_of_ble_eq_true rfl) (jst2 rfl rfl) rfl ?_
    refine J_aload_n (pc' := 25) dX6_limit_24 rfl rfl ?_
    refine J_getR (pc' := 28) dX6_limit_25 fl_6_12 (ly_0) (l84_0) rfl rfl ?_
    refine J_iload_n (pc' := 29) dX6_limit_28 rfl rfl ?_
    refine J_putI (pc' := 32) dX6_limit_29 fp_6_127 (ly_1) (l84_1) rfl rfl ?_
    refine J_iload_n (pc' := 33) dX6_limit_32 rfl rfl ?_
    exact J_iret dX6_limit_33  (by unfold sq_limit; rw [if_pos (by exact jb_n h_7)]; exact ⟨rfl, bq_now hX ((frB.rf 1 w).set (by omega) (by omega)) abX_f12 (xB_set hX.1 (by omega) (by omega) (by omega))⟩)
  · refine J_aload_n (pc' := 11) dX6_limit_10 rfl rfl ?_
    refine J_iconst (v := 1) (pc' := 12) dX6_limit_11 (by decide) rfl ?_
    refine J_V1v (pc' := 15) dX6_limit_12 lk_6_69 cd_X6_error (k_err1) (ly_0) (l84_0) rfl rfl (jroom_of rfl) (Nat.le_of_ble_eq_true rfl) rfl ?_
    exact J_iret dX6_limit_15  (by unfold sq_limit; rw [if_neg (fun q => by first | exact jb_0.mp h_7 q)]; exact ⟨rfl, bq_err hX (by decide)⟩)
def sq_round (s k r : sg) (v : Int32) : sQI := if 0 ≤ v ∧ v ≤ 9999 then (s 6 2, sg1 s 6 2 v, k, r) else (sErr 1, s, k, sEr r 1)
set_option maxHeartbeats 4000000 in
set_option maxRecDepth 100000 in
theorem a_X6_round {G : jG} {w : jWd} (hX : XInv w) (hI : sInv (abX w 1)) {v : Int32} : jKp G 2 yX6_round cX6_round 3 (some .int) [.ref 0, .int v] w (some (.int (sq_round (abX w 1) (abX w 16) (restX w) v).1)) (fun w' => BQ w w' (sq_round (abX w 1) (abX w 16) (restX w) v).2) := by
  refine jK_of (own := RX6) [some (.ref 0), some (.int v), none] pn6 rfl (Nat.le_of_ble_eq_true rfl) rfl ?_
  refine J_iload_n (pc' := 1) dX6_round_0 rfl rfl ?_
  refine J_iconst (v := 0) (pc' := 2) dX6_round_1 (by decide) rfl ?_
  refine J_sipush (v := 9999) (pc' := 5) dX6_round_2 (by decide) rfl ?_
  refine J_S3v (pc' := 8) dX6_round_5 lk_6_108 cd_X6_isWithin (k_X6_isWithin) (jroom_of rfl) (Nat.le_of_ble_eq_true rfl) rfl ?_
  refine J_if_ne 17 (pc' := 11) dX6_round_8 (by decide) rfl (fun h_8 => ?_) (fun h_8 => ?_)
  · refine J_aload_n (pc' := 18) dX6_round_17 rfl rfl ?_
    refine J_getR (pc' := 21) dX6_round_18 fl_6_12 (ly_0) (l84_0) rfl rfl ?_
    refine J_getI (pc' := 24) dX6_round_21 fl_6_171 (ly_1) (l84_1) rfl rfl ?_
    refine J_istore_n (pc' := 25) dX6_round_24 (Nat.le_of_ble_eq_true rfl) (jst2 rfl rfl) rfl ?_
    refine J_aload_n (pc' := 26) dX6_round_25 rfl rfl ?_
    refine J_getR (pc' := 29) dX6_round_26 fl_6_12 (ly_0) (l84_0) rfl rfl ?_
    refine J_iload_n (pc' := 30) dX6_round_29 rfl rfl ?_
    refine J_putI (pc' := 33) dX6_round_30 fp_6_171 (ly_1) (l84_1) rfl rfl ?_
    refine J_iload_n (pc' := 34) dX6_round_33 rfl rfl ?_
    exact J_iret dX6_round_34  (by unfold sq_round; rw [if_pos (by exact jb_n h_8)]; exact ⟨rfl, bq_now hX ((frB.rf 1 w).set (by omega) (by omega)) abX_f11 (xB_set hX.1 (by omega) (by omega) (by omega))⟩)
  · refine J_aload_n (pc' := 12) dX6_round_11 rfl rfl ?_
    refine J_iconst (v := 1) (pc' := 13) dX6_round_12 (by decide) rfl ?_
    refine J_V1v (pc' := 16) dX6_round_13 lk_6_69 cd_X6_error (k_err1) (ly_0) (l84_0) rfl rfl (jroom_of rfl) (Nat.le_of_ble_eq_true rfl) rfl ?_
    exact J_iret dX6_round_16  (by unfold sq_round; rw [if_neg (fun q => by first | exact jb_0.mp h_8 q)]; exact ⟨rfl, bq_err hX (by decide)⟩)
def sq_seed (s k r : sg) (v : Int32) : sQI := (s 6 5, sg1 s 6 5 v, k, r)
set_option maxHeartbeats 4000000 in
set_option maxRecDepth 100000 in
theorem a_X6_seed {G : jG} {w : jWd} (hX : XInv w) (hI : sInv (abX w 1)) {v : Int32} : jKp G 1 yX6_seed cX6_seed 3 (some .int) [.ref 0, .int v] w (some (.int (sq_seed (abX w 1) (abX w 16) (restX w) v).1)) (fun w' => BQ w w' (sq_seed (abX w 1) (abX w 16) (restX w) v).2) := by
  refine jK_of (own := RX6) [some (.ref 0), some (.int v), none] pn6 rfl (Nat.le_of_ble_eq_true rfl) rfl ?_
  refine J_aload_n (pc' := 1) dX6_seed_0 rfl rfl ?_
  refine J_getR (pc' := 4) dX6_seed_1 fl_6_12 (ly_0) (l84_0) rfl rfl ?_
  refine J_getI (pc' := 7) dX6_seed_4 fl_6_189 (ly_1) (l84_1) rfl rfl ?_
  refine J_istore_n (pc' := 8) dX6_seed_7 (Nat.le_of_ble_eq_true rfl) (jst2 rfl rfl) rfl ?_
  refine J_aload_n (pc' := 9) dX6_seed_8 rfl rfl ?_
  refine J_getR (pc' := 12) dX6_seed_9 fl_6_12 (ly_0) (l84_0) rfl rfl ?_
  refine J_iload_n (pc' := 13) dX6_seed_12 rfl rfl ?_
  refine J_putI (pc' := 16) dX6_seed_13 fp_6_189 (ly_1) (l84_1) rfl rfl ?_
  refine J_iload_n (pc' := 17) dX6_seed_16 rfl rfl ?_
  exact J_iret dX6_seed_17  ⟨rfl, bq_now hX ((frB.rf 1 w).set (by omega) (by omega)) abX_f14 (xB_set hX.1 (by omega) (by omega) (by omega))⟩
def sq_tell (s k r : sg) (v : Int32) : sQI := if 24 ≤ s 6 7 then (sErr 4, s, k, sEr r 4) else (s 6 7 + 1, sg1 (sg1 s 8 (nn (s 6 7)) v) 6 7 (s 6 7 + 1), k, r)
set_option maxHeartbeats 4000000 in
set_option maxRecDepth 100000 in
theorem a_X6_tell {G : jG} {w : jWd} (hX : XInv w) (hI : sInv (abX w 1)) {v : Int32} : jKp G 1 yX6_tell cX6_tell 2 (some .int) [.ref 0, .int v] w (some (.int (sq_tell (abX w 1) (abX w 16) (restX w) v).1)) (fun w' => BQ w w' (sq_tell (abX w 1) (abX w 16) (restX w) v).2) := by
  obtain ⟨W, hW, hW24⟩ : ∃ n, w.1 1 16 = nI n ∧ n ≤ 24 := hI.2.2.2.2.2.2.1
  refine jK_of (own := RX6) [some (.ref 0), some (.int v)] pn6 rfl (Nat.le_of_ble_eq_true rfl) rfl ?_
  refine J_aload_n (pc' := 1) dX6_tell_0 rfl rfl ?_
  refine J_getR (pc' := 4) dX6_tell_1 fl_6_12 (ly_0) (l84_0) rfl rfl ?_
  refine J_getI (pc' := 7) dX6_tell_4 fl_6_310 (ly_1) (l84_1) rfl rfl ?_
  refine J_bipush (v := 24) (pc' := 9) dX6_tell_7 (by decide) rfl ?_
  refine J_icmp_lt 18 (pc' := 12) dX6_tell_9 (by decide) rfl (fun h_9 => ?_) (fun h_9 => ?_)
  · have hW4 : W < 24 := by
      have h := h_9
      rw [hW, nIc_24] at h
      exact (nI_ltI (by omega) (by decide)).mp h
    refine J_aload_n (pc' := 19) dX6_tell_18 rfl rfl ?_
    refine J_getR (pc' := 22) dX6_tell_19 fl_6_12 (ly_0) (l84_0) rfl rfl ?_
    refine J_getR (pc' := 25) dX6_tell_22 fl_6_313 (ly_1) (l84_1) rfl rfl ?_
    refine J_aload_n (pc' := 26) dX6_tell_25 rfl rfl ?_
    refine J_getR (pc' := 29) dX6_tell_26 fl_6_12 (ly_0) (l84_0) rfl rfl ?_
    refine J_getI (pc' := 32) dX6_tell_29 fl_6_310 (ly_1) (l84_1) rfl rfl ?_
    rw [hW]
    refine J_iload_n (pc' := 33) dX6_tell_32 rfl rfl ?_
    refine J_iast W (pc' := 34) dX6_tell_33 (ly_8) (l84_8) rfl hW4 (by decide) rfl ?_
    refine J_aload_n (pc' := 35) dX6_tell_34 rfl rfl ?_
    refine J_getR (pc' := 38) dX6_tell_35 fl_6_12 (ly_0) (l84_0) rfl rfl ?_
    refine J_dup (pc' := 39) dX6_tell_38 rfl rfl ?_
    refine J_getI (pc' := 42) dX6_tell_39 fl_6_310 (ly_1) (l84_1) rfl rfl ?_
    rw [jset_off (by decide : (1 : Nat) ≠ 8), hW]
    refine J_iconst (v := 1) (pc' := 43) dX6_tell_42 (by decide) rfl ?_
    refine J_iadd (pc' := 44) dX6_tell_43 rfl ?_
    refine J_putI (pc' := 47) dX6_tell_44 fp_6_310 (ly_1) (l84_1) rfl rfl ?_
    refine J_aload_n (pc' := 48) dX6_tell_47 rfl rfl ?_
    refine J_getR (pc' := 51) dX6_tell_48 fl_6_12 (ly_0) (l84_0) rfl rfl ?_
    refine J_getI (pc' := 54) dX6_tell_51 fl_6_310 (ly_1) (l84_1) rfl rfl ?_
    rw [jset_1, if_pos rfl, if_pos rfl]
    exact J_iret dX6_tell_54  (by unfold sq_tell; rw [if_neg (by exact Int32.not_le.mpr h_9), show abX w 1 6 7 = nI W from hW, nn_nI (by omega)]; exact ⟨rfl, bq_now hX (((frB.rf 1 w).set (by omega) (by omega)).set (by omega) (by omega)) (by rw [abX_f16, abX_s8 hW4]) (xB_set (xB_set hX.1 (by omega) (by omega) (by omega)) (by omega) (by omega) (by omega))⟩)
  · refine J_aload_n (pc' := 13) dX6_tell_12 rfl rfl ?_
    refine J_iconst (v := 4) (pc' := 14) dX6_tell_13 (by decide) rfl ?_
    refine J_V1v (pc' := 17) dX6_tell_14 lk_6_69 cd_X6_error (k_err4) (ly_0) (l84_0) rfl rfl (jroom_of rfl) (Nat.le_of_ble_eq_true rfl) rfl ?_
    exact J_iret dX6_tell_17  (by unfold sq_tell; rw [if_pos (by exact Int32.not_lt.mp h_9)]; exact ⟨rfl, bq_err hX (by decide)⟩)
def sq_count (s k r : sg) (y : Int32) : sQI := if y = 0 then (s 6 0, s, k, r) else if y = 1 then (s 6 1, s, k, r) else if y = 2 then (s 6 2, s, k, r) else if y = 3 then (s 6 3, s, k, r) else if y = 4 then (s 6 4, s, k, r) else if y = 5 then (nI (sSet s), s, k, r) else if y = 6 then (nI (sTied s (sSet s)), s, k, r) else if y = 7 then (s 6 6, s, k, r) else if y = 8 then (s 6 7, s, k, r) else if y = 9 then (r 9 0, s, k, r) else if y = 10 then (s 6 5, s, k, r) else (sErr 1, s, k, sEr r 1)
set_option maxHeartbeats 4000000 in
set_option maxRecDepth 100000 in
theorem a_X6_count {G : jG} {w : jWd} (hX : XInv w) (hI : sInv (abX w 1)) {y : Int32} : jKp G 2 yX6_count cX6_count 2 (some .int) [.ref 0, .int y] w (some (.int (sq_count (abX w 1) (abX w 16) (restX w) y).1)) (fun w' => BQ w w' (sq_count (abX w 1) (abX w 16) (restX w) y).2) := by
  have hon := xB_on hI hX.1
  refine jK_of (own := RX6) [some (.ref 0), some (.int y)] pn6 rfl (Nat.le_of_ble_eq_true rfl) rfl ?_
  refine J_iload_n (pc' := 1) dX6_count_0 rfl rfl ?_
  by_cases e1_0 : y = 0
  · refine J_tabIn (pc' := 0) (off := 59) 60 dX6_count_1 (by rw [e1_0]; decide) (by rw [e1_0]; decide) (by rw [e1_0]; decide) (by decide) ?_
    refine J_aload_n (pc' := 61) dX6_count_60 rfl rfl ?_
    refine J_getR (pc' := 64) dX6_count_61 fl_6_12 (ly_0) (l84_0) rfl rfl ?_
    refine J_getI (pc' := 67) dX6_count_64 fl_6_73 (ly_1) (l84_1) rfl rfl ?_
    exact J_iret dX6_count_67  (by unfold sq_count; rw [if_pos e1_0]; exact ⟨rfl, bq_rf hX⟩)
  by_cases e1_1 : y = 1
  · refine J_tabIn (pc' := 0) (off := 67) 68 dX6_count_1 (by rw [e1_1]; decide) (by rw [e1_1]; decide) (by rw [e1_1]; decide) (by decide) ?_
    refine J_aload_n (pc' := 69) dX6_count_68 rfl rfl ?_
    refine J_getR (pc' := 72) dX6_count_69 fl_6_12 (ly_0) (l84_0) rfl rfl ?_
    refine J_getI (pc' := 75) dX6_count_72 fl_6_124 (ly_1) (l84_1) rfl rfl ?_
    exact J_iret dX6_count_75  (by unfold sq_count; rw [if_neg e1_0, if_pos e1_1]; exact ⟨rfl, bq_rf hX⟩)
  by_cases e1_2 : y = 2
  · refine J_tabIn (pc' := 0) (off := 75) 76 dX6_count_1 (by rw [e1_2]; decide) (by rw [e1_2]; decide) (by rw [e1_2]; decide) (by decide) ?_
    refine J_aload_n (pc' := 77) dX6_count_76 rfl rfl ?_
    refine J_getR (pc' := 80) dX6_count_77 fl_6_12 (ly_0) (l84_0) rfl rfl ?_
    refine J_getI (pc' := 83) dX6_count_80 fl_6_171 (ly_1) (l84_1) rfl rfl ?_
    exact J_iret dX6_count_83  (by unfold sq_count; rw [if_neg e1_0, if_neg e1_1, if_pos e1_2]; exact ⟨rfl, bq_rf hX⟩)
  by_cases e1_3 : y = 3
  · refine J_tabIn (pc' := 0) (off := 83) 84 dX6_count_1 (by rw [e1_3]; decide) (by rw [e1_3]; decide) (by rw [e1_3]; decide) (by decide) ?_
    refine J_aload_n (pc' := 85) dX6_count_84 rfl rfl ?_
    refine J_getR (pc' := 88) dX6_count_85 fl_6_12 (ly_0) (l84_0) rfl rfl ?_
    refine J_getI (pc' := 91) dX6_count_88 fl_6_127 (ly_1) (l84_1) rfl rfl ?_
    exact J_iret dX6_count_91  (by unfold sq_count; rw [if_neg e1_0, if_neg e1_1, if_neg e1_2, if_pos e1_3]; exact ⟨rfl, bq_rf hX⟩)
  by_cases e1_4 : y = 4
  · refine J_tabIn (pc' := 0) (off := 91) 92 dX6_count_1 (by rw [e1_4]; decide) (by rw [e1_4]; decide) (by rw [e1_4]; decide) (by decide) ?_
    refine J_aload_n (pc' := 93) dX6_count_92 rfl rfl ?_
    refine J_getR (pc' := 96) dX6_count_93 fl_6_12 (ly_0) (l84_0) rfl rfl ?_
    refine J_getI (pc' := 99) dX6_count_96 fl_6_231 (ly_1) (l84_1) rfl rfl ?_
    exact J_iret dX6_count_99  (by unfold sq_count; rw [if_neg e1_0, if_neg e1_1, if_neg e1_2, if_neg e1_3, if_pos e1_4]; exact ⟨rfl, bq_rf hX⟩)
  by_cases e1_5 : y = 5
  · refine J_tabIn (pc' := 0) (off := 99) 100 dX6_count_1 (by rw [e1_5]; decide) (by rw [e1_5]; decide) (by rw [e1_5]; decide) (by decide) ?_
    refine J_aload_n (pc' := 101) dX6_count_100 rfl rfl ?_
    refine J_getR (pc' := 104) dX6_count_101 fl_6_12 (ly_0) (l84_0) rfl rfl ?_
    refine J_getI (pc' := 107) dX6_count_104 fl_6_178 (ly_1) (l84_1) rfl rfl ?_
    rw [hon.1]
    exact J_iret dX6_count_107  (by unfold sq_count; rw [if_neg e1_0, if_neg e1_1, if_neg e1_2, if_neg e1_3, if_neg e1_4, if_pos e1_5]; exact ⟨rfl, bq_rf hX⟩)
  by_cases e1_6 : y = 6
  · refine J_tabIn (pc' := 0) (off := 107) 108 dX6_count_1 (by rw [e1_6]; decide) (by rw [e1_6]; decide) (by rw [e1_6]; decide) (by decide) ?_
    refine J_aload_n (pc' := 109) dX6_count_108 rfl rfl ?_
    refine J_getR (pc' := 112) dX6_count_109 fl_6_12 (ly_0) (l84_0) rfl rfl ?_
    refine J_aload_n (pc' := 113) dX6_count_112 rfl rfl ?_
    refine J_getR (pc' := 116) dX6_count_113 fl_6_12 (ly_0) (l84_0) rfl rfl ?_
    refine J_getI (pc' := 119) dX6_count_116 fl_6_178 (ly_1) (l84_1) rfl rfl ?_
    rw [hon.1]
    refine J_V1v (pc' := 122) dX6_count_119 lk_6_316 cd_X0_tiedBy (k_X0_tiedBy jb1 hI hon.2) (ly_1) (l84_1) rfl rfl (jroom_of rfl) (Nat.le_of_ble_eq_true rfl) rfl ?_
    exact J_iret dX6_count_122  (by unfold sq_count; rw [if_neg e1_0, if_neg e1_1, if_neg e1_2, if_neg e1_3, if_neg e1_4, if_neg e1_5, if_pos e1_6]; exact ⟨rfl, bq_rf hX⟩)
  by_cases e1_7 : y = 7
  · refine J_tabIn (pc' := 0) (off := 122) 123 dX6_count_1 (by rw [e1_7]; decide) (by rw [e1_7]; decide) (by rw [e1_7]; decide) (by decide) ?_
    refine J_aload_n (pc' := 124) dX6_count_123 rfl rfl ?_
    refine J_getR (pc' := 127) dX6_count_124 fl_6_12 (ly_0) (l84_0) rfl rfl ?_
    refine J_getI (pc' := 130) dX6_count_127 fl_6_130 (ly_1) (l84_1) rfl rfl ?_
    exact J_iret dX6_count_130  (by unfold sq_count; rw [if_neg e1_0, if_neg e1_1, if_neg e1_2, if_neg e1_3, if_neg e1_4, if_neg e1_5, if_neg e1_6, if_pos e1_7]; exact ⟨rfl, bq_rf hX⟩)
  by_cases e1_8 : y = 8
  · refine J_tabIn (pc' := 0) (off := 130) 131 dX6_count_1 (by rw [e1_8]; decide) (by rw [e1_8]; decide) (by rw [e1_8]; decide) (by decide) ?_
    refine J_aload_n (pc' := 132) dX6_count_131 rfl rfl ?_
    refine J_getR (pc' := 135) dX6_count_132 fl_6_12 (ly_0) (l84_0) rfl rfl ?_
    refine J_getI (pc' := 138) dX6_count_135 fl_6_310 (ly_1) (l84_1) rfl rfl ?_
    exact J_iret dX6_count_138  (by unfold sq_count; rw [if_neg e1_0, if_neg e1_1, if_neg e1_2, if_neg e1_3, if_neg e1_4, if_neg e1_5, if_neg e1_6, if_neg e1_7, if_pos e1_8]; exact ⟨rfl, bq_rf hX⟩)
  by_cases e1_9 : y = 9
  · refine J_tabIn (pc' := 0) (off := 138) 139 dX6_count_1 (by rw [e1_9]; decide) (by rw [e1_9]; decide) (by rw [e1_9]; decide) (by decide) ?_
    refine J_aload_n (pc' := 140) dX6_count_139 rfl rfl ?_
    refine J_getR (pc' := 143) dX6_count_140 fl_6_45 (ly_0) (l84_0) rfl rfl ?_
    refine J_getI (pc' := 146) dX6_count_143 fl_6_272 (ly_57) (l84_57) rfl rfl ?_
    exact J_iret dX6_count_146  (by unfold sq_count; rw [if_neg e1_0, if_neg e1_1, if_neg e1_2, if_neg e1_3, if_neg e1_4, if_neg e1_5, if_neg e1_6, if_neg e1_7, if_neg e1_8, if_pos e1_9]; exact ⟨rfl, bq_rf hX⟩)
  by_cases e1_10 : y = 10
  · refine J_tabIn (pc' := 0) (off := 146) 147 dX6_count_1 (by rw [e1_10]; decide) (by rw [e1_10]; decide) (by rw [e1_10]; decide) (by decide) ?_
    refine J_aload_n (pc' := 148) dX6_count_147 rfl rfl ?_
    refine J_getR (pc' := 151) dX6_count_148 fl_6_12 (ly_0) (l84_0) rfl rfl ?_
    refine J_getI (pc' := 154) dX6_count_151 fl_6_189 (ly_1) (l84_1) rfl rfl ?_
    exact J_iret dX6_count_154  (by unfold sq_count; rw [if_neg e1_0, if_neg e1_1, if_neg e1_2, if_neg e1_3, if_neg e1_4, if_neg e1_5, if_neg e1_6, if_neg e1_7, if_neg e1_8, if_neg e1_9, if_pos e1_10]; exact ⟨rfl, bq_rf hX⟩)
  refine J_tabOut (pc' := 0) 155 dX6_count_1 (by have q0 := zneI e1_0 (k := 0) (by decide); have q1 := zneI e1_1 (k := 1) (by decide); have q2 := zneI e1_2 (k := 2) (by decide); have q3 := zneI e1_3 (k := 3) (by decide); have q4 := zneI e1_4 (k := 4) (by decide); have q5 := zneI e1_5 (k := 5) (by decide); have q6 := zneI e1_6 (k := 6) (by decide); have q7 := zneI e1_7 (k := 7) (by decide); have q8 := zneI e1_8 (k := 8) (by decide); have q9 := zneI e1_9 (k := 9) (by decide); have q10 := zneI e1_10 (k := 10) (by decide); omega) (by decide) ?_
  refine J_aload_n (pc' := 156) dX6_count_155 rfl rfl ?_
  refine J_iconst (v := 1) (pc' := 157) dX6_count_156 (by decide) rfl ?_
  refine J_V1v (pc' := 160) dX6_count_157 lk_6_69 cd_X6_error (k_err1) (ly_0) (l84_0) rfl rfl (jroom_of rfl) (Nat.le_of_ble_eq_true rfl) rfl ?_
  exact J_iret dX6_count_160  (by unfold sq_count; rw [if_neg e1_0, if_neg e1_1, if_neg e1_2, if_neg e1_3, if_neg e1_4, if_neg e1_5, if_neg e1_6, if_neg e1_7, if_neg e1_8, if_neg e1_9, if_neg e1_10]; exact ⟨rfl, bq_err hX (by decide)⟩)
theorem nI_wi {x : Int32} {a b : Nat} (ha : a < 2 ^ 31) (hb : b < 2 ^ 31) (h : nI a ≤ x ∧ x ≤ nI b) : ∃ k, a ≤ k ∧ k ≤ b ∧ x = nI k := by
  have h0 := Int32.le_iff_toInt_le.mp h.2
  rw [nI_toInt hb] at h0
  have h1 := Int32.le_iff_toInt_le.mp h.1
  rw [nI_toInt ha] at h1
  exact ⟨x.toInt.toNat, by omega, by omega, Int32.toInt_inj.mp (by rw [nI_toInt (by omega)]; omega)⟩
def sq_told (s k r : sg) (x : Int32) : sQI := if 1 ≤ x ∧ x ≤ 6 then (r 0 (nn x), s, k, r) else (sErr 1, s, k, sEr r 1)
set_option maxHeartbeats 4000000 in
set_option maxRecDepth 100000 in
theorem a_X6_told {G : jG} {w : jWd} (hX : XInv w) (hI : sInv (abX w 1)) {x : Int32} : jKp G 1 yX6_told cX6_told 2 (some .int) [.ref 0, .int x] w (some (.int (sq_told (abX w 1) (abX w 16) (restX w) x).1)) (fun w' => BQ w w' (sq_told (abX w 1) (abX w 16) (restX w) x).2) := by
  refine jK_of (own := RX6) [some (.ref 0), some (.int x)] pn6 rfl (Nat.le_of_ble_eq_true rfl) rfl ?_
  refine J_iload_n (pc' := 1) dX6_told_0 rfl rfl ?_
  refine J_iconst (v := 1) (pc' := 2) dX6_told_1 (by decide) rfl ?_
  refine J_bipush (v := 6) (pc' := 4) dX6_told_2 (by decide) rfl ?_
  refine J_S3v (pc' := 7) dX6_told_4 lk_6_108 cd_X6_isWithin (k_X6_isWithin) (jroom_of rfl) (Nat.le_of_ble_eq_true rfl) rfl ?_
  refine J_if_eq 19 (pc' := 10) dX6_told_7 (by decide) rfl (fun h_7 => ?_) (fun h_7 => ?_)
  · refine J_aload_n (pc' := 20) dX6_told_19 rfl rfl ?_
    refine J_iconst (v := 1) (pc' := 21) dX6_told_20 (by decide) rfl ?_
    refine J_V1v (pc' := 24) dX6_told_21 lk_6_69 cd_X6_error (k_err1) (ly_0) (l84_0) rfl rfl (jroom_of rfl) (Nat.le_of_ble_eq_true rfl) rfl ?_
    first | exact J_iret dX6_told_24  (by unfold sq_told; rw [if_neg (by exact jb_0.mp h_7)]; exact ⟨rfl, bq_err hX (by decide)⟩) | exact J_iret dX6_told_24  (by unfold sq_told; rw [if_pos (by exact jb_n h_7), nn_nI (by omega)]; exact ⟨jv (if_pos (show k < 7 by omega)).symm, bq_rf hX⟩)
  · obtain ⟨k, hk1, hk6, rfl⟩ := nI_wi (a := 1) (b := 6) (by decide) (by decide) (jb_n h_7)
    refine J_aload_n (pc' := 11) dX6_told_10 rfl rfl ?_
    refine J_getR (pc' := 14) dX6_told_11 fl_6_56 (ly_0) (l84_0) rfl rfl ?_
    refine J_iload_n (pc' := 15) dX6_told_14 rfl rfl ?_
    refine J_iald k (pc' := 16) dX6_told_15 (ly_67) (l84_67) rfl (by omega) (by decide) rfl ?_
    refine J_goto (pc' := 0) 24 dX6_told_16 (by decide) ?_
    first | exact J_iret dX6_told_24  (by unfold sq_told; rw [if_neg (by exact jb_0.mp h_7)]; exact ⟨rfl, bq_err hX (by decide)⟩) | exact J_iret dX6_told_24  (by unfold sq_told; rw [if_pos (by exact jb_n h_7), nn_nI (by omega)]; exact ⟨jv (if_pos (show k < 7 by omega)).symm, bq_rf hX⟩)
