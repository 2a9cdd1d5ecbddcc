/-! ===== the reference: places, solved ===== -/
/-! ===== the reference: places, solved ===== -/
def mZ (w : jWd) (j : Nat) : Prop := (∀ k, k < j → w.2 76 k = 0) ∧ ∀ i, i * 4 < j → w.2 77 i = 0
theorem zd4 : ∀ j, j < 16 → nI j / 4 = nI (j / 4) := by decide +kernel
theorem mZ_s {w : jWd} {j : Nat} (h : mZ w j) : mZ (jsetL (jsetL w 76 j 0) 77 (j / 4) 0) (j + 1) :=
  ⟨fun k hk => by
    rw [jL_off (by decide), jL_same]
    by_cases e : k = j
    · rw [e, uL_at]
    · rw [uL_ne _ _ e]; exact h.1 k (by omega), fun i hi => by
    rw [jL_same]
    by_cases e : i = j / 4
    · rw [e, uL_at]
    · rw [uL_ne _ _ e, jL_off (by decide)]; exact h.2 i (by omega)⟩
set_option maxHeartbeats 4000000 in
set_option maxRecDepth 100000 in
theorem l_mz {G : jG} {w : jWd} {Q : Option Value → jWd → Prop} (hK : ∀ w2, mF w w2 → mQ w2 (fun _ => 0, fun _ => 0) → J G (jM G 6 RX7 cX7_isSolved 2 (some .boolean) (Q)) w2 43 [some (.ref 68), none] []) : ∀ n j : Nat, j + n = 16 → ∀ (w2 : jWd) (_ : mF w w2) (_ : mZ w2 j), J G (jM G 6 RX7 cX7_isSolved 2 (some .boolean) (Q)) w2 15 [some (.ref 68), some (.int (nI j))] [] := by
  intro n
  induction n with
  | zero =>
    intro j hj w2 fr hz
    refine J_iload_n (pc' := 16) dX7_isSolved_15 rfl rfl ?_
    refine J_bipush (v := 16) (pc' := 18) dX7_isSolved_16 (by decide) rfl ?_
    refine J_icmp_ge 43 (pc' := 21) dX7_isSolved_18 (by decide) rfl (fun h_18 => ?_) (fun h_18 => absurd (by rw [nIc_16]; exact nI_le (by omega) (by omega)) h_18)
    obtain rfl : j = 16 := by omega
    exact J_mask [true, false] (hK w2 fr ⟨fun k hk => hz.1 k hk, fun i hi => hz.2 i (by omega)⟩)
  | succ n ih =>
    intro j hj w2 fr hz
    refine J_iload_n (pc' := 16) dX7_isSolved_15 rfl rfl ?_
    refine J_bipush (v := 16) (pc' := 18) dX7_isSolved_16 (by decide) rfl ?_
    refine J_icmp_ge 43 (pc' := 21) dX7_isSolved_18 (by decide) rfl (fun h_18 => absurd h_18 (by rw [nIc_16]; exact nI_ge (by omega) (by omega))) (fun h_18 => ?_)
    refine J_aload_n (pc' := 22) dX7_isSolved_21 rfl rfl ?_
    refine J_getR (pc' := 25) dX7_isSolved_22 fl_7_31 (ly_68) (l84_68) rfl rfl ?_
    refine J_iload_n (pc' := 26) dX7_isSolved_25 rfl rfl ?_
    refine J_lconst (v := 0) (pc' := 27) dX7_isSolved_26 (by decide) rfl ?_
    refine J_last j (pc' := 28) dX7_isSolved_27 (ly_76) (l84_76) rfl (by omega) (by decide) rfl ?_
    refine J_aload_n (pc' := 29) dX7_isSolved_28 rfl rfl ?_
    refine J_getR (pc' := 32) dX7_isSolved_29 fl_7_35 (ly_68) (l84_68) rfl rfl ?_
    refine J_iload_n (pc' := 33) dX7_isSolved_32 rfl rfl ?_
    refine J_iconst (v := 4) (pc' := 34) dX7_isSolved_33 (by decide) rfl ?_
    refine J_idiv (pc' := 35) dX7_isSolved_34 (by decide) rfl ?_
    refine J_lconst (v := 0) (pc' := 36) dX7_isSolved_35 (by decide) rfl ?_
    refine J_last (j / 4) (pc' := 37) dX7_isSolved_36 (ly_77) (l84_77) (zd4 j (by omega)) (by omega) (by decide) rfl ?_
    refine J_iinc (pc' := 40) dX7_isSolved_37 rfl (Nat.le_of_ble_eq_true rfl) (jst1 rfl rfl) rfl ?_
    refine J_goto (pc' := 0) 15 dX7_isSolved_40 (by decide) ?_
    have h2 := ih (j + 1) (by omega) _ ((fr.set (a := 76) (i := j) (v := 0) (by decide)).set (a := 77) (i := j / 4) (v := 0) (by decide)) (mZ_s hz)
    rw [← z1 j] at h2
    exact h2
set_option maxHeartbeats 4000000 in
set_option maxRecDepth 100000 in
theorem l_mm {G : jG} {w : jWd} (hI : sInv (abM (w.1 69))) (hT : mT (w.1 69)) {Q : Option Value → jWd → Prop} (hK : ∀ w2, mF w w2 → mQ w2 (mMat (abM (w.1 69)) (sM (abM (w.1 69)))) → J G (jM G 6 RX7 cX7_isSolved 2 (some .boolean) (Q)) w2 76 [some (.ref 68), none] []) : ∀ n j : Nat, j + n = sM (abM (w.1 69)) → ∀ (w2 : jWd) (_ : mF w w2) (_ : mQ w2 (mMat (abM (w.1 69)) j)), J G (jM G 6 RX7 cX7_isSolved 2 (some .boolean) (Q)) w2 45 [some (.ref 68), some (.int (nI j))] [] := by
  have hM : w.1 69 2 = nI (sM (abM (w.1 69))) := (sIM hI).1
  have hM8 := (sIM hI).2
  intro n
  induction n with
  | zero =>
    intro j hj w2 fr hq
    refine J_iload_n (pc' := 46) dX7_isSolved_45 rfl rfl ?_
    refine J_aload_n (pc' := 47) dX7_isSolved_46 rfl rfl ?_
    refine J_getR (pc' := 50) dX7_isSolved_47 fl_7_9 (ly_68) (l84_68) rfl rfl ?_
    refine J_iconst (v := 2) (pc' := 51) dX7_isSolved_50 (by decide) rfl ?_
    refine J_iald 2 (pc' := 52) dX7_isSolved_51 (ly_69) (l84_69) nIc_2 (by decide) (by decide) rfl ?_
    refine J_icmp_ge 76 (pc' := 55) dX7_isSolved_52 (by decide) rfl (fun h_52 => ?_) (fun h_52 => absurd (by rw [fr.1, hM]; exact nI_le (by omega) (by omega)) h_52)
    obtain rfl : j = sM (abM (w.1 69)) := by omega
    exact J_mask [true, false] (hK w2 fr hq)
  | succ n ih =>
    intro j hj w2 fr hq
    have h8 : j < 8 := by omega
    refine J_iload_n (pc' := 46) dX7_isSolved_45 rfl rfl ?_
    refine J_aload_n (pc' := 47) dX7_isSolved_46 rfl rfl ?_
    refine J_getR (pc' := 50) dX7_isSolved_47 fl_7_9 (ly_68) (l84_68) rfl rfl ?_
    refine J_iconst (v := 2) (pc' := 51) dX7_isSolved_50 (by decide) rfl ?_
    refine J_iald 2 (pc' := 52) dX7_isSolved_51 (ly_69) (l84_69) nIc_2 (by decide) (by decide) rfl ?_
    refine J_icmp_ge 76 (pc' := 55) dX7_isSolved_52 (by decide) rfl (fun h_52 => absurd h_52 (by rw [fr.1, hM]; exact nI_ge (by omega) (by omega))) (fun h_52 => ?_)
    refine J_aload_n (pc' := 56) dX7_isSolved_55 rfl rfl ?_
    refine J_iload_n (pc' := 57) dX7_isSolved_56 rfl rfl ?_
    refine J_iconst (v := 5) (pc' := 58) dX7_isSolved_57 (by decide) rfl ?_
    refine J_V2v (pc' := 61) dX7_isSolved_58 lk_7_65 cd_X7_of (k_mof5 h8) (ly_68) (l84_68) rfl rfl (jroom_of rfl) (Nat.le_of_ble_eq_true rfl) rfl ?_
    rw [fr.1]
    refine J_iconst (v := 1) (pc' := 62) dX7_isSolved_61 (by decide) rfl ?_
    refine J_icmp_ne 70 (pc' := 65) dX7_isSolved_62 (by decide) rfl (fun h_62 => ?_) (fun h_62 => ?_)
    · refine J_iinc (pc' := 73) dX7_isSolved_70 rfl (Nat.le_of_ble_eq_true rfl) (jst1 rfl rfl) rfl ?_
      refine J_goto (pc' := 0) 45 dX7_isSolved_73 (by decide) ?_
      have e : mMat (abM (w.1 69)) (j + 1) = mMat (abM (w.1 69)) j := if_neg h_62
      have h2 := ih (j + 1) (by omega) w2 fr (by rw [e]; exact hq)
      rw [← z1 j] at h2
      exact h2
    · refine J_aload_n (pc' := 66) dX7_isSolved_65 rfl rfl ?_
      refine J_iload_n (pc' := 67) dX7_isSolved_66 rfl rfl ?_
      refine J_V1w (pc' := 70) dX7_isSolved_67 lk_7_104 cd_X7_adds (k_madd (by rw [fr.1]; exact hI) (by rw [fr.1]; exact hT) (k := j) (by rw [fr.1]; omega) hq) (ly_68) (l84_68) rfl rfl (jroom_of rfl) (Nat.le_of_ble_eq_true rfl) rfl (fun w67 hw67 => ?_)
      refine J_iinc (pc' := 73) dX7_isSolved_70 rfl (Nat.le_of_ble_eq_true rfl) (jst1 rfl rfl) rfl ?_
      refine J_goto (pc' := 0) 45 dX7_isSolved_73 (by decide) ?_
      have e : mMat (abM (w.1 69)) (j + 1) = mAdd (abM (w.1 69)) j (mMat (abM (w.1 69)) j) := if_pos (by first | exact h_62 | exact Decidable.not_not.mp h_62)
      have h2 := ih (j + 1) (by omega) w67 (fr.tr hw67.1) (by rw [e]; have q := hw67.2; rw [fr.1] at q; exact q)
      rw [← z1 j] at h2
      exact h2
set_option maxHeartbeats 4000000 in
set_option maxRecDepth 100000 in
theorem l_mp {G : jG} {w : jWd} (hI : sInv (abM (w.1 69))) (hT : mT (w.1 69)) {Q : Option Value → jWd → Prop} (hK : ∀ w2, mF w w2 → mSol w2 (abM (w.1 69)) → Q (some (.int 1)) w2) : ∀ n j : Nat, j + n = sP (abM (w.1 69)) → ∀ (w2 : jWd) (_ : mF w w2) (_ : mQ w2 (mMat (abM (w.1 69)) (sM (abM (w.1 69))))) (_ : w2.2 68 11 = mLn (abM (w.1 69))) (_ : ∀ p, p < j → w2.2 78 p = mAb (abM (w.1 69)) p), J G (jM G 6 RX7 cX7_isSolved 2 (some .boolean) (Q)) w2 89 [some (.ref 68), some (.int (nI j))] [] := by
  have hP : w.1 69 3 = nI (sP (abM (w.1 69))) := (sIP hI).1
  have hP4 := (sIP hI).2
  intro n
  induction n with
  | zero =>
    intro j hj w2 fr hq hl ha
    refine J_iload_n (pc' := 90) dX7_isSolved_89 rfl rfl ?_
    refine J_aload_n (pc' := 91) dX7_isSolved_90 rfl rfl ?_
    refine J_getR (pc' := 94) dX7_isSolved_91 fl_7_9 (ly_68) (l84_68) rfl rfl ?_
    refine J_iconst (v := 3) (pc' := 95) dX7_isSolved_94 (by decide) rfl ?_
    refine J_iald 3 (pc' := 96) dX7_isSolved_95 (ly_69) (l84_69) nIc_3 (by decide) (by decide) rfl ?_
    refine J_icmp_ge 118 (pc' := 99) dX7_isSolved_96 (by decide) rfl (fun h_96 => ?_) (fun h_96 => absurd (by rw [fr.1, hP]; exact nI_le (by omega) (by omega)) h_96)
    refine J_iconst (v := 1) (pc' := 119) dX7_isSolved_118 (by decide) rfl ?_
    obtain rfl : j = sP (abM (w.1 69)) := by omega
    exact J_zret dX7_isSolved_119 (Or.inr rfl) (hK w2 fr ⟨hl, fun p hp => ha p hp⟩)
  | succ n ih =>
    intro j hj w2 fr hq hl ha
    refine J_iload_n (pc' := 90) dX7_isSolved_89 rfl rfl ?_
    refine J_aload_n (pc' := 91) dX7_isSolved_90 rfl rfl ?_
    refine J_getR (pc' := 94) dX7_isSolved_91 fl_7_9 (ly_68) (l84_68) rfl rfl ?_
    refine J_iconst (v := 3) (pc' := 95) dX7_isSolved_94 (by decide) rfl ?_
    refine J_iald 3 (pc' := 96) dX7_isSolved_95 (ly_69) (l84_69) nIc_3 (by decide) (by decide) rfl ?_
    refine J_icmp_ge 118 (pc' := 99) dX7_isSolved_96 (by decide) rfl (fun h_96 => absurd h_96 (by rw [fr.1, hP]; exact nI_ge (by omega) (by omega))) (fun h_96 => ?_)
    refine J_aload_n (pc' := 100) dX7_isSolved_99 rfl rfl ?_
    refine J_getR (pc' := 103) dX7_isSolved_100 fl_7_38 (ly_68) (l84_68) rfl rfl ?_
    refine J_iload_n (pc' := 104) dX7_isSolved_103 rfl rfl ?_
    refine J_aload_n (pc' := 105) dX7_isSolved_104 rfl rfl ?_
    refine J_iconst (v := 0) (pc' := 106) dX7_isSolved_105 (by decide) rfl ?_
    refine J_iconst (v := 0) (pc' := 107) dX7_isSolved_106 (by decide) rfl ?_
    refine J_iload_n (pc' := 108) dX7_isSolved_107 rfl rfl ?_
    refine J_V3v (pc' := 111) dX7_isSolved_108 lk_7_86 cd_X7_det ((by have h := k_mdet (G := G) (w := w2) (col := nI j) (by rw [fr.1]; exact hI) hq.1 hq.2 (sP (abM (w.1 69))) (by rw [fr.1]; exact Nat.le_refl _) 0 (by decide); rw [fr.1, Nat.sub_self, nI_0] at h; exact h)) (ly_68) (l84_68) rfl rfl ⟨⟨by show _ + 1 ≤ 6; omega, by show 8 + (12 + 11) + 40 * _ ≤ 40 * 6; omega⟩, Nat.le_refl _, Nat.le_refl _⟩ (Nat.le_of_ble_eq_true rfl) rfl ?_
    refine J_last j (pc' := 112) dX7_isSolved_111 (ly_78) (l84_78) rfl (by omega) (by decide) rfl ?_
    refine J_iinc (pc' := 115) dX7_isSolved_112 rfl (Nat.le_of_ble_eq_true rfl) (jst1 rfl rfl) rfl ?_
    refine J_goto (pc' := 0) 89 dX7_isSolved_115 (by decide) ?_
    have h2 := ih (j + 1) (by omega) _ (fr.set (a := 78) (i := j) (v := mAb (abM (w.1 69)) j) (by decide)) ⟨fun k hk => (congrFun (jL_off (by decide)) k).trans (hq.1 k hk), fun k hk => (congrFun (jL_off (by decide)) k).trans (hq.2 k hk)⟩ ((congrFun (jL_off (by decide)) 11).trans hl) (fun p hp => by
        rw [jL_same]
        by_cases e : p = j
        · rw [e, uL_at]
        · rw [uL_ne _ _ e]; exact ha p (by omega))
    rw [← z1 j] at h2
    exact h2
set_option maxHeartbeats 4000000 in
set_option maxRecDepth 100000 in
theorem k_msol {G : jG} {w : jWd} (hI : sInv (abM (w.1 69))) (hT : mT (w.1 69)) : jKp G 6 yX7_isSolved cX7_isSolved 2 (some .boolean) [.ref 68] w (some (.int (jb (sTied (abM (w.1 69)) (sSet (abM (w.1 69))) = 2 ^ sP (abM (w.1 69)) - 1)))) (fun w' => mF w w' ∧ (sTied (abM (w.1 69)) (sSet (abM (w.1 69))) = 2 ^ sP (abM (w.1 69)) - 1 → mSol w' (abM (w.1 69)))) := by
  refine jK_of (own := RX7) [some (.ref 68), none] pn7 rfl (Nat.le_of_ble_eq_true rfl) rfl ?_
  refine J_aload_n (pc' := 1) dX7_isSolved_0 rfl rfl ?_
  refine J_aload_n (pc' := 2) dX7_isSolved_1 rfl rfl ?_
  refine J_V0v (pc' := 5) dX7_isSolved_2 lk_7_96 cd_X7_onOnes (k_mon hI) (ly_68) (l84_68) rfl rfl (jroom_of rfl) (Nat.le_of_ble_eq_true rfl) rfl ?_
  refine J_V1v (pc' := 8) dX7_isSolved_5 lk_7_100 cd_X7_doesHold (k_mhold hI (sSet_lt2 hI)) (ly_68) (l84_68) rfl rfl (jroom_of rfl) (Nat.le_of_ble_eq_true rfl) rfl ?_
  refine J_if_ne 13 (pc' := 11) dX7_isSolved_8 (by decide) rfl (fun h_8 => ?_) (fun h_8 => ?_)
  · have hH := jb_n (p := sTied (abM (w.1 69)) (sSet (abM (w.1 69))) = 2 ^ sP (abM (w.1 69)) - 1) (by first | exact h_8 | exact Decidable.not_not.mp h_8)
    skip
    refine J_iconst (v := 0) (pc' := 14) dX7_isSolved_13 (by decide) rfl ?_
    refine J_istore_n (pc' := 15) dX7_isSolved_14 (Nat.le_of_ble_eq_true rfl) (jst1 rfl rfl) rfl ?_
    refine l_mz (w := w) (fun w2 fr hq => ?_) 16 0 rfl w (mF.rf w) ⟨fun k hk => absurd hk (Nat.not_lt_zero k), fun i hi => absurd hi (Nat.not_lt_zero _)⟩
    refine J_iconst (v := 0) (pc' := 44) dX7_isSolved_43 (by decide) rfl ?_
    refine J_istore_n (pc' := 45) dX7_isSolved_44 (Nat.le_of_ble_eq_true rfl) (jst1 rfl rfl) rfl ?_
    refine l_mm hI hT (fun w2 fr hq => ?_) (sM (abM (w.1 69))) 0 (by omega) w2 fr hq
    refine J_aload_n (pc' := 77) dX7_isSolved_76 rfl rfl ?_
    refine J_aload_n (pc' := 78) dX7_isSolved_77 rfl rfl ?_
    refine J_iconst (v := 0) (pc' := 79) dX7_isSolved_78 (by decide) rfl ?_
    refine J_iconst (v := 0) (pc' := 80) dX7_isSolved_79 (by decide) rfl ?_
    refine J_iconst (v := -1) (pc' := 81) dX7_isSolved_80 (by decide) rfl ?_
    refine J_V3v (pc' := 84) dX7_isSolved_81 lk_7_86 cd_X7_det ((by have h := k_mdet (G := G) (w := w2) (col := -1) (by rw [fr.1]; exact hI) hq.1 hq.2 (sP (abM (w.1 69))) (by rw [fr.1]; exact Nat.le_refl _) 0 (by decide); rw [fr.1, Nat.sub_self, nI_0] at h; exact h)) (ly_68) (l84_68) rfl rfl ⟨⟨by show _ + 1 ≤ 6; have := (sIP hI).2.2; omega, by show 8 + (12 + 11) + 40 * _ ≤ 40 * 6; have := (sIP hI).2.2; omega⟩, Nat.le_refl _, Nat.le_refl _⟩ (Nat.le_of_ble_eq_true rfl) rfl ?_
    refine J_putJ (pc' := 87) dX7_isSolved_84 fp_7_108 (ly_68) (l84_68) rfl rfl ?_
    refine J_iconst (v := 0) (pc' := 88) dX7_isSolved_87 (by decide) rfl ?_
    refine J_istore_n (pc' := 89) dX7_isSolved_88 (Nat.le_of_ble_eq_true rfl) (jst1 rfl rfl) rfl ?_
    refine l_mp hI hT (fun w3 fr3 hs3 => ?_) (sP (abM (w.1 69))) 0 (by omega) _ (fr.set (by decide)) ⟨fun k hk => (congrFun (jL_off (by decide)) k).trans (hq.1 k hk), fun k hk => (congrFun (jL_off (by decide)) k).trans (hq.2 k hk)⟩ (by rw [jL_same, uL_at]; rfl) (fun p hp => absurd hp (Nat.not_lt_zero p))
    exact ⟨jv (jb_t hH).symm, fr3, fun _ => hs3⟩
  · refine J_iconst (v := 0) (pc' := 12) dX7_isSolved_11 (by decide) rfl ?_
    have hN := (jb_0 (p := sTied (abM (w.1 69)) (sSet (abM (w.1 69))) = 2 ^ sP (abM (w.1 69)) - 1)).mp (by first | exact h_8 | exact Decidable.not_not.mp h_8)
    exact J_zret dX7_isSolved_12 (Or.inl rfl) ⟨jv (jb_f hN).symm, mF.rf w, fun q => absurd q hN⟩
