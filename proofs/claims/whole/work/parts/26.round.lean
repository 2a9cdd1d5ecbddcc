/-! ===== a round ===== -/
/-- the most doubted mark; one round; the least limit that keeps it -/
def sMst (σ : sg) : Int32 := (sMo σ (fLn σ) (fAb σ) (sM σ)).1
abbrev sGoC (σ : sg) : Prop := sTied σ (sSet σ) = 2 ^ sP σ - 1 ∧ ¬ sMst σ < 0 ∧ (σ 6 3).toInt64 * fLn σ < sDbt σ (fLn σ) (fAb σ) (nn (sMst σ))
def sGo (σ : sg) : sg := sg1 (if sGoC σ then sg1 (sg1 σ 5 (nn (sMst σ)) 0) 6 4 (if σ 6 4 + 1 < 9999 then σ 6 4 + 1 else 9999) else σ) 6 2 (σ 6 2 + 1)
def sLst (σ : sg) : Int64 := if sTied σ (sSet σ) = 2 ^ sP σ - 1 then (if 0 ≤ sMst σ then sQuo (sDbt σ (fLn σ) (fAb σ) (nn (sMst σ)) + fLn σ - 1) (fLn σ) else 0) else 0
theorem sMst_ex {σ : sg} (hI : sInv σ) (h : ¬ sMst σ < 0) : ∃ k, k < sM σ ∧ sMst σ = nI k ∧ σ 5 k = 1 := by
  rcases sMo_rng (σ := σ) (ln := fLn σ) (p := fAb σ) (sM σ) (by have := (sIM hI).2; omega) with q | q
  · exact absurd (show sMst σ < 0 by unfold sMst; rw [q]; decide) h
  · exact q
set_option maxHeartbeats 4000000 in
set_option maxRecDepth 100000 in
theorem k_X1_passRound {G : jG} {w : jWd} {b : Nat} (hb : jB b) (hI : sInv (abX w b)) (hB : xB w b) : jKp G 5 yX1_passRound cX1_passRound 3 none [.ref 48, .ref b] w none (fun w' => abX w' b = sGo (abX w b) ∧ xB w' b ∧ frF b w w') := by
  refine jK_of (own := RX1) [some (.ref 48), some (.ref b), none] pn1 rfl (Nat.le_of_ble_eq_true rfl) rfl ?_
  refine J_aload_n (pc' := 1) dX1_passRound_0 rfl rfl ?_
  refine J_aload_n (pc' := 2) dX1_passRound_1 rfl rfl ?_
  refine J_V1v (pc' := 5) dX1_passRound_2 lk_1_95 cd_X1_find (k_X1_find hb hI hB) (ly_48) (l84_48) rfl rfl (jroom_of rfl) (Nat.le_of_ble_eq_true rfl) rfl ?_
  have fA : abX (sFw (abX w b) w) b = abX w b := sFw_ab hb
  have fB : xB (sFw (abX w b) w) b := sFw_xb hb hB
  have fF : frF b w (sFw (abX w b) w) := sFw_fr hI w b
  have fK : sTied (abX w b) (sSet (abX w b)) = 2 ^ sP (abX w b) - 1 → sKp (abX w b) (sFw (abX w b) w) (sM (abX w b)) := fun h => sFw_kp h
  have fL : sTied (abX w b) (sSet (abX w b)) = 2 ^ sP (abX w b) - 1 → (sFw (abX w b) w).2 48 4 = fLn (abX w b) ∧ ∀ j, j < sP (abX w b) → (sFw (abX w b) w).2 54 j = fAb (abX w b) j := fun h => sFw_ln hI h
  generalize (sFw (abX w b) w) = v at fA fB fF fK fL ⊢
  have hIv : sInv (abX v b) := by rw [fA]; exact hI
  have hBv := fB
  refine J_if_eq 60 (pc' := 8) dX1_passRound_5 (by decide) rfl (fun h_5 => ?_) (fun h_5 => ?_)
  · refine J_aload_n (pc' := 61) dX1_passRound_60 rfl rfl ?_
    refine J_dup (pc' := 62) dX1_passRound_61 rfl rfl ?_
    refine J_getI (pc' := 65) dX1_passRound_62 fl_1_117 (lyb_0 hb) (l84b_0 hb) rfl rfl ?_
    refine J_iconst (v := 1) (pc' := 66) dX1_passRound_65 (by decide) rfl ?_
    refine J_iadd (pc' := 67) dX1_passRound_66 rfl ?_
    refine J_putI (pc' := 70) dX1_passRound_67 fp_1_117 (lyb_0 hb) (l84b_0 hb) rfl rfl ?_
    rw [show v.1 b 11 = abX w b 6 2 from by rw [← fA]; rfl]
    refine J_vret dX1_passRound_70  ⟨rfl, ?_, ?_, ?_⟩
    · rw [abX_f11, fA]
      unfold sGo
      have hC : ¬ sGoC (abX w b) := fun q => by
        have q3 := q.2.2
        first | exact (jb_0.mp h_5) q.1 | exact q.2.1 h_15 | exact lcmpP.mp h_35 (by rw [ek2] at q3; exact q3)
      rw [if_neg hC]
    · exact xB_set hBv (Or.inr (by decide)) (Or.inl (by omega)) (Or.inl (by omega))
    · exact fF.set (by omega) (by omega)
  · have hH : sTied (abX w b) (sSet (abX w b)) = 2 ^ sP (abX w b) - 1 := jb_n (by first | exact h_5 | exact Decidable.not_not.mp h_5)
    have hKv : sKp (abX v b) v (sM (abX v b)) := by rw [fA]; exact fK hH
    obtain ⟨fL1, fL2⟩ := fL hH
    have eM : (sMo (abX v b) (v.2 48 4) (v.2 54) (sM (abX v b))).1 = sMst (abX w b) := by rw [fA, fL1, mo_ag hI fL2 _ (Nat.le_refl _)]; rfl
    refine J_aload_n (pc' := 9) dX1_passRound_8 rfl rfl ?_
    refine J_aload_n (pc' := 10) dX1_passRound_9 rfl rfl ?_
    refine J_V1v (pc' := 13) dX1_passRound_10 lk_1_99 cd_X1_mostDoubted (k_X1_mostDoubted hb hIv hKv) (ly_48) (l84_48) rfl rfl (jroom_of rfl) (Nat.le_of_ble_eq_true rfl) rfl ?_
    rw [eM]
    refine J_istore_n (pc' := 14) dX1_passRound_13 (Nat.le_of_ble_eq_true rfl) (jst2 rfl rfl) rfl ?_
    refine J_iload_n (pc' := 15) dX1_passRound_14 rfl rfl ?_
    refine J_if_lt 60 (pc' := 18) dX1_passRound_15 (by decide) rfl (fun h_15 => ?_) (fun h_15 => ?_)
    · refine J_aload_n (pc' := 61) dX1_passRound_60 rfl rfl ?_
      refine J_dup (pc' := 62) dX1_passRound_61 rfl rfl ?_
      refine J_getI (pc' := 65) dX1_passRound_62 fl_1_117 (lyb_0 hb) (l84b_0 hb) rfl rfl ?_
      refine J_iconst (v := 1) (pc' := 66) dX1_passRound_65 (by decide) rfl ?_
      refine J_iadd (pc' := 67) dX1_passRound_66 rfl ?_
      refine J_putI (pc' := 70) dX1_passRound_67 fp_1_117 (lyb_0 hb) (l84b_0 hb) rfl rfl ?_
      rw [show v.1 b 11 = abX w b 6 2 from by rw [← fA]; rfl]
      refine J_vret dX1_passRound_70  ⟨rfl, ?_, ?_, ?_⟩
      · rw [abX_f11, fA]
        unfold sGo
        have hC : ¬ sGoC (abX w b) := fun q => by
          have q3 := q.2.2
          first | exact (jb_0.mp h_5) q.1 | exact q.2.1 h_15 | exact lcmpP.mp h_35 (by rw [ek2] at q3; exact q3)
        rw [if_neg hC]
      · exact xB_set hBv (Or.inr (by decide)) (Or.inl (by omega)) (Or.inl (by omega))
      · exact fF.set (by omega) (by omega)
    · obtain ⟨k, hk, ek, ho⟩ := sMst_ex hI h_15
      have hk8 : k < 8 := Nat.lt_of_lt_of_le hk (sIM hI).2
      have ek2 : nn (sMst (abX w b)) = k := by rw [ek, nn_nI (by omega)]
      have eD : sDbt (abX v b) (v.2 48 4) (v.2 54) k = sDbt (abX w b) (fLn (abX w b)) (fAb (abX w b)) k := by rw [fA, fL1, dbt_ag hI fL2 hk]
      rw [ek]
      refine J_aload_n (pc' := 19) dX1_passRound_18 rfl rfl ?_
      refine J_aload_n (pc' := 20) dX1_passRound_19 rfl rfl ?_
      refine J_iload_n (pc' := 21) dX1_passRound_20 rfl rfl ?_
      refine J_V2v (pc' := 24) dX1_passRound_21 lk_1_91 cd_X1_doubtAbove (k_X1_doubtAbove hb hIv (by rw [fA]; exact hk) (hKv k (by rw [fA]; exact hk) (by rw [fA]; exact ho)).1 (hKv k (by rw [fA]; exact hk) (by rw [fA]; exact ho)).2) (ly_48) (l84_48) rfl rfl (jroom_of rfl) (Nat.le_of_ble_eq_true rfl) rfl ?_
      rw [eD]
      refine J_aload_n (pc' := 25) dX1_passRound_24 rfl rfl ?_
      refine J_getI (pc' := 28) dX1_passRound_25 fl_1_103 (lyb_0 hb) (l84b_0 hb) rfl rfl ?_
      rw [show v.1 b 12 = abX w b 6 3 from by rw [← fA]; rfl]
      refine J_i2l (pc' := 29) dX1_passRound_28 rfl ?_
      refine J_aload_n (pc' := 30) dX1_passRound_29 rfl rfl ?_
      refine J_getJ (pc' := 33) dX1_passRound_30 fl_1_27 (ly_48) (l84_48) rfl rfl ?_
      rw [fL1]
      refine J_lmul (pc' := 34) dX1_passRound_33 rfl ?_
      refine J_lcmp (pc' := 35) dX1_passRound_34 rfl ?_
      refine J_if_le 60 (pc' := 38) dX1_passRound_35 (by decide) rfl (fun h_35 => ?_) (fun h_35 => ?_)
      · refine J_aload_n (pc' := 61) dX1_passRound_60 rfl rfl ?_
        refine J_dup (pc' := 62) dX1_passRound_61 rfl rfl ?_
        refine J_getI (pc' := 65) dX1_passRound_62 fl_1_117 (lyb_0 hb) (l84b_0 hb) rfl rfl ?_
        refine J_iconst (v := 1) (pc' := 66) dX1_passRound_65 (by decide) rfl ?_
        refine J_iadd (pc' := 67) dX1_passRound_66 rfl ?_
        refine J_putI (pc' := 70) dX1_passRound_67 fp_1_117 (lyb_0 hb) (l84b_0 hb) rfl rfl ?_
        rw [show v.1 b 11 = abX w b 6 2 from by rw [← fA]; rfl]
        refine J_vret dX1_passRound_70  ⟨rfl, ?_, ?_, ?_⟩
        · rw [abX_f11, fA]
          unfold sGo
          have hC : ¬ sGoC (abX w b) := fun q => by
            have q3 := q.2.2
            first | exact (jb_0.mp h_5) q.1 | exact q.2.1 h_15 | exact lcmpP.mp h_35 (by rw [ek2] at q3; exact q3)
          rw [if_neg hC]
        · exact xB_set hBv (Or.inr (by decide)) (Or.inl (by omega)) (Or.inl (by omega))
        · exact fF.set (by omega) (by omega)
      · refine J_aload_n (pc' := 39) dX1_passRound_38 rfl rfl ?_
        refine J_iload_n (pc' := 40) dX1_passRound_39 rfl rfl ?_
        refine J_iconst (v := 0) (pc' := 41) dX1_passRound_40 (by decide) rfl ?_
        refine J_V20 (pc' := 44) dX1_passRound_41 lk_1_106 cd_X0_turn (k_X0_turn hb) (lyb_0 hb) (l84b_0 hb) rfl rfl (jroom_of rfl) (Nat.le_of_ble_eq_true rfl) rfl ?_
        have hT := abX_turn (w := v) (z := 0) hBv hk8
        have fT : frF b w (jset v b 9 (if (0 : Int32) = 0 then v.1 b 9 &&& ((1 <<< (nI k &&& 31)) ^^^ (-1)) else v.1 b 9 ||| 1 <<< (nI k &&& 31))) := fF.set (by omega) (by omega)
        generalize (jset v b 9 (if (0 : Int32) = 0 then v.1 b 9 &&& ((1 <<< (nI k &&& 31)) ^^^ (-1)) else v.1 b 9 ||| 1 <<< (nI k &&& 31))) = u at hT fT ⊢
        rw [if_pos rfl, fA] at hT
        obtain ⟨hT1, hT2⟩ := hT
        refine J_aload_n (pc' := 45) dX1_passRound_44 rfl rfl ?_
        refine J_sipush (v := 9999) (pc' := 48) dX1_passRound_45 (by decide) rfl ?_
        refine J_aload_n (pc' := 49) dX1_passRound_48 rfl rfl ?_
        refine J_getI (pc' := 52) dX1_passRound_49 fl_1_110 (lyb_0 hb) (l84b_0 hb) rfl rfl ?_
        refine J_iconst (v := 1) (pc' := 53) dX1_passRound_52 (by decide) rfl ?_
        refine J_iadd (pc' := 54) dX1_passRound_53 rfl ?_
        refine J_mmin (pc' := 57) dX1_passRound_54 lm_1_113 rfl rfl ?_
        refine J_putI (pc' := 60) dX1_passRound_57 fp_1_110 (lyb_0 hb) (l84b_0 hb) rfl rfl ?_
        refine J_aload_n (pc' := 61) dX1_passRound_60 rfl rfl ?_
        refine J_dup (pc' := 62) dX1_passRound_61 rfl rfl ?_
        refine J_getI (pc' := 65) dX1_passRound_62 fl_1_117 (lyb_0 hb) (l84b_0 hb) rfl rfl ?_
        refine J_iconst (v := 1) (pc' := 66) dX1_passRound_65 (by decide) rfl ?_
        refine J_iadd (pc' := 67) dX1_passRound_66 rfl ?_
        refine J_putI (pc' := 70) dX1_passRound_67 fp_1_117 (lyb_0 hb) (l84b_0 hb) rfl rfl ?_
        have r0 : u.1 b 13 = abX w b 6 4 := by
          rw [show u.1 b 13 = abX u b 6 4 from rfl, hT1, sg1_f (by decide)]
        have r1 : ∀ D, (jset u b 13 D).1 b 11 = abX w b 6 2 := fun D => by
          rw [jset_1, if_pos rfl, if_neg (by decide), show u.1 b 11 = abX u b 6 2 from rfl, hT1, sg1_f (by decide)]
        rw [r1, r0]
        refine J_vret dX1_passRound_70  ⟨rfl, ?_, ?_, ?_⟩
        · rw [abX_f11, abX_f13, hT1]
          unfold sGo
          have hC : sGoC (abX w b) := ⟨hH, h_15, by rw [ek2]; exact lcmpQ h_35⟩
          rw [if_pos hC, ek2]
        · exact xB_set (xB_set hT2 (Or.inr (by decide)) (Or.inl (by omega)) (Or.inl (by omega))) (Or.inr (by decide)) (Or.inl (by omega)) (Or.inl (by omega))
        · exact (fT.set (by omega) (by omega)).set (by omega) (by omega)
set_option maxHeartbeats 4000000 in
set_option maxRecDepth 100000 in
theorem k_X1_leastLimit {G : jG} {w : jWd} {b : Nat} (hb : jB b) (hI : sInv (abX w b)) (hB : xB w b) : jKp G 5 yX1_leastLimit cX1_leastLimit 3 (some .long) [.ref 48, .ref b] w (some (.long (sLst (abX w b)))) (fun w' => abX w' b = abX w b ∧ xB w' b ∧ frF b w w') := by
  refine jK_of (own := RX1) [some (.ref 48), some (.ref b), none] pn1 rfl (Nat.le_of_ble_eq_true rfl) rfl ?_
  refine J_aload_n (pc' := 1) dX1_leastLimit_0 rfl rfl ?_
  refine J_aload_n (pc' := 2) dX1_leastLimit_1 rfl rfl ?_
  refine J_V1v (pc' := 5) dX1_leastLimit_2 lk_1_95 cd_X1_find (k_X1_find hb hI hB) (ly_48) (l84_48) rfl rfl (jroom_of rfl) (Nat.le_of_ble_eq_true rfl) rfl ?_
  have fA : abX (sFw (abX w b) w) b = abX w b := sFw_ab hb
  have fB : xB (sFw (abX w b) w) b := sFw_xb hb hB
  have fF : frF b w (sFw (abX w b) w) := sFw_fr hI w b
  have fK : sTied (abX w b) (sSet (abX w b)) = 2 ^ sP (abX w b) - 1 → sKp (abX w b) (sFw (abX w b) w) (sM (abX w b)) := fun h => sFw_kp h
  have fL : sTied (abX w b) (sSet (abX w b)) = 2 ^ sP (abX w b) - 1 → (sFw (abX w b) w).2 48 4 = fLn (abX w b) ∧ ∀ j, j < sP (abX w b) → (sFw (abX w b) w).2 54 j = fAb (abX w b) j := fun h => sFw_ln hI h
  generalize (sFw (abX w b) w) = v at fA fB fF fK fL ⊢
  have hIv : sInv (abX v b) := by rw [fA]; exact hI
  have hBv := fB
  refine J_if_ne 10 (pc' := 8) dX1_leastLimit_5 (by decide) rfl (fun h_5 => ?_) (fun h_5 => ?_)
  · have hH : sTied (abX w b) (sSet (abX w b)) = 2 ^ sP (abX w b) - 1 := jb_n (by first | exact h_5 | exact Decidable.not_not.mp h_5)
    have hKv : sKp (abX v b) v (sM (abX v b)) := by rw [fA]; exact fK hH
    obtain ⟨fL1, fL2⟩ := fL hH
    have eM : (sMo (abX v b) (v.2 48 4) (v.2 54) (sM (abX v b))).1 = sMst (abX w b) := by rw [fA, fL1, mo_ag hI fL2 _ (Nat.le_refl _)]; rfl
    refine J_aload_n (pc' := 11) dX1_leastLimit_10 rfl rfl ?_
    refine J_aload_n (pc' := 12) dX1_leastLimit_11 rfl rfl ?_
    refine J_V1v (pc' := 15) dX1_leastLimit_12 lk_1_99 cd_X1_mostDoubted (k_X1_mostDoubted hb hIv hKv) (ly_48) (l84_48) rfl rfl (jroom_of rfl) (Nat.le_of_ble_eq_true rfl) rfl ?_
    rw [eM]
    refine J_istore_n (pc' := 16) dX1_leastLimit_15 (Nat.le_of_ble_eq_true rfl) (jst2 rfl rfl) rfl ?_
    refine J_iload_n (pc' := 17) dX1_leastLimit_16 rfl rfl ?_
    refine J_if_ge 24 (pc' := 20) dX1_leastLimit_17 (by decide) rfl (fun h_17 => ?_) (fun h_17 => ?_)
    · obtain ⟨k, hk, ek, ho⟩ := sMst_ex hI (Int32.not_lt.mpr h_17)
      have hk8 : k < 8 := Nat.lt_of_lt_of_le hk (sIM hI).2
      have ek2 : nn (sMst (abX w b)) = k := by rw [ek, nn_nI (by omega)]
      have eD : sDbt (abX v b) (v.2 48 4) (v.2 54) k = sDbt (abX w b) (fLn (abX w b)) (fAb (abX w b)) k := by rw [fA, fL1, dbt_ag hI fL2 hk]
      rw [ek]
      refine J_aload_n (pc' := 25) dX1_leastLimit_24 rfl rfl ?_
      refine J_aload_n (pc' := 26) dX1_leastLimit_25 rfl rfl ?_
      refine J_iload_n (pc' := 27) dX1_leastLimit_26 rfl rfl ?_
      refine J_V2v (pc' := 30) dX1_leastLimit_27 lk_1_91 cd_X1_doubtAbove (k_X1_doubtAbove hb hIv (by rw [fA]; exact hk) (hKv k (by rw [fA]; exact hk) (by rw [fA]; exact ho)).1 (hKv k (by rw [fA]; exact hk) (by rw [fA]; exact ho)).2) (ly_48) (l84_48) rfl rfl (jroom_of rfl) (Nat.le_of_ble_eq_true rfl) rfl ?_
      rw [eD]
      refine J_aload_n (pc' := 31) dX1_leastLimit_30 rfl rfl ?_
      refine J_getJ (pc' := 34) dX1_leastLimit_31 fl_1_27 (ly_48) (l84_48) rfl rfl ?_
      rw [fL1]
      refine J_ladd (pc' := 35) dX1_leastLimit_34 rfl ?_
      refine J_lconst (v := 1) (pc' := 36) dX1_leastLimit_35 (by decide) rfl ?_
      refine J_lsub (pc' := 37) dX1_leastLimit_36 rfl ?_
      refine J_aload_n (pc' := 38) dX1_leastLimit_37 rfl rfl ?_
      refine J_getJ (pc' := 41) dX1_leastLimit_38 fl_1_27 (ly_48) (l84_48) rfl rfl ?_
      rw [fL1]
      refine J_S2v (pc' := 44) dX1_leastLimit_41 lk_1_75 cd_X6_quotient (k_X6_quotient) (jroom_of rfl) (Nat.le_of_ble_eq_true rfl) rfl ?_
      first | exact J_lret dX1_leastLimit_44  ⟨jvl (by unfold sLst; rw [if_neg (fun q => h_5 (jb_t q))]), fA, hBv, fF⟩ | exact J_lret dX1_leastLimit_44  ⟨jvl (by unfold sLst; rw [if_neg (jb_0.mp (by first | exact h_5 | exact Decidable.not_not.mp h_5))]), fA, hBv, fF⟩ | exact J_lret dX1_leastLimit_44  ⟨jvl (by unfold sLst; rw [if_pos hH, if_neg h_17]), fA, hBv, fF⟩ | exact J_lret dX1_leastLimit_44  ⟨jvl (by unfold sLst; rw [if_pos hH, if_pos h_17, ek2]), fA, hBv, fF⟩
    · refine J_lconst (v := 0) (pc' := 21) dX1_leastLimit_20 (by decide) rfl ?_
      refine J_goto (pc' := 0) 44 dX1_leastLimit_21 (by decide) ?_
      first | exact J_lret dX1_leastLimit_44  ⟨jvl (by unfold sLst; rw [if_neg (fun q => h_5 (jb_t q))]), fA, hBv, fF⟩ | exact J_lret dX1_leastLimit_44  ⟨jvl (by unfold sLst; rw [if_neg (jb_0.mp (by first | exact h_5 | exact Decidable.not_not.mp h_5))]), fA, hBv, fF⟩ | exact J_lret dX1_leastLimit_44  ⟨jvl (by unfold sLst; rw [if_pos hH, if_neg h_17]), fA, hBv, fF⟩ | exact J_lret dX1_leastLimit_44  ⟨jvl (by unfold sLst; rw [if_pos hH, if_pos h_17, ek2]), fA, hBv, fF⟩
  · refine J_lconst (v := 0) (pc' := 9) dX1_leastLimit_8 (by decide) rfl ?_
    first | exact J_lret dX1_leastLimit_9  ⟨jvl (by unfold sLst; rw [if_neg (fun q => h_5 (jb_t q))]), fA, hBv, fF⟩ | exact J_lret dX1_leastLimit_9  ⟨jvl (by unfold sLst; rw [if_neg (jb_0.mp (by first | exact h_5 | exact Decidable.not_not.mp h_5))]), fA, hBv, fF⟩ | exact J_lret dX1_leastLimit_9  ⟨jvl (by unfold sLst; rw [if_pos hH, if_neg h_17]), fA, hBv, fF⟩ | exact J_lret dX1_leastLimit_9  ⟨jvl (by unfold sLst; rw [if_pos hH, if_pos h_17, ek2]), fA, hBv, fF⟩

