/-! ===== the reader ===== -/
theorem r_or {G : jG} {w : jWd} {f : Nat} (hH : rH w f) {n : Nat} {part : rS → Bool × rS} (hp : pKp part) {op : Int32} (ih : rMC G w (7 * n + 4) yX2_readPart cX2_readPart 4 op (part)) : rMC G w (7 * n + 9) yX2_readOr cX2_readOr 4 op (pOr (w.1 7) f part) :=
  fun _ hz => k_r_or hH hp (fun _ hz => k_r_and hH hp (fun _ hz => k_r_cmp hH hp (fun _ hz => k_r_add hH hp (fun _ hz => k_r_mul hH hp ih hz) hz) hz) hz) hz
set_option maxHeartbeats 4000000 in
set_option maxRecDepth 100000 in
theorem k_r_opn {G : jG} {w : jWd} {f : Nat} (hH : rH w f) {n : Nat} {part : rS → Bool × rS} (hp : pKp part) {op : Int32} (ih : rMC G w (7 * n + 4) yX2_readPart cX2_readPart 4 op (part)) {c : Int32} {z : rS} (hz : rOk (pAd z)) : jKd G (7 * n + 10) yX2_readOpened cX2_readOpened 4 (some .boolean) [.ref 46, .int c, .int op] (rPut w z) (some (.int (jb ((pOpn (w.1 7) f part c z).1 = true)))) (rPut w (pOpn (w.1 7) f part c z).2) := by
  refine jK_of (own := RX2) [some (.ref 46), some (.int c), some (.int op), none] pn2 rfl (Nat.le_of_ble_eq_true rfl) rfl ?_
  refine J_aload_n (pc' := 1) dX2_readOpened_0 rfl rfl ?_
  refine J_dup (pc' := 2) dX2_readOpened_1 rfl rfl ?_
  refine J_getI (pc' := 5) dX2_readOpened_2 fl_2_28 (ly_46) (l84_46) rfl rfl ?_
  rw [show (rPut w z).1 46 4 = nI z.1 from rfl]
  refine J_iconst (v := 1) (pc' := 6) dX2_readOpened_5 (by decide) rfl ?_
  refine J_iadd (pc' := 7) dX2_readOpened_6 rfl ?_
  refine J_putI (pc' := 10) dX2_readOpened_7 fp_2_28 (ly_46) (l84_46) rfl rfl ?_
  rw [rPut_ad]
  refine J_iload_n (pc' := 11) dX2_readOpened_10 rfl rfl ?_
  refine J_bipush (v := 33) (pc' := 13) dX2_readOpened_11 (by decide) rfl ?_
  refine J_icmp_ne 30 (pc' := 16) dX2_readOpened_13 (by decide) rfl (fun h_13 => ?_) (fun h_13 => ?_)
  · refine J_aload_n (pc' := 31) dX2_readOpened_30 rfl rfl ?_
    refine J_iload_n (pc' := 32) dX2_readOpened_31 rfl rfl ?_
    refine J_V1v (pc' := 35) dX2_readOpened_32 lk_2_34 cd_X2_readOr (r_or hH hp ih _ hz) (ly_46) (l84_46) rfl rfl ⟨⟨by show (7 * n + 9) + 1 ≤ (7 * n + 10); omega, by show 8 + (4 + 11) + 40 * (7 * n + 9) ≤ 40 * (7 * n + 10); omega⟩, Nat.le_refl _, Nat.le_refl _⟩ (Nat.le_of_ble_eq_true rfl) rfl ?_
    refine J_if_eq 47 (pc' := 38) dX2_readOpened_35 (by decide) rfl (fun h_35 => ?_) (fun h_35 => ?_)
    · refine J_iconst (v := 0) (pc' := 48) dX2_readOpened_47 (by decide) rfl ?_
      exact J_zret dX2_readOpened_48 (Or.inl rfl) ⟨congrArg (fun q => some (Value.int q)) (by rw [show (pOpn (w.1 7) f part c z) = (false, (pOr (w.1 7) f part (pAd z)).2) from (if_neg h_13).trans (if_neg (fun q => by first | exact jb_0.mp h_35 q.1 | exact h_44 q.2))]; exact (jb_f (fun q => Bool.noConfusion q)).symm), by rw [show (pOpn (w.1 7) f part c z) = (false, (pOr (w.1 7) f part (pAd z)).2) from (if_neg h_13).trans (if_neg (fun q => by first | exact jb_0.mp h_35 q.1 | exact h_44 q.2))]⟩
    · refine J_aload_n (pc' := 39) dX2_readOpened_38 rfl rfl ?_
      refine J_V0v (pc' := 42) dX2_readOpened_39 lk_2_41 cd_X2_next (k_rNx hH (pOr_ok hH.2.1 hp _ hz)) (ly_46) (l84_46) rfl rfl ⟨⟨by show 0 + 1 ≤ (7 * n + 10); omega, by show 8 + (1 + 11) + 40 * 0 ≤ 40 * (7 * n + 10); omega⟩, Nat.le_refl _, Nat.le_refl _⟩ (Nat.le_of_ble_eq_true rfl) rfl ?_
      refine J_bipush (v := 41) (pc' := 44) dX2_readOpened_42 (by decide) rfl ?_
      refine J_icmp_eq 49 (pc' := 47) dX2_readOpened_44 (by decide) rfl (fun h_44 => ?_) (fun h_44 => ?_)
      · refine J_aload_n (pc' := 50) dX2_readOpened_49 rfl rfl ?_
        refine J_dup (pc' := 51) dX2_readOpened_50 rfl rfl ?_
        refine J_getI (pc' := 54) dX2_readOpened_51 fl_2_28 (ly_46) (l84_46) rfl rfl ?_
        rw [show (rPut w (pOr (w.1 7) f part (pAd z)).2).1 46 4 = nI (pOr (w.1 7) f part (pAd z)).2.1 from rfl]
        refine J_iconst (v := 1) (pc' := 55) dX2_readOpened_54 (by decide) rfl ?_
        refine J_iadd (pc' := 56) dX2_readOpened_55 rfl ?_
        refine J_putI (pc' := 59) dX2_readOpened_56 fp_2_28 (ly_46) (l84_46) rfl rfl ?_
        rw [rPut_ad]
        refine J_iconst (v := 1) (pc' := 60) dX2_readOpened_59 (by decide) rfl ?_
        exact J_zret dX2_readOpened_60 (Or.inr rfl) ⟨congrArg (fun q => some (Value.int q)) (by rw [show (pOpn (w.1 7) f part c z) = (true, pAd (pOr (w.1 7) f part (pAd z)).2) from (if_neg h_13).trans (if_pos ⟨jb_n h_35, by first | exact h_44 | exact Decidable.not_not.mp h_44⟩)]; exact (jb_t rfl).symm), by rw [show (pOpn (w.1 7) f part c z) = (true, pAd (pOr (w.1 7) f part (pAd z)).2) from (if_neg h_13).trans (if_pos ⟨jb_n h_35, by first | exact h_44 | exact Decidable.not_not.mp h_44⟩)]⟩
      · refine J_iconst (v := 0) (pc' := 48) dX2_readOpened_47 (by decide) rfl ?_
        exact J_zret dX2_readOpened_48 (Or.inl rfl) ⟨congrArg (fun q => some (Value.int q)) (by rw [show (pOpn (w.1 7) f part c z) = (false, (pOr (w.1 7) f part (pAd z)).2) from (if_neg h_13).trans (if_neg (fun q => by first | exact jb_0.mp h_35 q.1 | exact h_44 q.2))]; exact (jb_f (fun q => Bool.noConfusion q)).symm), by rw [show (pOpn (w.1 7) f part c z) = (false, (pOr (w.1 7) f part (pAd z)).2) from (if_neg h_13).trans (if_neg (fun q => by first | exact jb_0.mp h_35 q.1 | exact h_44 q.2))]⟩
  · refine J_aload_n (pc' := 17) dX2_readOpened_16 rfl rfl ?_
    refine J_iload_n (pc' := 18) dX2_readOpened_17 rfl rfl ?_
    refine J_V1v (pc' := 21) dX2_readOpened_18 lk_2_58 cd_X2_readPart (ih _ hz) (ly_46) (l84_46) rfl rfl ⟨⟨by show (7 * n + 4) + 1 ≤ (7 * n + 10); omega, by show 8 + (4 + 11) + 40 * (7 * n + 4) ≤ 40 * (7 * n + 10); omega⟩, Nat.le_refl _, Nat.le_refl _⟩ (Nat.le_of_ble_eq_true rfl) rfl ?_
    refine J_istore_n (pc' := 22) dX2_readOpened_21 (Nat.le_of_ble_eq_true rfl) (jst3 rfl rfl) rfl ?_
    refine J_aload_n (pc' := 23) dX2_readOpened_22 rfl rfl ?_
    refine J_bipush (v := (-33)) (pc' := 25) dX2_readOpened_23 (by decide) rfl ?_
    refine J_V10 (pc' := 28) dX2_readOpened_25 lk_2_45 cd_X2_write (k_rWr (hp _ hz)) (ly_46) (l84_46) rfl rfl ⟨⟨by show 0 + 1 ≤ (7 * n + 10); omega, by show 8 + (2 + 11) + 40 * 0 ≤ 40 * (7 * n + 10); omega⟩, Nat.le_refl _, Nat.le_refl _⟩ (Nat.le_of_ble_eq_true rfl) rfl ?_
    refine J_iload_n (pc' := 29) dX2_readOpened_28 rfl rfl ?_
    exact J_zret dX2_readOpened_29 (jb_b _) ⟨by rw [show (pOpn (w.1 7) f part c z) = ((part (pAd z)).1, pWr (-33) (part (pAd z)).2) from if_pos (by first | exact h_13 | exact Decidable.not_not.mp h_13)], by rw [show (pOpn (w.1 7) f part c z) = ((part (pAd z)).1, pWr (-33) (part (pAd z)).2) from if_pos (by first | exact h_13 | exact Decidable.not_not.mp h_13)]⟩
theorem i2c_eq {x : Int32} (h0 : 0 ≤ x.toInt) (h1 : x.toInt ≤ 255) : (x.toUInt32 % 65536).toInt32 = x ∧ ∀ i, i < 2 → sIx i x.toInt8.toInt32 3 0 = sIx i x 3 0 := by
  obtain ⟨j, hj, rfl⟩ : ∃ j, j ≤ 255 ∧ x = nI j := ⟨x.toInt.toNat, by omega, Int32.toInt_inj.mp (by rw [nI_toInt (by omega)]; omega)⟩
  have h : ∀ j, j < 256 → ((nI j).toUInt32 % 65536).toInt32 = nI j ∧ ∀ i, i < 2 → sIx i (nI j).toInt8.toInt32 3 0 = sIx i (nI j) 3 0 := by decide +kernel
  exact h j (by omega)
theorem rNx_in {w : jWd} {f : Nat} (hH : rH w f) {a : Nat} (h : ¬ pNx (w.1 7) f a < 0) : 0 ≤ (pNx (w.1 7) f a).toInt ∧ (pNx (w.1 7) f a).toInt ≤ 255 := by
  have hf := hH.2.1
  have ha : a < f := pNx_lt (fun e => h (by rw [e]; decide))
  unfold pNx
  rw [if_pos ha]
  exact hH.2.2.1 a (by omega)
set_option maxHeartbeats 4000000 in
set_option maxRecDepth 100000 in
theorem k_rPart0 {G : jG} {w : jWd} {f : Nat} (hH : rH w f) {z : rS} (hz : rOk z) : jKd G 4 yX2_readPart cX2_readPart 4 (some .boolean) [.ref 46, .int (nI 5)] (rPut w z) (some (.int (jb ((pPart (w.1 7) f (w.1 46 5).toNatClampNeg 0 z).1 = true)))) (rPut w (pPart (w.1 7) f (w.1 46 5).toNatClampNeg 0 z).2) := by
  have hSi := hH.2.2.2
  refine jK_of (own := RX2) [some (.ref 46), some (.int (nI 5)), none, none] pn2 rfl (Nat.le_of_ble_eq_true rfl) rfl ?_
  refine J_aload_n (pc' := 1) dX2_readPart_0 rfl rfl ?_
  refine J_V0v (pc' := 4) dX2_readPart_1 lk_2_41 cd_X2_next (k_rNx hH hz) (ly_46) (l84_46) rfl rfl ⟨⟨by show 0 + 1 ≤ 4; omega, by show 8 + (1 + 11) + 40 * 0 ≤ 40 * 4; omega⟩, Nat.le_refl _, Nat.le_refl _⟩ (Nat.le_of_ble_eq_true rfl) rfl ?_
  refine J_istore_n (pc' := 5) dX2_readPart_4 (Nat.le_of_ble_eq_true rfl) (jst2 rfl rfl) rfl ?_
  refine J_iload_n (pc' := 6) dX2_readPart_5 rfl rfl ?_
  refine J_bipush (v := 48) (pc' := 8) dX2_readPart_6 (by decide) rfl ?_
  refine J_bipush (v := 57) (pc' := 10) dX2_readPart_8 (by decide) rfl ?_
  refine J_S3v (pc' := 13) dX2_readPart_10 lk_2_64 cd_X6_isWithin (k_X6_isWithin) ⟨⟨by show 0 + 1 ≤ 4; omega, by show 8 + (3 + 11) + 40 * 0 ≤ 40 * 4; omega⟩, Nat.le_refl _, Nat.le_refl _⟩ (Nat.le_of_ble_eq_true rfl) rfl ?_
  refine J_if_eq 21 (pc' := 16) dX2_readPart_13 (by decide) rfl (fun h_13 => ?_) (fun h_13 => ?_)
  · refine J_iload_n (pc' := 22) dX2_readPart_21 rfl rfl ?_
    refine J_bipush (v := 33) (pc' := 24) dX2_readPart_22 (by decide) rfl ?_
    refine J_icmp_eq 33 (pc' := 27) dX2_readPart_24 (by decide) rfl (fun h_24 => ?_) (fun h_24 => ?_)
    · refine J_iload_n (pc' := 34) dX2_readPart_33 rfl rfl ?_
      refine J_iconst (v := 5) (pc' := 35) dX2_readPart_34 (by decide) rfl ?_
      refine J_icmp_ge 53 (pc' := 38) dX2_readPart_35 (by decide) rfl (fun h_35 => ?_) (fun h_35 => absurd (by decide) h_35)
      refine J_iconst (v := 0) (pc' := 54) dX2_readPart_53 (by decide) rfl ?_
      exact J_zret dX2_readPart_54 (Or.inl rfl) ⟨congrArg (fun q => some (Value.int q)) (by rw [show pPart (w.1 7) f (w.1 46 5).toNatClampNeg 0 z = (false, z) from (if_neg (jb_0.mp h_13)).trans (if_pos (by first | exact Or.inl h_24 | exact Or.inr h_30 | exact Or.inr (Decidable.not_not.mp h_30)))]; exact (jb_f (fun q => Bool.noConfusion q)).symm), by rw [show pPart (w.1 7) f (w.1 46 5).toNatClampNeg 0 z = (false, z) from (if_neg (jb_0.mp h_13)).trans (if_pos (by first | exact Or.inl h_24 | exact Or.inr h_30 | exact Or.inr (Decidable.not_not.mp h_30)))]⟩
    · refine J_iload_n (pc' := 28) dX2_readPart_27 rfl rfl ?_
      refine J_bipush (v := 40) (pc' := 30) dX2_readPart_28 (by decide) rfl ?_
      refine J_icmp_ne 55 (pc' := 33) dX2_readPart_30 (by decide) rfl (fun h_30 => ?_) (fun h_30 => ?_)
      · refine J_iload_n (pc' := 56) dX2_readPart_55 rfl rfl ?_
        refine J_if_ge 63 (pc' := 59) dX2_readPart_56 (by decide) rfl (fun h_56 => ?_) (fun h_56 => ?_)
        · have hb := rNx_in hH (a := z.1) (by first | exact h_56 | exact Int32.not_lt.mpr h_56)
          have h0 : 0 ≤ (pNx (w.1 7) f z.1) := Int32.le_iff_toInt_le.mpr (by rw [show (0 : Int32).toInt = 0 from by decide]; omega)
          have h1 : (pNx (w.1 7) f z.1) ≤ 255 := Int32.le_iff_toInt_le.mpr (by rw [show (255 : Int32).toInt = 255 from by decide]; omega)
          have hi2 := i2c_eq hb.1 hb.2
          have hz2 := pAd_ok (tp := w.1 7) hH.2.1 hz (fun e => by rw [e] at h0; exact absurd h0 (by decide))
          refine J_aload_n (pc' := 64) dX2_readPart_63 rfl rfl ?_
          refine J_getS (pc' := 67) dX2_readPart_64 fl_2_17 (ly_46) (l84_46) rfl rfl ?_
          refine J_iload_n (pc' := 68) dX2_readPart_67 rfl rfl ?_
          refine J_i2c (pc' := 69) dX2_readPart_68 rfl ?_
          rw [hi2.1]
          refine J_T1v (pc' := 72) dX2_readPart_69 lk_2_76 cd_J0_indexOf_0f7a4 (k_sIx hSi h0 h1) hSi rfl ⟨⟨by show 3 + 1 ≤ 4; omega, by show 8 + (2 + 11) + 40 * 3 ≤ 40 * 4; omega⟩, Nat.le_refl _, Nat.le_refl _⟩ (Nat.le_of_ble_eq_true rfl) rfl ?_
          rw [hi2.2 _ hSi]
          refine J_istore_n (pc' := 73) dX2_readPart_72 (Nat.le_of_ble_eq_true rfl) (jst3 rfl rfl) rfl ?_
          refine J_iload_n (pc' := 74) dX2_readPart_73 rfl rfl ?_
          refine J_if_ge 79 (pc' := 77) dX2_readPart_74 (by decide) rfl (fun h_74 => ?_) (fun h_74 => ?_)
          · refine J_aload_n (pc' := 80) dX2_readPart_79 rfl rfl ?_
            refine J_dup (pc' := 81) dX2_readPart_80 rfl rfl ?_
            refine J_getI (pc' := 84) dX2_readPart_81 fl_2_28 (ly_46) (l84_46) rfl rfl ?_
            rw [show (rPut w z).1 46 4 = nI z.1 from rfl]
            refine J_iconst (v := 1) (pc' := 85) dX2_readPart_84 (by decide) rfl ?_
            refine J_iadd (pc' := 86) dX2_readPart_85 rfl ?_
            refine J_putI (pc' := 89) dX2_readPart_86 fp_2_28 (ly_46) (l84_46) rfl rfl ?_
            rw [rPut_ad]
            refine J_aload_n (pc' := 90) dX2_readPart_89 rfl rfl ?_
            refine J_iconst (v := -1) (pc' := 91) dX2_readPart_90 (by decide) rfl ?_
            refine J_iload_n (pc' := 92) dX2_readPart_91 rfl rfl ?_
            refine J_isub (pc' := 93) dX2_readPart_92 rfl ?_
            refine J_V10 (pc' := 96) dX2_readPart_93 lk_2_45 cd_X2_write (k_rWr hz2) (ly_46) (l84_46) rfl rfl ⟨⟨by show 0 + 1 ≤ 4; omega, by show 8 + (2 + 11) + 40 * 0 ≤ 40 * 4; omega⟩, Nat.le_refl _, Nat.le_refl _⟩ (Nat.le_of_ble_eq_true rfl) rfl ?_
            refine J_iconst (v := 1) (pc' := 97) dX2_readPart_96 (by decide) rfl ?_
            exact J_zret dX2_readPart_97 (Or.inr rfl) ⟨congrArg (fun q => some (Value.int q)) (by rw [show pPart (w.1 7) f (w.1 46 5).toNatClampNeg 0 z = (true, pWr (-1 - sIx (w.1 46 5).toNatClampNeg (pNx (w.1 7) f z.1) 3 0) (pAd z)) from (if_neg (jb_0.mp h_13)).trans ((if_neg (fun q => q.elim h_24 h_30)).trans (if_neg (fun q => q.elim (Int32.not_lt.mpr h0) (by first | exact h_74 | exact Int32.not_lt.mpr h_74))))]; exact (jb_t rfl).symm), by rw [show pPart (w.1 7) f (w.1 46 5).toNatClampNeg 0 z = (true, pWr (-1 - sIx (w.1 46 5).toNatClampNeg (pNx (w.1 7) f z.1) 3 0) (pAd z)) from (if_neg (jb_0.mp h_13)).trans ((if_neg (fun q => q.elim h_24 h_30)).trans (if_neg (fun q => q.elim (Int32.not_lt.mpr h0) (by first | exact h_74 | exact Int32.not_lt.mpr h_74))))]⟩
          · refine J_iconst (v := 0) (pc' := 78) dX2_readPart_77 (by decide) rfl ?_
            exact J_zret dX2_readPart_78 (Or.inl rfl) ⟨congrArg (fun q => some (Value.int q)) (by rw [show pPart (w.1 7) f (w.1 46 5).toNatClampNeg 0 z = (false, z) from (if_neg (jb_0.mp h_13)).trans ((if_neg (fun q => q.elim h_24 h_30)).trans (if_pos (by first | exact Or.inl h_56 | exact Or.inr h_74 | exact Or.inl (Int32.not_le.mp h_56) | exact Or.inr (Int32.not_le.mp h_74))))]; exact (jb_f (fun q => Bool.noConfusion q)).symm), by rw [show pPart (w.1 7) f (w.1 46 5).toNatClampNeg 0 z = (false, z) from (if_neg (jb_0.mp h_13)).trans ((if_neg (fun q => q.elim h_24 h_30)).trans (if_pos (by first | exact Or.inl h_56 | exact Or.inr h_74 | exact Or.inl (Int32.not_le.mp h_56) | exact Or.inr (Int32.not_le.mp h_74))))]⟩
        · refine J_iconst (v := -1) (pc' := 60) dX2_readPart_59 (by decide) rfl ?_
          refine J_goto (pc' := 0) 72 dX2_readPart_60 (by decide) ?_
          refine J_istore_n (pc' := 73) dX2_readPart_72 (Nat.le_of_ble_eq_true rfl) (jst3 rfl rfl) rfl ?_
          refine J_iload_n (pc' := 74) dX2_readPart_73 rfl rfl ?_
          refine J_if_ge 79 (pc' := 77) dX2_readPart_74 (by decide) rfl (fun h_74 => absurd h_74 (by decide)) (fun h_74 => ?_)
          refine J_iconst (v := 0) (pc' := 78) dX2_readPart_77 (by decide) rfl ?_
          exact J_zret dX2_readPart_78 (Or.inl rfl) ⟨congrArg (fun q => some (Value.int q)) (by rw [show pPart (w.1 7) f (w.1 46 5).toNatClampNeg 0 z = (false, z) from (if_neg (jb_0.mp h_13)).trans ((if_neg (fun q => q.elim h_24 h_30)).trans (if_pos (by first | exact Or.inl h_56 | exact Or.inr h_74 | exact Or.inl (Int32.not_le.mp h_56) | exact Or.inr (Int32.not_le.mp h_74))))]; exact (jb_f (fun q => Bool.noConfusion q)).symm), by rw [show pPart (w.1 7) f (w.1 46 5).toNatClampNeg 0 z = (false, z) from (if_neg (jb_0.mp h_13)).trans ((if_neg (fun q => q.elim h_24 h_30)).trans (if_pos (by first | exact Or.inl h_56 | exact Or.inr h_74 | exact Or.inl (Int32.not_le.mp h_56) | exact Or.inr (Int32.not_le.mp h_74))))]⟩
      · refine J_iload_n (pc' := 34) dX2_readPart_33 rfl rfl ?_
        refine J_iconst (v := 5) (pc' := 35) dX2_readPart_34 (by decide) rfl ?_
        refine J_icmp_ge 53 (pc' := 38) dX2_readPart_35 (by decide) rfl (fun h_35 => ?_) (fun h_35 => absurd (by decide) h_35)
        refine J_iconst (v := 0) (pc' := 54) dX2_readPart_53 (by decide) rfl ?_
        exact J_zret dX2_readPart_54 (Or.inl rfl) ⟨congrArg (fun q => some (Value.int q)) (by rw [show pPart (w.1 7) f (w.1 46 5).toNatClampNeg 0 z = (false, z) from (if_neg (jb_0.mp h_13)).trans (if_pos (by first | exact Or.inl h_24 | exact Or.inr h_30 | exact Or.inr (Decidable.not_not.mp h_30)))]; exact (jb_f (fun q => Bool.noConfusion q)).symm), by rw [show pPart (w.1 7) f (w.1 46 5).toNatClampNeg 0 z = (false, z) from (if_neg (jb_0.mp h_13)).trans (if_pos (by first | exact Or.inl h_24 | exact Or.inr h_30 | exact Or.inr (Decidable.not_not.mp h_30)))]⟩
  · refine J_aload_n (pc' := 17) dX2_readPart_16 rfl rfl ?_
    refine J_V0v (pc' := 20) dX2_readPart_17 lk_2_68 cd_X2_readNumber (k_rNum hH hz) (ly_46) (l84_46) rfl rfl ⟨⟨by show 1 + 1 ≤ 4; omega, by show 8 + (3 + 11) + 40 * 1 ≤ 40 * 4; omega⟩, Nat.le_refl _, Nat.le_refl _⟩ (Nat.le_of_ble_eq_true rfl) rfl ?_
    exact J_zret dX2_readPart_20 (Or.inr rfl) ⟨by rw [show pPart (w.1 7) f (w.1 46 5).toNatClampNeg 0 z = pDig (w.1 7) f z from if_pos (jb_n h_13)]; exact congrArg (fun q => some (Value.int q)) (jb_t rfl).symm, by rw [show pPart (w.1 7) f (w.1 46 5).toNatClampNeg 0 z = pDig (w.1 7) f z from if_pos (jb_n h_13)]⟩
set_option maxHeartbeats 4000000 in
set_option maxRecDepth 100000 in
theorem k_rPartS {G : jG} {w : jWd} {f : Nat} (hH : rH w f) {n e : Nat} (hn : n + 1 + e = 5) (ih : rMC G w (7 * n + 4) yX2_readPart cX2_readPart 4 (nI e + 1) (pPart (w.1 7) f (w.1 46 5).toNatClampNeg n)) {z : rS} (hz : rOk z) : jKd G (7 * (n + 1) + 4) yX2_readPart cX2_readPart 4 (some .boolean) [.ref 46, .int (nI e)] (rPut w z) (some (.int (jb ((pPart (w.1 7) f (w.1 46 5).toNatClampNeg (n + 1) z).1 = true)))) (rPut w (pPart (w.1 7) f (w.1 46 5).toNatClampNeg (n + 1) z).2) := by
  have hSi := hH.2.2.2
  refine jK_of (own := RX2) [some (.ref 46), some (.int (nI e)), none, none] pn2 rfl (Nat.le_of_ble_eq_true rfl) rfl ?_
  refine J_aload_n (pc' := 1) dX2_readPart_0 rfl rfl ?_
  refine J_V0v (pc' := 4) dX2_readPart_1 lk_2_41 cd_X2_next (k_rNx hH hz) (ly_46) (l84_46) rfl rfl ⟨⟨by show 0 + 1 ≤ (7 * (n + 1) + 4); omega, by show 8 + (1 + 11) + 40 * 0 ≤ 40 * (7 * (n + 1) + 4); omega⟩, Nat.le_refl _, Nat.le_refl _⟩ (Nat.le_of_ble_eq_true rfl) rfl ?_
  refine J_istore_n (pc' := 5) dX2_readPart_4 (Nat.le_of_ble_eq_true rfl) (jst2 rfl rfl) rfl ?_
  refine J_iload_n (pc' := 6) dX2_readPart_5 rfl rfl ?_
  refine J_bipush (v := 48) (pc' := 8) dX2_readPart_6 (by decide) rfl ?_
  refine J_bipush (v := 57) (pc' := 10) dX2_readPart_8 (by decide) rfl ?_
  refine J_S3v (pc' := 13) dX2_readPart_10 lk_2_64 cd_X6_isWithin (k_X6_isWithin) ⟨⟨by show 0 + 1 ≤ (7 * (n + 1) + 4); omega, by show 8 + (3 + 11) + 40 * 0 ≤ 40 * (7 * (n + 1) + 4); omega⟩, Nat.le_refl _, Nat.le_refl _⟩ (Nat.le_of_ble_eq_true rfl) rfl ?_
  refine J_if_eq 21 (pc' := 16) dX2_readPart_13 (by decide) rfl (fun h_13 => ?_) (fun h_13 => ?_)
  · refine J_iload_n (pc' := 22) dX2_readPart_21 rfl rfl ?_
    refine J_bipush (v := 33) (pc' := 24) dX2_readPart_22 (by decide) rfl ?_
    refine J_icmp_eq 33 (pc' := 27) dX2_readPart_24 (by decide) rfl (fun h_24 => ?_) (fun h_24 => ?_)
    · refine J_iload_n (pc' := 34) dX2_readPart_33 rfl rfl ?_
      refine J_iconst (v := 5) (pc' := 35) dX2_readPart_34 (by decide) rfl ?_
      refine J_icmp_ge 53 (pc' := 38) dX2_readPart_35 (by decide) rfl (fun h_35 => absurd h_35 (by rw [show (5 : Int32) = nI 5 from by decide]; exact nI_ge (by omega) (by omega))) (fun h_35 => ?_)
      refine J_aload_n (pc' := 39) dX2_readPart_38 rfl rfl ?_
      refine J_iload_n (pc' := 40) dX2_readPart_39 rfl rfl ?_
      refine J_iload_n (pc' := 41) dX2_readPart_40 rfl rfl ?_
      refine J_iconst (v := 1) (pc' := 42) dX2_readPart_41 (by decide) rfl ?_
      refine J_iadd (pc' := 43) dX2_readPart_42 rfl ?_
      refine J_V2v (pc' := 46) dX2_readPart_43 lk_2_72 cd_X2_readOpened (k_r_opn hH (pPart_ok hH.2.1 n) ih (pAd_ok hH.2.1 hz (by first | (rw [h_24]; decide) | (rw [h_30]; decide) | (rw [Decidable.not_not.mp h_30]; decide)))) (ly_46) (l84_46) rfl rfl ⟨⟨by show (7 * n + 10) + 1 ≤ (7 * (n + 1) + 4); omega, by show 8 + (4 + 11) + 40 * (7 * n + 10) ≤ 40 * (7 * (n + 1) + 4); omega⟩, Nat.le_refl _, Nat.le_refl _⟩ (Nat.le_of_ble_eq_true rfl) rfl ?_
      refine J_if_eq 53 (pc' := 49) dX2_readPart_46 (by decide) rfl (fun h_46 => ?_) (fun h_46 => ?_)
      · refine J_iconst (v := 0) (pc' := 54) dX2_readPart_53 (by decide) rfl ?_
        first | exact J_zret dX2_readPart_54 (Or.inl rfl) ⟨by rw [show pPart (w.1 7) f (w.1 46 5).toNatClampNeg (n + 1) z = pOpn (w.1 7) f (pPart (w.1 7) f (w.1 46 5).toNatClampNeg n) (pNx (w.1 7) f z.1) z from (if_neg (jb_0.mp h_13)).trans (if_pos (by first | exact Or.inl h_24 | exact Or.inr h_30 | exact Or.inr (Decidable.not_not.mp h_30))), jb_f (jb_0.mp h_46)], by rw [show pPart (w.1 7) f (w.1 46 5).toNatClampNeg (n + 1) z = pOpn (w.1 7) f (pPart (w.1 7) f (w.1 46 5).toNatClampNeg n) (pNx (w.1 7) f z.1) z from (if_neg (jb_0.mp h_13)).trans (if_pos (by first | exact Or.inl h_24 | exact Or.inr h_30 | exact Or.inr (Decidable.not_not.mp h_30)))]⟩ | exact J_zret dX2_readPart_54 (Or.inl rfl) ⟨by rw [show pPart (w.1 7) f (w.1 46 5).toNatClampNeg (n + 1) z = pOpn (w.1 7) f (pPart (w.1 7) f (w.1 46 5).toNatClampNeg n) (pNx (w.1 7) f z.1) z from (if_neg (jb_0.mp h_13)).trans (if_pos (by first | exact Or.inl h_24 | exact Or.inr h_30 | exact Or.inr (Decidable.not_not.mp h_30))), jb_t (jb_n h_46)], by rw [show pPart (w.1 7) f (w.1 46 5).toNatClampNeg (n + 1) z = pOpn (w.1 7) f (pPart (w.1 7) f (w.1 46 5).toNatClampNeg n) (pNx (w.1 7) f z.1) z from (if_neg (jb_0.mp h_13)).trans (if_pos (by first | exact Or.inl h_24 | exact Or.inr h_30 | exact Or.inr (Decidable.not_not.mp h_30)))]⟩
      · refine J_iconst (v := 1) (pc' := 50) dX2_readPart_49 (by decide) rfl ?_
        refine J_goto (pc' := 0) 54 dX2_readPart_50 (by decide) ?_
        first | exact J_zret dX2_readPart_54 (Or.inr rfl) ⟨by rw [show pPart (w.1 7) f (w.1 46 5).toNatClampNeg (n + 1) z = pOpn (w.1 7) f (pPart (w.1 7) f (w.1 46 5).toNatClampNeg n) (pNx (w.1 7) f z.1) z from (if_neg (jb_0.mp h_13)).trans (if_pos (by first | exact Or.inl h_24 | exact Or.inr h_30 | exact Or.inr (Decidable.not_not.mp h_30))), jb_f (jb_0.mp h_46)], by rw [show pPart (w.1 7) f (w.1 46 5).toNatClampNeg (n + 1) z = pOpn (w.1 7) f (pPart (w.1 7) f (w.1 46 5).toNatClampNeg n) (pNx (w.1 7) f z.1) z from (if_neg (jb_0.mp h_13)).trans (if_pos (by first | exact Or.inl h_24 | exact Or.inr h_30 | exact Or.inr (Decidable.not_not.mp h_30)))]⟩ | exact J_zret dX2_readPart_54 (Or.inr rfl) ⟨by rw [show pPart (w.1 7) f (w.1 46 5).toNatClampNeg (n + 1) z = pOpn (w.1 7) f (pPart (w.1 7) f (w.1 46 5).toNatClampNeg n) (pNx (w.1 7) f z.1) z from (if_neg (jb_0.mp h_13)).trans (if_pos (by first | exact Or.inl h_24 | exact Or.inr h_30 | exact Or.inr (Decidable.not_not.mp h_30))), jb_t (jb_n h_46)], by rw [show pPart (w.1 7) f (w.1 46 5).toNatClampNeg (n + 1) z = pOpn (w.1 7) f (pPart (w.1 7) f (w.1 46 5).toNatClampNeg n) (pNx (w.1 7) f z.1) z from (if_neg (jb_0.mp h_13)).trans (if_pos (by first | exact Or.inl h_24 | exact Or.inr h_30 | exact Or.inr (Decidable.not_not.mp h_30)))]⟩
    · refine J_iload_n (pc' := 28) dX2_readPart_27 rfl rfl ?_
      refine J_bipush (v := 40) (pc' := 30) dX2_readPart_28 (by decide) rfl ?_
      refine J_icmp_ne 55 (pc' := 33) dX2_readPart_30 (by decide) rfl (fun h_30 => ?_) (fun h_30 => ?_)
      · refine J_iload_n (pc' := 56) dX2_readPart_55 rfl rfl ?_
        refine J_if_ge 63 (pc' := 59) dX2_readPart_56 (by decide) rfl (fun h_56 => ?_) (fun h_56 => ?_)
        · have hb := rNx_in hH (a := z.1) (by first | exact h_56 | exact Int32.not_lt.mpr h_56)
          have h0 : 0 ≤ (pNx (w.1 7) f z.1) := Int32.le_iff_toInt_le.mpr (by rw [show (0 : Int32).toInt = 0 from by decide]; omega)
          have h1 : (pNx (w.1 7) f z.1) ≤ 255 := Int32.le_iff_toInt_le.mpr (by rw [show (255 : Int32).toInt = 255 from by decide]; omega)
          have hi2 := i2c_eq hb.1 hb.2
          have hz2 := pAd_ok (tp := w.1 7) hH.2.1 hz (fun e => by rw [e] at h0; exact absurd h0 (by decide))
          refine J_aload_n (pc' := 64) dX2_readPart_63 rfl rfl ?_
          refine J_getS (pc' := 67) dX2_readPart_64 fl_2_17 (ly_46) (l84_46) rfl rfl ?_
          refine J_iload_n (pc' := 68) dX2_readPart_67 rfl rfl ?_
          refine J_i2c (pc' := 69) dX2_readPart_68 rfl ?_
          rw [hi2.1]
          refine J_T1v (pc' := 72) dX2_readPart_69 lk_2_76 cd_J0_indexOf_0f7a4 (k_sIx hSi h0 h1) hSi rfl ⟨⟨by show 3 + 1 ≤ (7 * (n + 1) + 4); omega, by show 8 + (2 + 11) + 40 * 3 ≤ 40 * (7 * (n + 1) + 4); omega⟩, Nat.le_refl _, Nat.le_refl _⟩ (Nat.le_of_ble_eq_true rfl) rfl ?_
          rw [hi2.2 _ hSi]
          refine J_istore_n (pc' := 73) dX2_readPart_72 (Nat.le_of_ble_eq_true rfl) (jst3 rfl rfl) rfl ?_
          refine J_iload_n (pc' := 74) dX2_readPart_73 rfl rfl ?_
          refine J_if_ge 79 (pc' := 77) dX2_readPart_74 (by decide) rfl (fun h_74 => ?_) (fun h_74 => ?_)
          · refine J_aload_n (pc' := 80) dX2_readPart_79 rfl rfl ?_
            refine J_dup (pc' := 81) dX2_readPart_80 rfl rfl ?_
            refine J_getI (pc' := 84) dX2_readPart_81 fl_2_28 (ly_46) (l84_46) rfl rfl ?_
            rw [show (rPut w z).1 46 4 = nI z.1 from rfl]
            refine J_iconst (v := 1) (pc' := 85) dX2_readPart_84 (by decide) rfl ?_
            refine J_iadd (pc' := 86) dX2_readPart_85 rfl ?_
            refine J_putI (pc' := 89) dX2_readPart_86 fp_2_28 (ly_46) (l84_46) rfl rfl ?_
            rw [rPut_ad]
            refine J_aload_n (pc' := 90) dX2_readPart_89 rfl rfl ?_
            refine J_iconst (v := -1) (pc' := 91) dX2_readPart_90 (by decide) rfl ?_
            refine J_iload_n (pc' := 92) dX2_readPart_91 rfl rfl ?_
            refine J_isub (pc' := 93) dX2_readPart_92 rfl ?_
            refine J_V10 (pc' := 96) dX2_readPart_93 lk_2_45 cd_X2_write (k_rWr hz2) (ly_46) (l84_46) rfl rfl ⟨⟨by show 0 + 1 ≤ (7 * (n + 1) + 4); omega, by show 8 + (2 + 11) + 40 * 0 ≤ 40 * (7 * (n + 1) + 4); omega⟩, Nat.le_refl _, Nat.le_refl _⟩ (Nat.le_of_ble_eq_true rfl) rfl ?_
            refine J_iconst (v := 1) (pc' := 97) dX2_readPart_96 (by decide) rfl ?_
            exact J_zret dX2_readPart_97 (Or.inr rfl) ⟨congrArg (fun q => some (Value.int q)) (by rw [show pPart (w.1 7) f (w.1 46 5).toNatClampNeg (n + 1) z = (true, pWr (-1 - sIx (w.1 46 5).toNatClampNeg (pNx (w.1 7) f z.1) 3 0) (pAd z)) from (if_neg (jb_0.mp h_13)).trans ((if_neg (fun q => q.elim h_24 h_30)).trans (if_neg (fun q => q.elim (Int32.not_lt.mpr h0) (by first | exact h_74 | exact Int32.not_lt.mpr h_74))))]; exact (jb_t rfl).symm), by rw [show pPart (w.1 7) f (w.1 46 5).toNatClampNeg (n + 1) z = (true, pWr (-1 - sIx (w.1 46 5).toNatClampNeg (pNx (w.1 7) f z.1) 3 0) (pAd z)) from (if_neg (jb_0.mp h_13)).trans ((if_neg (fun q => q.elim h_24 h_30)).trans (if_neg (fun q => q.elim (Int32.not_lt.mpr h0) (by first | exact h_74 | exact Int32.not_lt.mpr h_74))))]⟩
          · refine J_iconst (v := 0) (pc' := 78) dX2_readPart_77 (by decide) rfl ?_
            exact J_zret dX2_readPart_78 (Or.inl rfl) ⟨congrArg (fun q => some (Value.int q)) (by rw [show pPart (w.1 7) f (w.1 46 5).toNatClampNeg (n + 1) z = (false, z) from (if_neg (jb_0.mp h_13)).trans ((if_neg (fun q => q.elim h_24 h_30)).trans (if_pos (by first | exact Or.inl h_56 | exact Or.inr h_74 | exact Or.inl (Int32.not_le.mp h_56) | exact Or.inr (Int32.not_le.mp h_74))))]; exact (jb_f (fun q => Bool.noConfusion q)).symm), by rw [show pPart (w.1 7) f (w.1 46 5).toNatClampNeg (n + 1) z = (false, z) from (if_neg (jb_0.mp h_13)).trans ((if_neg (fun q => q.elim h_24 h_30)).trans (if_pos (by first | exact Or.inl h_56 | exact Or.inr h_74 | exact Or.inl (Int32.not_le.mp h_56) | exact Or.inr (Int32.not_le.mp h_74))))]⟩
        · refine J_iconst (v := -1) (pc' := 60) dX2_readPart_59 (by decide) rfl ?_
          refine J_goto (pc' := 0) 72 dX2_readPart_60 (by decide) ?_
          refine J_istore_n (pc' := 73) dX2_readPart_72 (Nat.le_of_ble_eq_true rfl) (jst3 rfl rfl) rfl ?_
          refine J_iload_n (pc' := 74) dX2_readPart_73 rfl rfl ?_
          refine J_if_ge 79 (pc' := 77) dX2_readPart_74 (by decide) rfl (fun h_74 => absurd h_74 (by decide)) (fun h_74 => ?_)
          refine J_iconst (v := 0) (pc' := 78) dX2_readPart_77 (by decide) rfl ?_
          exact J_zret dX2_readPart_78 (Or.inl rfl) ⟨congrArg (fun q => some (Value.int q)) (by rw [show pPart (w.1 7) f (w.1 46 5).toNatClampNeg (n + 1) z = (false, z) from (if_neg (jb_0.mp h_13)).trans ((if_neg (fun q => q.elim h_24 h_30)).trans (if_pos (by first | exact Or.inl h_56 | exact Or.inr h_74 | exact Or.inl (Int32.not_le.mp h_56) | exact Or.inr (Int32.not_le.mp h_74))))]; exact (jb_f (fun q => Bool.noConfusion q)).symm), by rw [show pPart (w.1 7) f (w.1 46 5).toNatClampNeg (n + 1) z = (false, z) from (if_neg (jb_0.mp h_13)).trans ((if_neg (fun q => q.elim h_24 h_30)).trans (if_pos (by first | exact Or.inl h_56 | exact Or.inr h_74 | exact Or.inl (Int32.not_le.mp h_56) | exact Or.inr (Int32.not_le.mp h_74))))]⟩
      · refine J_iload_n (pc' := 34) dX2_readPart_33 rfl rfl ?_
        refine J_iconst (v := 5) (pc' := 35) dX2_readPart_34 (by decide) rfl ?_
        refine J_icmp_ge 53 (pc' := 38) dX2_readPart_35 (by decide) rfl (fun h_35 => absurd h_35 (by rw [show (5 : Int32) = nI 5 from by decide]; exact nI_ge (by omega) (by omega))) (fun h_35 => ?_)
        refine J_aload_n (pc' := 39) dX2_readPart_38 rfl rfl ?_
        refine J_iload_n (pc' := 40) dX2_readPart_39 rfl rfl ?_
        refine J_iload_n (pc' := 41) dX2_readPart_40 rfl rfl ?_
        refine J_iconst (v := 1) (pc' := 42) dX2_readPart_41 (by decide) rfl ?_
        refine J_iadd (pc' := 43) dX2_readPart_42 rfl ?_
        refine J_V2v (pc' := 46) dX2_readPart_43 lk_2_72 cd_X2_readOpened (k_r_opn hH (pPart_ok hH.2.1 n) ih (pAd_ok hH.2.1 hz (by first | (rw [h_24]; decide) | (rw [h_30]; decide) | (rw [Decidable.not_not.mp h_30]; decide)))) (ly_46) (l84_46) rfl rfl ⟨⟨by show (7 * n + 10) + 1 ≤ (7 * (n + 1) + 4); omega, by show 8 + (4 + 11) + 40 * (7 * n + 10) ≤ 40 * (7 * (n + 1) + 4); omega⟩, Nat.le_refl _, Nat.le_refl _⟩ (Nat.le_of_ble_eq_true rfl) rfl ?_
        refine J_if_eq 53 (pc' := 49) dX2_readPart_46 (by decide) rfl (fun h_46 => ?_) (fun h_46 => ?_)
        · refine J_iconst (v := 0) (pc' := 54) dX2_readPart_53 (by decide) rfl ?_
          first | exact J_zret dX2_readPart_54 (Or.inl rfl) ⟨by rw [show pPart (w.1 7) f (w.1 46 5).toNatClampNeg (n + 1) z = pOpn (w.1 7) f (pPart (w.1 7) f (w.1 46 5).toNatClampNeg n) (pNx (w.1 7) f z.1) z from (if_neg (jb_0.mp h_13)).trans (if_pos (by first | exact Or.inl h_24 | exact Or.inr h_30 | exact Or.inr (Decidable.not_not.mp h_30))), jb_f (jb_0.mp h_46)], by rw [show pPart (w.1 7) f (w.1 46 5).toNatClampNeg (n + 1) z = pOpn (w.1 7) f (pPart (w.1 7) f (w.1 46 5).toNatClampNeg n) (pNx (w.1 7) f z.1) z from (if_neg (jb_0.mp h_13)).trans (if_pos (by first | exact Or.inl h_24 | exact Or.inr h_30 | exact Or.inr (Decidable.not_not.mp h_30)))]⟩ | exact J_zret dX2_readPart_54 (Or.inl rfl) ⟨by rw [show pPart (w.1 7) f (w.1 46 5).toNatClampNeg (n + 1) z = pOpn (w.1 7) f (pPart (w.1 7) f (w.1 46 5).toNatClampNeg n) (pNx (w.1 7) f z.1) z from (if_neg (jb_0.mp h_13)).trans (if_pos (by first | exact Or.inl h_24 | exact Or.inr h_30 | exact Or.inr (Decidable.not_not.mp h_30))), jb_t (jb_n h_46)], by rw [show pPart (w.1 7) f (w.1 46 5).toNatClampNeg (n + 1) z = pOpn (w.1 7) f (pPart (w.1 7) f (w.1 46 5).toNatClampNeg n) (pNx (w.1 7) f z.1) z from (if_neg (jb_0.mp h_13)).trans (if_pos (by first | exact Or.inl h_24 | exact Or.inr h_30 | exact Or.inr (Decidable.not_not.mp h_30)))]⟩
        · refine J_iconst (v := 1) (pc' := 50) dX2_readPart_49 (by decide) rfl ?_
          refine J_goto (pc' := 0) 54 dX2_readPart_50 (by decide) ?_
          first | exact J_zret dX2_readPart_54 (Or.inr rfl) ⟨by rw [show pPart (w.1 7) f (w.1 46 5).toNatClampNeg (n + 1) z = pOpn (w.1 7) f (pPart (w.1 7) f (w.1 46 5).toNatClampNeg n) (pNx (w.1 7) f z.1) z from (if_neg (jb_0.mp h_13)).trans (if_pos (by first | exact Or.inl h_24 | exact Or.inr h_30 | exact Or.inr (Decidable.not_not.mp h_30))), jb_f (jb_0.mp h_46)], by rw [show pPart (w.1 7) f (w.1 46 5).toNatClampNeg (n + 1) z = pOpn (w.1 7) f (pPart (w.1 7) f (w.1 46 5).toNatClampNeg n) (pNx (w.1 7) f z.1) z from (if_neg (jb_0.mp h_13)).trans (if_pos (by first | exact Or.inl h_24 | exact Or.inr h_30 | exact Or.inr (Decidable.not_not.mp h_30)))]⟩ | exact J_zret dX2_readPart_54 (Or.inr rfl) ⟨by rw [show pPart (w.1 7) f (w.1 46 5).toNatClampNeg (n + 1) z = pOpn (w.1 7) f (pPart (w.1 7) f (w.1 46 5).toNatClampNeg n) (pNx (w.1 7) f z.1) z from (if_neg (jb_0.mp h_13)).trans (if_pos (by first | exact Or.inl h_24 | exact Or.inr h_30 | exact Or.inr (Decidable.not_not.mp h_30))), jb_t (jb_n h_46)], by rw [show pPart (w.1 7) f (w.1 46 5).toNatClampNeg (n + 1) z = pOpn (w.1 7) f (pPart (w.1 7) f (w.1 46 5).toNatClampNeg n) (pNx (w.1 7) f z.1) z from (if_neg (jb_0.mp h_13)).trans (if_pos (by first | exact Or.inl h_24 | exact Or.inr h_30 | exact Or.inr (Decidable.not_not.mp h_30)))]⟩
  · refine J_aload_n (pc' := 17) dX2_readPart_16 rfl rfl ?_
    refine J_V0v (pc' := 20) dX2_readPart_17 lk_2_68 cd_X2_readNumber (k_rNum hH hz) (ly_46) (l84_46) rfl rfl ⟨⟨by show 1 + 1 ≤ (7 * (n + 1) + 4); omega, by show 8 + (3 + 11) + 40 * 1 ≤ 40 * (7 * (n + 1) + 4); omega⟩, Nat.le_refl _, Nat.le_refl _⟩ (Nat.le_of_ble_eq_true rfl) rfl ?_
    exact J_zret dX2_readPart_20 (Or.inr rfl) ⟨by rw [show pPart (w.1 7) f (w.1 46 5).toNatClampNeg (n + 1) z = pDig (w.1 7) f z from if_pos (jb_n h_13)]; exact congrArg (fun q => some (Value.int q)) (jb_t rfl).symm, by rw [show pPart (w.1 7) f (w.1 46 5).toNatClampNeg (n + 1) z = pDig (w.1 7) f z from if_pos (jb_n h_13)]⟩
theorem r_part {G : jG} {w : jWd} {f : Nat} (hH : rH w f) : ∀ (n e : Nat), n + e = 5 → rMC G w (7 * n + 4) yX2_readPart cX2_readPart 4 (nI e) (pPart (w.1 7) f (w.1 46 5).toNatClampNeg n)
  | 0, e, h => fun _ hz => by
    obtain rfl : e = 5 := by omega
    exact k_rPart0 hH hz
  | n + 1, e, h => fun _ hz => k_rPartS hH h (by rw [nI_1]; exact r_part hH n (e + 1) (by omega)) hz
