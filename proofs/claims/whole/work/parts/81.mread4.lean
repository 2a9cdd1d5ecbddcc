/-! ===== the reference reads: one ===== -/
/-! ===== the reference reads: one ===== -/
theorem nm_in {i : Nat} (hi : i < 2) {b : Int32} (h : ¬ sIx i b 3 0 < 0) : b = 107 ∨ b = 110 ∨ b = 115 ∨ b = 116 ∨ b = 119 := by
  obtain rfl | rfl : i = 0 ∨ i = 1 := by omega
  · rw [sIx_w] at h
    by_cases e : b = 119
    · exact Or.inr (Or.inr (Or.inr (Or.inr e)))
    · rw [if_neg e] at h
      by_cases e2 : b = 107
      · exact Or.inl e2
      · rw [if_neg e2] at h
        by_cases e3 : b = 110
        · exact Or.inr (Or.inl e3)
        · rw [if_neg e3] at h; exact absurd (by decide) h
  · rw [sIx_s] at h
    by_cases e : b = 115
    · exact Or.inr (Or.inr (Or.inl e))
    · rw [if_neg e] at h
      by_cases e2 : b = 116
      · exact Or.inr (Or.inr (Or.inr (Or.inl e2)))
      · rw [if_neg e2] at h
        by_cases e3 : b = 110
        · exact Or.inr (Or.inl e3)
        · rw [if_neg e3] at h; exact absurd (by decide) h
theorem nm_no {b : Int32} (h : b = 107 ∨ b = 110 ∨ b = 115 ∨ b = 116 ∨ b = 119) : ¬ (48 ≤ b ∧ b ≤ 57) ∧ ¬ (b = 33 ∨ b = 40) ∧ ¬ b < 0 ∧ ¬ b = -1 := by
  rcases h with e | e | e | e | e <;> subst e <;> exact ⟨by decide, by decide, by decide, by decide⟩
set_option maxHeartbeats 4000000 in
set_option maxRecDepth 100000 in
theorem k_pone0 {G : jG} {w0 : jWd} {f i : Nat} (hG : mGl w0 f i) {w : jWd} {z : rS} (h : mRes w0 w 5 (true, z)) : jKp G 4 yX7_one cX7_one 3 none [.ref 68] w none (fun w' => mRes w0 w' 5 (pPart (mTP w0) f i 0 z)) := by
  refine jK_of (own := RX7) [some (.ref 68), none, none] pn7 rfl (Nat.le_of_ble_eq_true rfl) rfl ?_
  refine J_aload_n (pc' := 1) dX7_one_0 rfl rfl ?_
  refine J_V0v (pc' := 4) dX7_one_1 lk_7_154 cd_X7_look (k_plook hG h) (ly_68) (l84_68) rfl rfl ⟨⟨by show 0 + 1 ≤ 4; omega, by show 8 + (1 + 11) + 40 * 0 ≤ 40 * 4; omega⟩, Nat.le_refl _, Nat.le_refl _⟩ (Nat.le_of_ble_eq_true rfl) rfl ?_
  refine J_istore_n (pc' := 5) dX7_one_4 (Nat.le_of_ble_eq_true rfl) (jst1 rfl rfl) rfl ?_
  refine J_aload_n (pc' := 6) dX7_one_5 rfl rfl ?_
  refine J_iload_n (pc' := 7) dX7_one_6 rfl rfl ?_
  refine J_V1v (pc' := 10) dX7_one_7 lk_7_174 cd_X7_nameOf (k_pnm hG.2.2.2 ((h.1.2.1 20 (by omega)).trans hG.2.2.1)) (ly_68) (l84_68) rfl rfl ⟨⟨by show 0 + 1 ≤ 4; omega, by show 8 + (2 + 11) + 40 * 0 ≤ 40 * 4; omega⟩, Nat.le_refl _, Nat.le_refl _⟩ (Nat.le_of_ble_eq_true rfl) rfl ?_
  refine J_istore_n (pc' := 11) dX7_one_10 (Nat.le_of_ble_eq_true rfl) (jst2 rfl rfl) rfl ?_
  refine J_iload_n (pc' := 12) dX7_one_11 rfl rfl ?_
  refine J_if_lt 34 (pc' := 15) dX7_one_12 (by decide) rfl (fun h_12 => ?_) (fun h_12 => ?_)
  · refine J_iload_n (pc' := 35) dX7_one_34 rfl rfl ?_
    refine J_bipush (v := 33) (pc' := 37) dX7_one_35 (by decide) rfl ?_
    refine J_icmp_eq 46 (pc' := 40) dX7_one_37 (by decide) rfl (fun h_37 => ?_) (fun h_37 => ?_)
    · have hb : (pNx (mTP w0) f z.1) = 33 ∨ (pNx (mTP w0) f z.1) = 40 := by first | exact Or.inl h_37 | exact Or.inr h_43 | exact Or.inr (Decidable.not_not.mp h_43)
      have hlt := pNx_lt (tp := (mTP w0)) (f := f) (a := z.1) (by rcases hb with e | e <;> rw [e] <;> decide)
      have hf := hG.2.1
      have nd : ¬ (48 ≤ (pNx (mTP w0) f z.1) ∧ (pNx (mTP w0) f z.1) ≤ 57) := by rcases hb with e | e <;> rw [e] <;> decide
      refine J_aload_n (pc' := 47) dX7_one_46 rfl rfl ?_
      refine J_iload_n (pc' := 48) dX7_one_47 rfl rfl ?_
      refine J_V1w (pc' := 51) dX7_one_48 lk_7_177 cd_X7_opens (k_popn0 hG h) (ly_68) (l84_68) rfl rfl (jroom_of rfl) (Nat.le_of_ble_eq_true rfl) rfl (fun w48 hw48 => ?_)
      refine J_goto (pc' := 0) 58 dX7_one_51 (by decide) ?_
      exact J_vret dX7_one_58  ⟨rfl, by rw [show pPart (mTP w0) f i 0 z = (false, z) from (if_neg nd).trans (if_pos hb)]; exact hw48⟩
    · refine J_iload_n (pc' := 41) dX7_one_40 rfl rfl ?_
      refine J_bipush (v := 40) (pc' := 43) dX7_one_41 (by decide) rfl ?_
      refine J_icmp_ne 54 (pc' := 46) dX7_one_43 (by decide) rfl (fun h_43 => ?_) (fun h_43 => ?_)
      · have hneg : (sIx i (pNx (mTP w0) f z.1) 3 0) < 0 := by first | exact h_12 | exact Int32.not_le.mp h_12
        refine J_aload_n (pc' := 55) dX7_one_54 rfl rfl ?_
        refine J_V0w (pc' := 58) dX7_one_55 lk_7_180 cd_X7_number (k_pnum hG h) (ly_68) (l84_68) rfl rfl ⟨⟨by show 1 + 1 ≤ 4; omega, by show 8 + (3 + 11) + 40 * 1 ≤ 40 * 4; omega⟩, Nat.le_refl _, Nat.le_refl _⟩ (Nat.le_of_ble_eq_true rfl) rfl (fun w55 hw55 => ?_)
        exact J_vret dX7_one_58  ⟨rfl, by
              have q := hw55
              by_cases hd : (48 ≤ (pNx (mTP w0) f z.1) ∧ (pNx (mTP w0) f z.1) ≤ 57)
              · rw [if_pos hd] at q; rw [show pPart (mTP w0) f i 0 z = pDig (mTP w0) f z from if_pos hd]; exact q
              · rw [if_neg hd] at q; rw [show pPart (mTP w0) f i 0 z = (false, z) from (if_neg hd).trans ((if_neg (fun e => e.elim h_37 h_43)).trans (if_pos (Or.inr hneg)))]; exact q⟩
      · have hb : (pNx (mTP w0) f z.1) = 33 ∨ (pNx (mTP w0) f z.1) = 40 := by first | exact Or.inl h_37 | exact Or.inr h_43 | exact Or.inr (Decidable.not_not.mp h_43)
        have hlt := pNx_lt (tp := (mTP w0)) (f := f) (a := z.1) (by rcases hb with e | e <;> rw [e] <;> decide)
        have hf := hG.2.1
        have nd : ¬ (48 ≤ (pNx (mTP w0) f z.1) ∧ (pNx (mTP w0) f z.1) ≤ 57) := by rcases hb with e | e <;> rw [e] <;> decide
        refine J_aload_n (pc' := 47) dX7_one_46 rfl rfl ?_
        refine J_iload_n (pc' := 48) dX7_one_47 rfl rfl ?_
        refine J_V1w (pc' := 51) dX7_one_48 lk_7_177 cd_X7_opens (k_popn0 hG h) (ly_68) (l84_68) rfl rfl (jroom_of rfl) (Nat.le_of_ble_eq_true rfl) rfl (fun w48 hw48 => ?_)
        refine J_goto (pc' := 0) 58 dX7_one_51 (by decide) ?_
        exact J_vret dX7_one_58  ⟨rfl, by rw [show pPart (mTP w0) f i 0 z = (false, z) from (if_neg nd).trans (if_pos hb)]; exact hw48⟩
  · have hnn : ¬ (sIx i (pNx (mTP w0) f z.1) 3 0) < 0 := by first | exact h_12 | exact Int32.not_lt.mpr h_12
    have hin := nm_in hG.2.2.2 hnn
    obtain ⟨c1, c2, c3, c4⟩ := nm_no hin
    have hlt := pNx_lt c4
    have hf := hG.2.1
    have hA := h.ad (by show z.1 < 60; omega)
    have hm : mTk 2 (sIx i (pNx (mTP w0) f z.1) 3 0) := Or.inr (Or.inl ⟨rfl, sIx_in hnn⟩)
    refine J_aload_n (pc' := 16) dX7_one_15 rfl rfl ?_
    refine J_dup (pc' := 17) dX7_one_16 rfl rfl ?_
    refine J_getI (pc' := 20) dX7_one_17 fl_7_144 (ly_68) (l84_68) rfl rfl ?_
    rw [show w.1 68 17 = nI z.1 from h.2.2.1]
    refine J_iconst (v := 1) (pc' := 21) dX7_one_20 (by decide) rfl ?_
    refine J_iadd (pc' := 22) dX7_one_21 rfl ?_
    refine J_putI (pc' := 25) dX7_one_22 fp_7_144 (ly_68) (l84_68) rfl rfl ?_
    refine J_aload_n (pc' := 26) dX7_one_25 rfl rfl ?_
    refine J_iconst (v := 2) (pc' := 27) dX7_one_26 (by decide) rfl ?_
    refine J_iload_n (pc' := 28) dX7_one_27 rfl rfl ?_
    refine J_V2w (pc' := 31) dX7_one_28 lk_7_161 cd_X7_lays (k_play hA (fun _ => hm)) (ly_68) (l84_68) rfl rfl ⟨⟨by show 0 + 1 ≤ 4; omega, by show 8 + (3 + 11) + 40 * 0 ≤ 40 * 4; omega⟩, Nat.le_refl _, Nat.le_refl _⟩ (Nat.le_of_ble_eq_true rfl) rfl (fun w28 hw28 => ?_)
    refine J_goto (pc' := 0) 58 dX7_one_31 (by decide) ?_
    exact J_vret dX7_one_58  ⟨rfl, by rw [show pPart (mTP w0) f i 0 z = (true, pWr (-1 - (sIx i (pNx (mTP w0) f z.1) 3 0)) (pAd z)) from (if_neg c1).trans ((if_neg c2).trans (if_neg (fun q => q.elim c3 hnn)))]; have q := hw28; rw [show sEnc 2 (sIx i (pNx (mTP w0) f z.1) 3 0) = -1 - (sIx i (pNx (mTP w0) f z.1) 3 0) from (if_neg (by decide)).trans (if_pos rfl)] at q; exact q⟩
set_option maxHeartbeats 4000000 in
set_option maxRecDepth 100000 in
theorem k_poneS {G : jG} {w0 : jWd} {f i o : Nat} (hG : mGl w0 f i) {n : Nat} (hn : n + 1 + o = 5) (ih : mPc G w0 (o + 1) (7 * n + 4) yX7_one cX7_one 3 (pPart (mTP w0) f i n)) {w : jWd} {z : rS} (h : mRes w0 w o (true, z)) : jKp G (7 * (n + 1) + 4) yX7_one cX7_one 3 none [.ref 68] w none (fun w' => mRes w0 w' o (pPart (mTP w0) f i (n + 1) z)) := by
  refine jK_of (own := RX7) [some (.ref 68), none, none] pn7 rfl (Nat.le_of_ble_eq_true rfl) rfl ?_
  refine J_aload_n (pc' := 1) dX7_one_0 rfl rfl ?_
  refine J_V0v (pc' := 4) dX7_one_1 lk_7_154 cd_X7_look (k_plook hG h) (ly_68) (l84_68) rfl rfl ⟨⟨by show 0 + 1 ≤ (7 * (n + 1) + 4); omega, by show 8 + (1 + 11) + 40 * 0 ≤ 40 * (7 * (n + 1) + 4); omega⟩, Nat.le_refl _, Nat.le_refl _⟩ (Nat.le_of_ble_eq_true rfl) rfl ?_
  refine J_istore_n (pc' := 5) dX7_one_4 (Nat.le_of_ble_eq_true rfl) (jst1 rfl rfl) rfl ?_
  refine J_aload_n (pc' := 6) dX7_one_5 rfl rfl ?_
  refine J_iload_n (pc' := 7) dX7_one_6 rfl rfl ?_
  refine J_V1v (pc' := 10) dX7_one_7 lk_7_174 cd_X7_nameOf (k_pnm hG.2.2.2 ((h.1.2.1 20 (by omega)).trans hG.2.2.1)) (ly_68) (l84_68) rfl rfl ⟨⟨by show 0 + 1 ≤ (7 * (n + 1) + 4); omega, by show 8 + (2 + 11) + 40 * 0 ≤ 40 * (7 * (n + 1) + 4); omega⟩, Nat.le_refl _, Nat.le_refl _⟩ (Nat.le_of_ble_eq_true rfl) rfl ?_
  refine J_istore_n (pc' := 11) dX7_one_10 (Nat.le_of_ble_eq_true rfl) (jst2 rfl rfl) rfl ?_
  refine J_iload_n (pc' := 12) dX7_one_11 rfl rfl ?_
  refine J_if_lt 34 (pc' := 15) dX7_one_12 (by decide) rfl (fun h_12 => ?_) (fun h_12 => ?_)
  · refine J_iload_n (pc' := 35) dX7_one_34 rfl rfl ?_
    refine J_bipush (v := 33) (pc' := 37) dX7_one_35 (by decide) rfl ?_
    refine J_icmp_eq 46 (pc' := 40) dX7_one_37 (by decide) rfl (fun h_37 => ?_) (fun h_37 => ?_)
    · have hb : (pNx (mTP w0) f z.1) = 33 ∨ (pNx (mTP w0) f z.1) = 40 := by first | exact Or.inl h_37 | exact Or.inr h_43 | exact Or.inr (Decidable.not_not.mp h_43)
      have hlt := pNx_lt (tp := (mTP w0)) (f := f) (a := z.1) (by rcases hb with e | e <;> rw [e] <;> decide)
      have hf := hG.2.1
      have nd : ¬ (48 ≤ (pNx (mTP w0) f z.1) ∧ (pNx (mTP w0) f z.1) ≤ 57) := by rcases hb with e | e <;> rw [e] <;> decide
      refine J_aload_n (pc' := 47) dX7_one_46 rfl rfl ?_
      refine J_iload_n (pc' := 48) dX7_one_47 rfl rfl ?_
      refine J_V1w (pc' := 51) dX7_one_48 lk_7_177 cd_X7_opens (k_popnS hG hn ih h (by omega)) (ly_68) (l84_68) rfl rfl ⟨⟨by show (7 * n + 10) + 1 ≤ (7 * (n + 1) + 4); omega, by show 8 + (2 + 11) + 40 * (7 * n + 10) ≤ 40 * (7 * (n + 1) + 4); omega⟩, Nat.le_refl _, Nat.le_refl _⟩ (Nat.le_of_ble_eq_true rfl) rfl (fun w48 hw48 => ?_)
      refine J_goto (pc' := 0) 58 dX7_one_51 (by decide) ?_
      exact J_vret dX7_one_58  ⟨rfl, by rw [show pPart (mTP w0) f i (n + 1) z = pOpn (mTP w0) f (pPart (mTP w0) f i n) (pNx (mTP w0) f z.1) z from (if_neg nd).trans (if_pos hb)]; exact hw48⟩
    · refine J_iload_n (pc' := 41) dX7_one_40 rfl rfl ?_
      refine J_bipush (v := 40) (pc' := 43) dX7_one_41 (by decide) rfl ?_
      refine J_icmp_ne 54 (pc' := 46) dX7_one_43 (by decide) rfl (fun h_43 => ?_) (fun h_43 => ?_)
      · have hneg : (sIx i (pNx (mTP w0) f z.1) 3 0) < 0 := by first | exact h_12 | exact Int32.not_le.mp h_12
        refine J_aload_n (pc' := 55) dX7_one_54 rfl rfl ?_
        refine J_V0w (pc' := 58) dX7_one_55 lk_7_180 cd_X7_number (k_pnum hG h) (ly_68) (l84_68) rfl rfl ⟨⟨by show 1 + 1 ≤ (7 * (n + 1) + 4); omega, by show 8 + (3 + 11) + 40 * 1 ≤ 40 * (7 * (n + 1) + 4); omega⟩, Nat.le_refl _, Nat.le_refl _⟩ (Nat.le_of_ble_eq_true rfl) rfl (fun w55 hw55 => ?_)
        exact J_vret dX7_one_58  ⟨rfl, by
              have q := hw55
              by_cases hd : (48 ≤ (pNx (mTP w0) f z.1) ∧ (pNx (mTP w0) f z.1) ≤ 57)
              · rw [if_pos hd] at q; rw [show pPart (mTP w0) f i (n + 1) z = pDig (mTP w0) f z from if_pos hd]; exact q
              · rw [if_neg hd] at q; rw [show pPart (mTP w0) f i (n + 1) z = (false, z) from (if_neg hd).trans ((if_neg (fun e => e.elim h_37 h_43)).trans (if_pos (Or.inr hneg)))]; exact q⟩
      · have hb : (pNx (mTP w0) f z.1) = 33 ∨ (pNx (mTP w0) f z.1) = 40 := by first | exact Or.inl h_37 | exact Or.inr h_43 | exact Or.inr (Decidable.not_not.mp h_43)
        have hlt := pNx_lt (tp := (mTP w0)) (f := f) (a := z.1) (by rcases hb with e | e <;> rw [e] <;> decide)
        have hf := hG.2.1
        have nd : ¬ (48 ≤ (pNx (mTP w0) f z.1) ∧ (pNx (mTP w0) f z.1) ≤ 57) := by rcases hb with e | e <;> rw [e] <;> decide
        refine J_aload_n (pc' := 47) dX7_one_46 rfl rfl ?_
        refine J_iload_n (pc' := 48) dX7_one_47 rfl rfl ?_
        refine J_V1w (pc' := 51) dX7_one_48 lk_7_177 cd_X7_opens (k_popnS hG hn ih h (by omega)) (ly_68) (l84_68) rfl rfl ⟨⟨by show (7 * n + 10) + 1 ≤ (7 * (n + 1) + 4); omega, by show 8 + (2 + 11) + 40 * (7 * n + 10) ≤ 40 * (7 * (n + 1) + 4); omega⟩, Nat.le_refl _, Nat.le_refl _⟩ (Nat.le_of_ble_eq_true rfl) rfl (fun w48 hw48 => ?_)
        refine J_goto (pc' := 0) 58 dX7_one_51 (by decide) ?_
        exact J_vret dX7_one_58  ⟨rfl, by rw [show pPart (mTP w0) f i (n + 1) z = pOpn (mTP w0) f (pPart (mTP w0) f i n) (pNx (mTP w0) f z.1) z from (if_neg nd).trans (if_pos hb)]; exact hw48⟩
  · have hnn : ¬ (sIx i (pNx (mTP w0) f z.1) 3 0) < 0 := by first | exact h_12 | exact Int32.not_lt.mpr h_12
    have hin := nm_in hG.2.2.2 hnn
    obtain ⟨c1, c2, c3, c4⟩ := nm_no hin
    have hlt := pNx_lt c4
    have hf := hG.2.1
    have hA := h.ad (by show z.1 < 60; omega)
    have hm : mTk 2 (sIx i (pNx (mTP w0) f z.1) 3 0) := Or.inr (Or.inl ⟨rfl, sIx_in hnn⟩)
    refine J_aload_n (pc' := 16) dX7_one_15 rfl rfl ?_
    refine J_dup (pc' := 17) dX7_one_16 rfl rfl ?_
    refine J_getI (pc' := 20) dX7_one_17 fl_7_144 (ly_68) (l84_68) rfl rfl ?_
    rw [show w.1 68 17 = nI z.1 from h.2.2.1]
    refine J_iconst (v := 1) (pc' := 21) dX7_one_20 (by decide) rfl ?_
    refine J_iadd (pc' := 22) dX7_one_21 rfl ?_
    refine J_putI (pc' := 25) dX7_one_22 fp_7_144 (ly_68) (l84_68) rfl rfl ?_
    refine J_aload_n (pc' := 26) dX7_one_25 rfl rfl ?_
    refine J_iconst (v := 2) (pc' := 27) dX7_one_26 (by decide) rfl ?_
    refine J_iload_n (pc' := 28) dX7_one_27 rfl rfl ?_
    refine J_V2w (pc' := 31) dX7_one_28 lk_7_161 cd_X7_lays (k_play hA (fun _ => hm)) (ly_68) (l84_68) rfl rfl ⟨⟨by show 0 + 1 ≤ (7 * (n + 1) + 4); omega, by show 8 + (3 + 11) + 40 * 0 ≤ 40 * (7 * (n + 1) + 4); omega⟩, Nat.le_refl _, Nat.le_refl _⟩ (Nat.le_of_ble_eq_true rfl) rfl (fun w28 hw28 => ?_)
    refine J_goto (pc' := 0) 58 dX7_one_31 (by decide) ?_
    exact J_vret dX7_one_58  ⟨rfl, by rw [show pPart (mTP w0) f i (n + 1) z = (true, pWr (-1 - (sIx i (pNx (mTP w0) f z.1) 3 0)) (pAd z)) from (if_neg c1).trans ((if_neg c2).trans (if_neg (fun q => q.elim c3 hnn)))]; have q := hw28; rw [show sEnc 2 (sIx i (pNx (mTP w0) f z.1) 3 0) = -1 - (sIx i (pNx (mTP w0) f z.1) 3 0) from (if_neg (by decide)).trans (if_pos rfl)] at q; exact q⟩
theorem mp_one {G : jG} {w0 : jWd} {f i : Nat} (hG : mGl w0 f i) : ∀ (n o : Nat), n + o = 5 → mPc G w0 o (7 * n + 4) yX7_one cX7_one 3 (pPart (mTP w0) f i n)
  | 0, o, h => fun _ _ q => by
    obtain rfl : o = 5 := by omega
    exact k_pone0 hG q
  | n + 1, o, h => fun _ _ q => k_poneS hG h (mp_one hG n (o + 1) (by omega)) q

set_option maxRecDepth 100000 in
theorem mp_all {G : jG} {w0 : jWd} {f i : Nat} (hG : mGl w0 f i) : mPc G w0 0 44 yX7_any cX7_any 1 (pOr (mTP w0) f (pPart (mTP w0) f i 5)) := mp_or (n := 5) hG (pPart_mo 5) (mp_one hG 5 0 rfl)
