/-! ===== the reference reads: levels ===== -/
set_option maxHeartbeats 4000000 in
set_option maxRecDepth 100000 in
theorem l_p_mul {G : jG} {w0 : jWd} {f i o : Nat} (hG : mGl w0 f i) {n : Nat} {part : rS → Bool × rS} (hp : pMo part) (ih : mPc G w0 o (7 * n + 4) yX7_one cX7_one 3 (part)) : ∀ k j : Nat, j + k = 60 → ∀ (w : jWd) (r : Bool × rS) (_ : mRes w0 w o r) (_ : r.1 = true → j ≤ r.2.1), J G (jM G (7 * n + 5) RX7 cX7_times 2 none ((fun r' w' => r' = none ∧ mRes w0 w' o (pLoop (mTP w0) f pIm (part) k r)))) w 4 [some (.ref 68), none] [] := by
  intro k
  induction k with
  | zero =>
    intro j hj w r h hj2
    have hf := hG.2.1
    have hm1 : w.1 68 19 = 0 → pNx (mTP w0) f r.2.1 = -1 := fun q => if_neg (by have := hj2 (h.b0.mp q); omega)
    refine J_aload_n (pc' := 5) dX7_times_4 rfl rfl ?_
    refine J_getI (pc' := 8) dX7_times_5 fl_7_157 (ly_68) (l84_68) rfl rfl ?_
    refine J_if_ne 66 (pc' := 11) dX7_times_8 (by decide) rfl (fun h_8 => ?_) (fun h_8 => ?_)
    · exact J_vret dX7_times_66  ⟨rfl, h⟩
    · refine J_aload_n (pc' := 12) dX7_times_11 rfl rfl ?_
      refine J_V0v (pc' := 15) dX7_times_12 lk_7_154 cd_X7_look (k_plook hG h) (ly_68) (l84_68) rfl rfl ⟨⟨by show 0 + 1 ≤ (7 * n + 5); omega, by show 8 + (1 + 11) + 40 * 0 ≤ 40 * (7 * n + 5); omega⟩, Nat.le_refl _, Nat.le_refl _⟩ (Nat.le_of_ble_eq_true rfl) rfl ?_
      rw [hm1 (by first | exact h_8 | exact Decidable.not_not.mp h_8)]
      refine J_bipush (v := 42) (pc' := 17) dX7_times_15 (by decide) rfl ?_
      refine J_icmp_eq 38 (pc' := 20) dX7_times_17 (by decide) rfl (fun h_17 => absurd h_17 (by decide)) (fun h_17 => ?_)
      refine J_aload_n (pc' := 21) dX7_times_20 rfl rfl ?_
      refine J_V0v (pc' := 24) dX7_times_21 lk_7_154 cd_X7_look (k_plook hG h) (ly_68) (l84_68) rfl rfl ⟨⟨by show 0 + 1 ≤ (7 * n + 5); omega, by show 8 + (1 + 11) + 40 * 0 ≤ 40 * (7 * n + 5); omega⟩, Nat.le_refl _, Nat.le_refl _⟩ (Nat.le_of_ble_eq_true rfl) rfl ?_
      rw [hm1 (by first | exact h_8 | exact Decidable.not_not.mp h_8)]
      refine J_bipush (v := 47) (pc' := 26) dX7_times_24 (by decide) rfl ?_
      refine J_icmp_eq 38 (pc' := 29) dX7_times_26 (by decide) rfl (fun h_26 => absurd h_26 (by decide)) (fun h_26 => ?_)
      refine J_aload_n (pc' := 30) dX7_times_29 rfl rfl ?_
      refine J_V0v (pc' := 33) dX7_times_30 lk_7_154 cd_X7_look (k_plook hG h) (ly_68) (l84_68) rfl rfl ⟨⟨by show 0 + 1 ≤ (7 * n + 5); omega, by show 8 + (1 + 11) + 40 * 0 ≤ 40 * (7 * n + 5); omega⟩, Nat.le_refl _, Nat.le_refl _⟩ (Nat.le_of_ble_eq_true rfl) rfl ?_
      rw [hm1 (by first | exact h_8 | exact Decidable.not_not.mp h_8)]
      refine J_bipush (v := 37) (pc' := 35) dX7_times_33 (by decide) rfl ?_
      refine J_icmp_ne 66 (pc' := 38) dX7_times_35 (by decide) rfl (fun h_35 => ?_) (fun h_35 => absurd h_35 (by decide))
      exact J_vret dX7_times_66  ⟨rfl, h⟩
  | succ k ih2 =>
    intro j hj w r h hj2
    refine J_aload_n (pc' := 5) dX7_times_4 rfl rfl ?_
    refine J_getI (pc' := 8) dX7_times_5 fl_7_157 (ly_68) (l84_68) rfl rfl ?_
    refine J_if_ne 66 (pc' := 11) dX7_times_8 (by decide) rfl (fun h_8 => ?_) (fun h_8 => ?_)
    · exact J_vret dX7_times_66  ⟨rfl, by rw [show pLoop (mTP w0) f pIm (part) (k + 1) r = r from if_neg (fun q => by first | exact h_8 (h.b0.mpr q.1) | (have q2 := of_decide_eq_true q.2; first | contradiction | (rcases q2 with e | e | e <;> contradiction) | (rcases q2 with e | e <;> contradiction)))]; exact h⟩
    · refine J_aload_n (pc' := 12) dX7_times_11 rfl rfl ?_
      refine J_V0v (pc' := 15) dX7_times_12 lk_7_154 cd_X7_look (k_plook hG h) (ly_68) (l84_68) rfl rfl ⟨⟨by show 0 + 1 ≤ (7 * n + 5); omega, by show 8 + (1 + 11) + 40 * 0 ≤ 40 * (7 * n + 5); omega⟩, Nat.le_refl _, Nat.le_refl _⟩ (Nat.le_of_ble_eq_true rfl) rfl ?_
      refine J_bipush (v := 42) (pc' := 17) dX7_times_15 (by decide) rfl ?_
      refine J_icmp_eq 38 (pc' := 20) dX7_times_17 (by decide) rfl (fun h_17 => ?_) (fun h_17 => ?_)
      · refine J_aload_n (pc' := 39) dX7_times_38 rfl rfl ?_
        refine J_V0v (pc' := 42) dX7_times_39 lk_7_154 cd_X7_look (k_plook hG h) (ly_68) (l84_68) rfl rfl ⟨⟨by show 0 + 1 ≤ (7 * n + 5); omega, by show 8 + (1 + 11) + 40 * 0 ≤ 40 * (7 * n + 5); omega⟩, Nat.le_refl _, Nat.le_refl _⟩ (Nat.le_of_ble_eq_true rfl) rfl ?_
        refine J_istore_n (pc' := 43) dX7_times_42 (Nat.le_of_ble_eq_true rfl) (jst1 rfl rfl) rfl ?_
        refine J_aload_n (pc' := 44) dX7_times_43 rfl rfl ?_
        refine J_dup (pc' := 45) dX7_times_44 rfl rfl ?_
        have hr1 := h.b0.mp (by first | exact h_8 | exact Decidable.not_not.mp h_8)
        have hC : pIm (pNx (mTP w0) f r.2.1) = true := decide_eq_true (by first | exact Or.inl h_17 | exact Or.inr (Or.inl h_26) | exact Or.inr (Or.inr h_35) | exact Or.inr (Or.inr (Decidable.not_not.mp h_35)))
        have hlt := pNx_lt (pIm_sn _ hC)
        have hf := hG.2.1
        have hA := (h.tt hr1).ad (by omega)
        have hsg := pIm_sg _ hC
        refine J_getI (pc' := 48) dX7_times_45 fl_7_144 (ly_68) (l84_68) rfl rfl ?_
        rw [show w.1 68 17 = nI r.2.1 from h.2.2.1]
        refine J_iconst (v := 1) (pc' := 49) dX7_times_48 (by decide) rfl ?_
        refine J_iadd (pc' := 50) dX7_times_49 rfl ?_
        refine J_putI (pc' := 53) dX7_times_50 fp_7_144 (ly_68) (l84_68) rfl rfl ?_
        refine J_aload_n (pc' := 54) dX7_times_53 rfl rfl ?_
        refine J_V0w (pc' := 57) dX7_times_54 lk_7_168 cd_X7_one (ih _ _ hA) (ly_68) (l84_68) rfl rfl ⟨⟨by show (7 * n + 4) + 1 ≤ (7 * n + 5); omega, by show 8 + (3 + 11) + 40 * (7 * n + 4) ≤ 40 * (7 * n + 5); omega⟩, Nat.le_refl _, Nat.le_refl _⟩ (Nat.le_of_ble_eq_true rfl) rfl (fun w54 hw54 => ?_)
        refine J_aload_n (pc' := 58) dX7_times_57 rfl rfl ?_
        refine J_iload_n (pc' := 59) dX7_times_58 rfl rfl ?_
        refine J_iconst (v := 0) (pc' := 60) dX7_times_59 (by decide) rfl ?_
        refine J_V2w (pc' := 63) dX7_times_60 lk_7_161 cd_X7_lays (k_play hw54 (fun _ => Or.inr (Or.inr (Or.inr hsg)))) (ly_68) (l84_68) rfl rfl ⟨⟨by show 0 + 1 ≤ (7 * n + 5); omega, by show 8 + (3 + 11) + 40 * 0 ≤ 40 * (7 * n + 5); omega⟩, Nat.le_refl _, Nat.le_refl _⟩ (Nat.le_of_ble_eq_true rfl) rfl (fun w60 hw60 => ?_)
        refine J_goto (pc' := 0) 4 dX7_times_63 (by decide) ?_
        have h3 : mRes w0 w60 o (((part) (pAd r.2)).1, pWr (-(pNx (mTP w0) f r.2.1)) ((part) (pAd r.2)).2) := by have q := hw60; rw [show sEnc (pNx (mTP w0) f r.2.1) 0 = -(pNx (mTP w0) f r.2.1) from sEnc_sg hsg] at q; exact q
        have h2 := ih2 (j + 1) (by omega) w60 (((part) (pAd r.2)).1, pWr (-(pNx (mTP w0) f r.2.1)) ((part) (pAd r.2)).2) h3 (fun _ => by show j + 1 ≤ (pWr _ _).1; rw [pWr_at]; have q1 := hp (pAd r.2); have q2 : (pAd r.2).1 = r.2.1 + 1 := rfl; have q3 := hj2 hr1; omega)
        rw [show pLoop (mTP w0) f pIm (part) (k + 1) r = pLoop (mTP w0) f pIm (part) k (((part) (pAd r.2)).1, pWr (-(pNx (mTP w0) f r.2.1)) ((part) (pAd r.2)).2) from if_pos ⟨hr1, hC⟩]
        exact J_mask [true, false] h2
      · refine J_aload_n (pc' := 21) dX7_times_20 rfl rfl ?_
        refine J_V0v (pc' := 24) dX7_times_21 lk_7_154 cd_X7_look (k_plook hG h) (ly_68) (l84_68) rfl rfl ⟨⟨by show 0 + 1 ≤ (7 * n + 5); omega, by show 8 + (1 + 11) + 40 * 0 ≤ 40 * (7 * n + 5); omega⟩, Nat.le_refl _, Nat.le_refl _⟩ (Nat.le_of_ble_eq_true rfl) rfl ?_
        refine J_bipush (v := 47) (pc' := 26) dX7_times_24 (by decide) rfl ?_
        refine J_icmp_eq 38 (pc' := 29) dX7_times_26 (by decide) rfl (fun h_26 => ?_) (fun h_26 => ?_)
        · refine J_aload_n (pc' := 39) dX7_times_38 rfl rfl ?_
          refine J_V0v (pc' := 42) dX7_times_39 lk_7_154 cd_X7_look (k_plook hG h) (ly_68) (l84_68) rfl rfl ⟨⟨by show 0 + 1 ≤ (7 * n + 5); omega, by show 8 + (1 + 11) + 40 * 0 ≤ 40 * (7 * n + 5); omega⟩, Nat.le_refl _, Nat.le_refl _⟩ (Nat.le_of_ble_eq_true rfl) rfl ?_
          refine J_istore_n (pc' := 43) dX7_times_42 (Nat.le_of_ble_eq_true rfl) (jst1 rfl rfl) rfl ?_
          refine J_aload_n (pc' := 44) dX7_times_43 rfl rfl ?_
          refine J_dup (pc' := 45) dX7_times_44 rfl rfl ?_
          have hr1 := h.b0.mp (by first | exact h_8 | exact Decidable.not_not.mp h_8)
          have hC : pIm (pNx (mTP w0) f r.2.1) = true := decide_eq_true (by first | exact Or.inl h_17 | exact Or.inr (Or.inl h_26) | exact Or.inr (Or.inr h_35) | exact Or.inr (Or.inr (Decidable.not_not.mp h_35)))
          have hlt := pNx_lt (pIm_sn _ hC)
          have hf := hG.2.1
          have hA := (h.tt hr1).ad (by omega)
          have hsg := pIm_sg _ hC
          refine J_getI (pc' := 48) dX7_times_45 fl_7_144 (ly_68) (l84_68) rfl rfl ?_
          rw [show w.1 68 17 = nI r.2.1 from h.2.2.1]
          refine J_iconst (v := 1) (pc' := 49) dX7_times_48 (by decide) rfl ?_
          refine J_iadd (pc' := 50) dX7_times_49 rfl ?_
          refine J_putI (pc' := 53) dX7_times_50 fp_7_144 (ly_68) (l84_68) rfl rfl ?_
          refine J_aload_n (pc' := 54) dX7_times_53 rfl rfl ?_
          refine J_V0w (pc' := 57) dX7_times_54 lk_7_168 cd_X7_one (ih _ _ hA) (ly_68) (l84_68) rfl rfl ⟨⟨by show (7 * n + 4) + 1 ≤ (7 * n + 5); omega, by show 8 + (3 + 11) + 40 * (7 * n + 4) ≤ 40 * (7 * n + 5); omega⟩, Nat.le_refl _, Nat.le_refl _⟩ (Nat.le_of_ble_eq_true rfl) rfl (fun w54 hw54 => ?_)
          refine J_aload_n (pc' := 58) dX7_times_57 rfl rfl ?_
          refine J_iload_n (pc' := 59) dX7_times_58 rfl rfl ?_
          refine J_iconst (v := 0) (pc' := 60) dX7_times_59 (by decide) rfl ?_
          refine J_V2w (pc' := 63) dX7_times_60 lk_7_161 cd_X7_lays (k_play hw54 (fun _ => Or.inr (Or.inr (Or.inr hsg)))) (ly_68) (l84_68) rfl rfl ⟨⟨by show 0 + 1 ≤ (7 * n + 5); omega, by show 8 + (3 + 11) + 40 * 0 ≤ 40 * (7 * n + 5); omega⟩, Nat.le_refl _, Nat.le_refl _⟩ (Nat.le_of_ble_eq_true rfl) rfl (fun w60 hw60 => ?_)
          refine J_goto (pc' := 0) 4 dX7_times_63 (by decide) ?_
          have h3 : mRes w0 w60 o (((part) (pAd r.2)).1, pWr (-(pNx (mTP w0) f r.2.1)) ((part) (pAd r.2)).2) := by have q := hw60; rw [show sEnc (pNx (mTP w0) f r.2.1) 0 = -(pNx (mTP w0) f r.2.1) from sEnc_sg hsg] at q; exact q
          have h2 := ih2 (j + 1) (by omega) w60 (((part) (pAd r.2)).1, pWr (-(pNx (mTP w0) f r.2.1)) ((part) (pAd r.2)).2) h3 (fun _ => by show j + 1 ≤ (pWr _ _).1; rw [pWr_at]; have q1 := hp (pAd r.2); have q2 : (pAd r.2).1 = r.2.1 + 1 := rfl; have q3 := hj2 hr1; omega)
          rw [show pLoop (mTP w0) f pIm (part) (k + 1) r = pLoop (mTP w0) f pIm (part) k (((part) (pAd r.2)).1, pWr (-(pNx (mTP w0) f r.2.1)) ((part) (pAd r.2)).2) from if_pos ⟨hr1, hC⟩]
          exact J_mask [true, false] h2
        · refine J_aload_n (pc' := 30) dX7_times_29 rfl rfl ?_
          refine J_V0v (pc' := 33) dX7_times_30 lk_7_154 cd_X7_look (k_plook hG h) (ly_68) (l84_68) rfl rfl ⟨⟨by show 0 + 1 ≤ (7 * n + 5); omega, by show 8 + (1 + 11) + 40 * 0 ≤ 40 * (7 * n + 5); omega⟩, Nat.le_refl _, Nat.le_refl _⟩ (Nat.le_of_ble_eq_true rfl) rfl ?_
          refine J_bipush (v := 37) (pc' := 35) dX7_times_33 (by decide) rfl ?_
          refine J_icmp_ne 66 (pc' := 38) dX7_times_35 (by decide) rfl (fun h_35 => ?_) (fun h_35 => ?_)
          · exact J_vret dX7_times_66  ⟨rfl, by rw [show pLoop (mTP w0) f pIm (part) (k + 1) r = r from if_neg (fun q => by first | exact h_8 (h.b0.mpr q.1) | (have q2 := of_decide_eq_true q.2; first | contradiction | (rcases q2 with e | e | e <;> contradiction) | (rcases q2 with e | e <;> contradiction)))]; exact h⟩
          · refine J_aload_n (pc' := 39) dX7_times_38 rfl rfl ?_
            refine J_V0v (pc' := 42) dX7_times_39 lk_7_154 cd_X7_look (k_plook hG h) (ly_68) (l84_68) rfl rfl ⟨⟨by show 0 + 1 ≤ (7 * n + 5); omega, by show 8 + (1 + 11) + 40 * 0 ≤ 40 * (7 * n + 5); omega⟩, Nat.le_refl _, Nat.le_refl _⟩ (Nat.le_of_ble_eq_true rfl) rfl ?_
            refine J_istore_n (pc' := 43) dX7_times_42 (Nat.le_of_ble_eq_true rfl) (jst1 rfl rfl) rfl ?_
            refine J_aload_n (pc' := 44) dX7_times_43 rfl rfl ?_
            refine J_dup (pc' := 45) dX7_times_44 rfl rfl ?_
            have hr1 := h.b0.mp (by first | exact h_8 | exact Decidable.not_not.mp h_8)
            have hC : pIm (pNx (mTP w0) f r.2.1) = true := decide_eq_true (by first | exact Or.inl h_17 | exact Or.inr (Or.inl h_26) | exact Or.inr (Or.inr h_35) | exact Or.inr (Or.inr (Decidable.not_not.mp h_35)))
            have hlt := pNx_lt (pIm_sn _ hC)
            have hf := hG.2.1
            have hA := (h.tt hr1).ad (by omega)
            have hsg := pIm_sg _ hC
            refine J_getI (pc' := 48) dX7_times_45 fl_7_144 (ly_68) (l84_68) rfl rfl ?_
            rw [show w.1 68 17 = nI r.2.1 from h.2.2.1]
            refine J_iconst (v := 1) (pc' := 49) dX7_times_48 (by decide) rfl ?_
            refine J_iadd (pc' := 50) dX7_times_49 rfl ?_
            refine J_putI (pc' := 53) dX7_times_50 fp_7_144 (ly_68) (l84_68) rfl rfl ?_
            refine J_aload_n (pc' := 54) dX7_times_53 rfl rfl ?_
            refine J_V0w (pc' := 57) dX7_times_54 lk_7_168 cd_X7_one (ih _ _ hA) (ly_68) (l84_68) rfl rfl ⟨⟨by show (7 * n + 4) + 1 ≤ (7 * n + 5); omega, by show 8 + (3 + 11) + 40 * (7 * n + 4) ≤ 40 * (7 * n + 5); omega⟩, Nat.le_refl _, Nat.le_refl _⟩ (Nat.le_of_ble_eq_true rfl) rfl (fun w54 hw54 => ?_)
            refine J_aload_n (pc' := 58) dX7_times_57 rfl rfl ?_
            refine J_iload_n (pc' := 59) dX7_times_58 rfl rfl ?_
            refine J_iconst (v := 0) (pc' := 60) dX7_times_59 (by decide) rfl ?_
            refine J_V2w (pc' := 63) dX7_times_60 lk_7_161 cd_X7_lays (k_play hw54 (fun _ => Or.inr (Or.inr (Or.inr hsg)))) (ly_68) (l84_68) rfl rfl ⟨⟨by show 0 + 1 ≤ (7 * n + 5); omega, by show 8 + (3 + 11) + 40 * 0 ≤ 40 * (7 * n + 5); omega⟩, Nat.le_refl _, Nat.le_refl _⟩ (Nat.le_of_ble_eq_true rfl) rfl (fun w60 hw60 => ?_)
            refine J_goto (pc' := 0) 4 dX7_times_63 (by decide) ?_
            have h3 : mRes w0 w60 o (((part) (pAd r.2)).1, pWr (-(pNx (mTP w0) f r.2.1)) ((part) (pAd r.2)).2) := by have q := hw60; rw [show sEnc (pNx (mTP w0) f r.2.1) 0 = -(pNx (mTP w0) f r.2.1) from sEnc_sg hsg] at q; exact q
            have h2 := ih2 (j + 1) (by omega) w60 (((part) (pAd r.2)).1, pWr (-(pNx (mTP w0) f r.2.1)) ((part) (pAd r.2)).2) h3 (fun _ => by show j + 1 ≤ (pWr _ _).1; rw [pWr_at]; have q1 := hp (pAd r.2); have q2 : (pAd r.2).1 = r.2.1 + 1 := rfl; have q3 := hj2 hr1; omega)
            rw [show pLoop (mTP w0) f pIm (part) (k + 1) r = pLoop (mTP w0) f pIm (part) k (((part) (pAd r.2)).1, pWr (-(pNx (mTP w0) f r.2.1)) ((part) (pAd r.2)).2) from if_pos ⟨hr1, hC⟩]
            exact J_mask [true, false] h2
set_option maxHeartbeats 4000000 in
set_option maxRecDepth 100000 in
theorem k_p_mul {G : jG} {w0 : jWd} {f i o : Nat} (hG : mGl w0 f i) {n : Nat} {part : rS → Bool × rS} (hp : pMo part) (ih : mPc G w0 o (7 * n + 4) yX7_one cX7_one 3 (part)) {w : jWd} {z : rS} (h : mRes w0 w o (true, z)) : jKp G (7 * n + 5) yX7_times cX7_times 2 none [.ref 68] w none (fun w' => mRes w0 w' o (pMul (mTP w0) f part z)) := by
  refine jK_of (own := RX7) [some (.ref 68), none] pn7 rfl (Nat.le_of_ble_eq_true rfl) rfl ?_
  refine J_aload_n (pc' := 1) dX7_times_0 rfl rfl ?_
  refine J_V0w (pc' := 4) dX7_times_1 lk_7_168 cd_X7_one (ih _ _ h) (ly_68) (l84_68) rfl rfl ⟨⟨by show (7 * n + 4) + 1 ≤ (7 * n + 5); omega, by show 8 + (3 + 11) + 40 * (7 * n + 4) ≤ 40 * (7 * n + 5); omega⟩, Nat.le_refl _, Nat.le_refl _⟩ (Nat.le_of_ble_eq_true rfl) rfl (fun w1 hw1 => ?_)
  exact J_mask [true, false] (l_p_mul hG hp ih 60 0 rfl w1 _ hw1 (fun _ => Nat.zero_le _))
set_option maxHeartbeats 4000000 in
set_option maxRecDepth 100000 in
theorem l_p_add {G : jG} {w0 : jWd} {f i o : Nat} (hG : mGl w0 f i) {n : Nat} {part : rS → Bool × rS} (hp : pMo part) (ih : mPc G w0 o (7 * n + 5) yX7_times cX7_times 2 (pMul (mTP w0) f part)) : ∀ k j : Nat, j + k = 60 → ∀ (w : jWd) (r : Bool × rS) (_ : mRes w0 w o r) (_ : r.1 = true → j ≤ r.2.1), J G (jM G (7 * n + 6) RX7 cX7_sumBy 2 none ((fun r' w' => r' = none ∧ mRes w0 w' o (pLoop (mTP w0) f pIa (pMul (mTP w0) f part) k r)))) w 4 [some (.ref 68), none] [] := by
  intro k
  induction k with
  | zero =>
    intro j hj w r h hj2
    have hf := hG.2.1
    have hm1 : w.1 68 19 = 0 → pNx (mTP w0) f r.2.1 = -1 := fun q => if_neg (by have := hj2 (h.b0.mp q); omega)
    refine J_aload_n (pc' := 5) dX7_sumBy_4 rfl rfl ?_
    refine J_getI (pc' := 8) dX7_sumBy_5 fl_7_157 (ly_68) (l84_68) rfl rfl ?_
    refine J_if_ne 57 (pc' := 11) dX7_sumBy_8 (by decide) rfl (fun h_8 => ?_) (fun h_8 => ?_)
    · exact J_vret dX7_sumBy_57  ⟨rfl, h⟩
    · refine J_aload_n (pc' := 12) dX7_sumBy_11 rfl rfl ?_
      refine J_V0v (pc' := 15) dX7_sumBy_12 lk_7_154 cd_X7_look (k_plook hG h) (ly_68) (l84_68) rfl rfl ⟨⟨by show 0 + 1 ≤ (7 * n + 6); omega, by show 8 + (1 + 11) + 40 * 0 ≤ 40 * (7 * n + 6); omega⟩, Nat.le_refl _, Nat.le_refl _⟩ (Nat.le_of_ble_eq_true rfl) rfl ?_
      rw [hm1 (by first | exact h_8 | exact Decidable.not_not.mp h_8)]
      refine J_bipush (v := 43) (pc' := 17) dX7_sumBy_15 (by decide) rfl ?_
      refine J_icmp_eq 29 (pc' := 20) dX7_sumBy_17 (by decide) rfl (fun h_17 => absurd h_17 (by decide)) (fun h_17 => ?_)
      refine J_aload_n (pc' := 21) dX7_sumBy_20 rfl rfl ?_
      refine J_V0v (pc' := 24) dX7_sumBy_21 lk_7_154 cd_X7_look (k_plook hG h) (ly_68) (l84_68) rfl rfl ⟨⟨by show 0 + 1 ≤ (7 * n + 6); omega, by show 8 + (1 + 11) + 40 * 0 ≤ 40 * (7 * n + 6); omega⟩, Nat.le_refl _, Nat.le_refl _⟩ (Nat.le_of_ble_eq_true rfl) rfl ?_
      rw [hm1 (by first | exact h_8 | exact Decidable.not_not.mp h_8)]
      refine J_bipush (v := 45) (pc' := 26) dX7_sumBy_24 (by decide) rfl ?_
      refine J_icmp_ne 57 (pc' := 29) dX7_sumBy_26 (by decide) rfl (fun h_26 => ?_) (fun h_26 => absurd h_26 (by decide))
      exact J_vret dX7_sumBy_57  ⟨rfl, h⟩
  | succ k ih2 =>
    intro j hj w r h hj2
    refine J_aload_n (pc' := 5) dX7_sumBy_4 rfl rfl ?_
    refine J_getI (pc' := 8) dX7_sumBy_5 fl_7_157 (ly_68) (l84_68) rfl rfl ?_
    refine J_if_ne 57 (pc' := 11) dX7_sumBy_8 (by decide) rfl (fun h_8 => ?_) (fun h_8 => ?_)
    · exact J_vret dX7_sumBy_57  ⟨rfl, by rw [show pLoop (mTP w0) f pIa (pMul (mTP w0) f part) (k + 1) r = r from if_neg (fun q => by first | exact h_8 (h.b0.mpr q.1) | (have q2 := of_decide_eq_true q.2; first | contradiction | (rcases q2 with e | e | e <;> contradiction) | (rcases q2 with e | e <;> contradiction)))]; exact h⟩
    · refine J_aload_n (pc' := 12) dX7_sumBy_11 rfl rfl ?_
      refine J_V0v (pc' := 15) dX7_sumBy_12 lk_7_154 cd_X7_look (k_plook hG h) (ly_68) (l84_68) rfl rfl ⟨⟨by show 0 + 1 ≤ (7 * n + 6); omega, by show 8 + (1 + 11) + 40 * 0 ≤ 40 * (7 * n + 6); omega⟩, Nat.le_refl _, Nat.le_refl _⟩ (Nat.le_of_ble_eq_true rfl) rfl ?_
      refine J_bipush (v := 43) (pc' := 17) dX7_sumBy_15 (by decide) rfl ?_
      refine J_icmp_eq 29 (pc' := 20) dX7_sumBy_17 (by decide) rfl (fun h_17 => ?_) (fun h_17 => ?_)
      · refine J_aload_n (pc' := 30) dX7_sumBy_29 rfl rfl ?_
        refine J_V0v (pc' := 33) dX7_sumBy_30 lk_7_154 cd_X7_look (k_plook hG h) (ly_68) (l84_68) rfl rfl ⟨⟨by show 0 + 1 ≤ (7 * n + 6); omega, by show 8 + (1 + 11) + 40 * 0 ≤ 40 * (7 * n + 6); omega⟩, Nat.le_refl _, Nat.le_refl _⟩ (Nat.le_of_ble_eq_true rfl) rfl ?_
        refine J_istore_n (pc' := 34) dX7_sumBy_33 (Nat.le_of_ble_eq_true rfl) (jst1 rfl rfl) rfl ?_
        refine J_aload_n (pc' := 35) dX7_sumBy_34 rfl rfl ?_
        refine J_dup (pc' := 36) dX7_sumBy_35 rfl rfl ?_
        have hr1 := h.b0.mp (by first | exact h_8 | exact Decidable.not_not.mp h_8)
        have hC : pIa (pNx (mTP w0) f r.2.1) = true := decide_eq_true (by first | exact Or.inl h_17 | exact Or.inr h_26 | exact Or.inr (Decidable.not_not.mp h_26))
        have hlt := pNx_lt (pIa_sn _ hC)
        have hf := hG.2.1
        have hA := (h.tt hr1).ad (by omega)
        have hsg := pIa_sg _ hC
        refine J_getI (pc' := 39) dX7_sumBy_36 fl_7_144 (ly_68) (l84_68) rfl rfl ?_
        rw [show w.1 68 17 = nI r.2.1 from h.2.2.1]
        refine J_iconst (v := 1) (pc' := 40) dX7_sumBy_39 (by decide) rfl ?_
        refine J_iadd (pc' := 41) dX7_sumBy_40 rfl ?_
        refine J_putI (pc' := 44) dX7_sumBy_41 fp_7_144 (ly_68) (l84_68) rfl rfl ?_
        refine J_aload_n (pc' := 45) dX7_sumBy_44 rfl rfl ?_
        refine J_V0w (pc' := 48) dX7_sumBy_45 lk_7_183 cd_X7_times (ih _ _ hA) (ly_68) (l84_68) rfl rfl ⟨⟨by show (7 * n + 5) + 1 ≤ (7 * n + 6); omega, by show 8 + (2 + 11) + 40 * (7 * n + 5) ≤ 40 * (7 * n + 6); omega⟩, Nat.le_refl _, Nat.le_refl _⟩ (Nat.le_of_ble_eq_true rfl) rfl (fun w45 hw45 => ?_)
        refine J_aload_n (pc' := 49) dX7_sumBy_48 rfl rfl ?_
        refine J_iload_n (pc' := 50) dX7_sumBy_49 rfl rfl ?_
        refine J_iconst (v := 0) (pc' := 51) dX7_sumBy_50 (by decide) rfl ?_
        refine J_V2w (pc' := 54) dX7_sumBy_51 lk_7_161 cd_X7_lays (k_play hw45 (fun _ => Or.inr (Or.inr (Or.inr hsg)))) (ly_68) (l84_68) rfl rfl ⟨⟨by show 0 + 1 ≤ (7 * n + 6); omega, by show 8 + (3 + 11) + 40 * 0 ≤ 40 * (7 * n + 6); omega⟩, Nat.le_refl _, Nat.le_refl _⟩ (Nat.le_of_ble_eq_true rfl) rfl (fun w51 hw51 => ?_)
        refine J_goto (pc' := 0) 4 dX7_sumBy_54 (by decide) ?_
        have h3 : mRes w0 w51 o (((pMul (mTP w0) f part) (pAd r.2)).1, pWr (-(pNx (mTP w0) f r.2.1)) ((pMul (mTP w0) f part) (pAd r.2)).2) := by have q := hw51; rw [show sEnc (pNx (mTP w0) f r.2.1) 0 = -(pNx (mTP w0) f r.2.1) from sEnc_sg hsg] at q; exact q
        have h2 := ih2 (j + 1) (by omega) w51 (((pMul (mTP w0) f part) (pAd r.2)).1, pWr (-(pNx (mTP w0) f r.2.1)) ((pMul (mTP w0) f part) (pAd r.2)).2) h3 (fun _ => by show j + 1 ≤ (pWr _ _).1; rw [pWr_at]; have q1 := (pMul_mo (tp := mTP w0) (f := f) hp) (pAd r.2); have q2 : (pAd r.2).1 = r.2.1 + 1 := rfl; have q3 := hj2 hr1; omega)
        rw [show pLoop (mTP w0) f pIa (pMul (mTP w0) f part) (k + 1) r = pLoop (mTP w0) f pIa (pMul (mTP w0) f part) k (((pMul (mTP w0) f part) (pAd r.2)).1, pWr (-(pNx (mTP w0) f r.2.1)) ((pMul (mTP w0) f part) (pAd r.2)).2) from if_pos ⟨hr1, hC⟩]
        exact J_mask [true, false] h2
      · refine J_aload_n (pc' := 21) dX7_sumBy_20 rfl rfl ?_
        refine J_V0v (pc' := 24) dX7_sumBy_21 lk_7_154 cd_X7_look (k_plook hG h) (ly_68) (l84_68) rfl rfl ⟨⟨by show 0 + 1 ≤ (7 * n + 6); omega, by show 8 + (1 + 11) + 40 * 0 ≤ 40 * (7 * n + 6); omega⟩, Nat.le_refl _, Nat.le_refl _⟩ (Nat.le_of_ble_eq_true rfl) rfl ?_
        refine J_bipush (v := 45) (pc' := 26) dX7_sumBy_24 (by decide) rfl ?_
        refine J_icmp_ne 57 (pc' := 29) dX7_sumBy_26 (by decide) rfl (fun h_26 => ?_) (fun h_26 => ?_)
        · exact J_vret dX7_sumBy_57  ⟨rfl, by rw [show pLoop (mTP w0) f pIa (pMul (mTP w0) f part) (k + 1) r = r from if_neg (fun q => by first | exact h_8 (h.b0.mpr q.1) | (have q2 := of_decide_eq_true q.2; first | contradiction | (rcases q2 with e | e | e <;> contradiction) | (rcases q2 with e | e <;> contradiction)))]; exact h⟩
        · refine J_aload_n (pc' := 30) dX7_sumBy_29 rfl rfl ?_
          refine J_V0v (pc' := 33) dX7_sumBy_30 lk_7_154 cd_X7_look (k_plook hG h) (ly_68) (l84_68) rfl rfl ⟨⟨by show 0 + 1 ≤ (7 * n + 6); omega, by show 8 + (1 + 11) + 40 * 0 ≤ 40 * (7 * n + 6); omega⟩, Nat.le_refl _, Nat.le_refl _⟩ (Nat.le_of_ble_eq_true rfl) rfl ?_
          refine J_istore_n (pc' := 34) dX7_sumBy_33 (Nat.le_of_ble_eq_true rfl) (jst1 rfl rfl) rfl ?_
          refine J_aload_n (pc' := 35) dX7_sumBy_34 rfl rfl ?_
          refine J_dup (pc' := 36) dX7_sumBy_35 rfl rfl ?_
          have hr1 := h.b0.mp (by first | exact h_8 | exact Decidable.not_not.mp h_8)
          have hC : pIa (pNx (mTP w0) f r.2.1) = true := decide_eq_true (by first | exact Or.inl h_17 | exact Or.inr h_26 | exact Or.inr (Decidable.not_not.mp h_26))
          have hlt := pNx_lt (pIa_sn _ hC)
          have hf := hG.2.1
          have hA := (h.tt hr1).ad (by omega)
          have hsg := pIa_sg _ hC
          refine J_getI (pc' := 39) dX7_sumBy_36 fl_7_144 (ly_68) (l84_68) rfl rfl ?_
          rw [show w.1 68 17 = nI r.2.1 from h.2.2.1]
          refine J_iconst (v := 1) (pc' := 40) dX7_sumBy_39 (by decide) rfl ?_
          refine J_iadd (pc' := 41) dX7_sumBy_40 rfl ?_
          refine J_putI (pc' := 44) dX7_sumBy_41 fp_7_144 (ly_68) (l84_68) rfl rfl ?_
          refine J_aload_n (pc' := 45) dX7_sumBy_44 rfl rfl ?_
          refine J_V0w (pc' := 48) dX7_sumBy_45 lk_7_183 cd_X7_times (ih _ _ hA) (ly_68) (l84_68) rfl rfl ⟨⟨by show (7 * n + 5) + 1 ≤ (7 * n + 6); omega, by show 8 + (2 + 11) + 40 * (7 * n + 5) ≤ 40 * (7 * n + 6); omega⟩, Nat.le_refl _, Nat.le_refl _⟩ (Nat.le_of_ble_eq_true rfl) rfl (fun w45 hw45 => ?_)
          refine J_aload_n (pc' := 49) dX7_sumBy_48 rfl rfl ?_
          refine J_iload_n (pc' := 50) dX7_sumBy_49 rfl rfl ?_
          refine J_iconst (v := 0) (pc' := 51) dX7_sumBy_50 (by decide) rfl ?_
          refine J_V2w (pc' := 54) dX7_sumBy_51 lk_7_161 cd_X7_lays (k_play hw45 (fun _ => Or.inr (Or.inr (Or.inr hsg)))) (ly_68) (l84_68) rfl rfl ⟨⟨by show 0 + 1 ≤ (7 * n + 6); omega, by show 8 + (3 + 11) + 40 * 0 ≤ 40 * (7 * n + 6); omega⟩, Nat.le_refl _, Nat.le_refl _⟩ (Nat.le_of_ble_eq_true rfl) rfl (fun w51 hw51 => ?_)
          refine J_goto (pc' := 0) 4 dX7_sumBy_54 (by decide) ?_
          have h3 : mRes w0 w51 o (((pMul (mTP w0) f part) (pAd r.2)).1, pWr (-(pNx (mTP w0) f r.2.1)) ((pMul (mTP w0) f part) (pAd r.2)).2) := by have q := hw51; rw [show sEnc (pNx (mTP w0) f r.2.1) 0 = -(pNx (mTP w0) f r.2.1) from sEnc_sg hsg] at q; exact q
          have h2 := ih2 (j + 1) (by omega) w51 (((pMul (mTP w0) f part) (pAd r.2)).1, pWr (-(pNx (mTP w0) f r.2.1)) ((pMul (mTP w0) f part) (pAd r.2)).2) h3 (fun _ => by show j + 1 ≤ (pWr _ _).1; rw [pWr_at]; have q1 := (pMul_mo (tp := mTP w0) (f := f) hp) (pAd r.2); have q2 : (pAd r.2).1 = r.2.1 + 1 := rfl; have q3 := hj2 hr1; omega)
          rw [show pLoop (mTP w0) f pIa (pMul (mTP w0) f part) (k + 1) r = pLoop (mTP w0) f pIa (pMul (mTP w0) f part) k (((pMul (mTP w0) f part) (pAd r.2)).1, pWr (-(pNx (mTP w0) f r.2.1)) ((pMul (mTP w0) f part) (pAd r.2)).2) from if_pos ⟨hr1, hC⟩]
          exact J_mask [true, false] h2
set_option maxHeartbeats 4000000 in
set_option maxRecDepth 100000 in
theorem k_p_add {G : jG} {w0 : jWd} {f i o : Nat} (hG : mGl w0 f i) {n : Nat} {part : rS → Bool × rS} (hp : pMo part) (ih : mPc G w0 o (7 * n + 5) yX7_times cX7_times 2 (pMul (mTP w0) f part)) {w : jWd} {z : rS} (h : mRes w0 w o (true, z)) : jKp G (7 * n + 6) yX7_sumBy cX7_sumBy 2 none [.ref 68] w none (fun w' => mRes w0 w' o (pAdd (mTP w0) f part z)) := by
  refine jK_of (own := RX7) [some (.ref 68), none] pn7 rfl (Nat.le_of_ble_eq_true rfl) rfl ?_
  refine J_aload_n (pc' := 1) dX7_sumBy_0 rfl rfl ?_
  refine J_V0w (pc' := 4) dX7_sumBy_1 lk_7_183 cd_X7_times (ih _ _ h) (ly_68) (l84_68) rfl rfl ⟨⟨by show (7 * n + 5) + 1 ≤ (7 * n + 6); omega, by show 8 + (2 + 11) + 40 * (7 * n + 5) ≤ 40 * (7 * n + 6); omega⟩, Nat.le_refl _, Nat.le_refl _⟩ (Nat.le_of_ble_eq_true rfl) rfl (fun w1 hw1 => ?_)
  exact J_mask [true, false] (l_p_add hG hp ih 60 0 rfl w1 _ hw1 (fun _ => Nat.zero_le _))
set_option maxHeartbeats 4000000 in
set_option maxRecDepth 100000 in
theorem k_p_cmp {G : jG} {w0 : jWd} {f i o : Nat} (hG : mGl w0 f i) {n : Nat} {part : rS → Bool × rS} (hp : pMo part) (ih : mPc G w0 o (7 * n + 6) yX7_sumBy cX7_sumBy 2 (pAdd (mTP w0) f part)) {w : jWd} {z : rS} (h : mRes w0 w o (true, z)) : jKp G (7 * n + 7) yX7_compares cX7_compares 2 none [.ref 68] w none (fun w' => mRes w0 w' o (pCmp (mTP w0) f part z)) := by
  refine jK_of (own := RX7) [some (.ref 68), none] pn7 rfl (Nat.le_of_ble_eq_true rfl) rfl ?_
  refine J_aload_n (pc' := 1) dX7_compares_0 rfl rfl ?_
  refine J_V0w (pc' := 4) dX7_compares_1 lk_7_186 cd_X7_sumBy (ih _ _ h) (ly_68) (l84_68) rfl rfl ⟨⟨by show (7 * n + 6) + 1 ≤ (7 * n + 7); omega, by show 8 + (2 + 11) + 40 * (7 * n + 6) ≤ 40 * (7 * n + 7); omega⟩, Nat.le_refl _, Nat.le_refl _⟩ (Nat.le_of_ble_eq_true rfl) rfl (fun w1 hw1 => ?_)
  refine J_aload_n (pc' := 5) dX7_compares_4 rfl rfl ?_
  refine J_V0v (pc' := 8) dX7_compares_5 lk_7_154 cd_X7_look (k_plook hG hw1) (ly_68) (l84_68) rfl rfl ⟨⟨by show 0 + 1 ≤ (7 * n + 7); omega, by show 8 + (1 + 11) + 40 * 0 ≤ 40 * (7 * n + 7); omega⟩, Nat.le_refl _, Nat.le_refl _⟩ (Nat.le_of_ble_eq_true rfl) rfl ?_
  refine J_istore_n (pc' := 9) dX7_compares_8 (Nat.le_of_ble_eq_true rfl) (jst1 rfl rfl) rfl ?_
  refine J_aload_n (pc' := 10) dX7_compares_9 rfl rfl ?_
  refine J_getI (pc' := 13) dX7_compares_10 fl_7_157 (ly_68) (l84_68) rfl rfl ?_
  refine J_if_ne 54 (pc' := 16) dX7_compares_13 (by decide) rfl (fun h_13 => ?_) (fun h_13 => ?_)
  · exact J_vret dX7_compares_54  ⟨rfl, by rw [show pCmp (mTP w0) f part z = (pAdd (mTP w0) f part z) from if_neg (fun q => by first | exact h_13 (hw1.b0.mpr q.1) | (rcases of_decide_eq_true q.2 with e | e | e <;> contradiction))]; exact hw1⟩
  · refine J_iload_n (pc' := 17) dX7_compares_16 rfl rfl ?_
    refine J_bipush (v := 60) (pc' := 19) dX7_compares_17 (by decide) rfl ?_
    refine J_icmp_eq 34 (pc' := 22) dX7_compares_19 (by decide) rfl (fun h_19 => ?_) (fun h_19 => ?_)
    · refine J_aload_n (pc' := 35) dX7_compares_34 rfl rfl ?_
      refine J_dup (pc' := 36) dX7_compares_35 rfl rfl ?_
      have hr1 := hw1.b0.mp (by first | exact h_13 | exact Decidable.not_not.mp h_13)
      have hC : pIc (pNx (mTP w0) f (pAdd (mTP w0) f part z).2.1) = true := decide_eq_true (by first | exact Or.inl h_19 | exact Or.inr (Or.inl h_25) | exact Or.inr (Or.inr h_31) | exact Or.inr (Or.inr (Decidable.not_not.mp h_31)))
      have hlt := pNx_lt (pIc_sn _ hC)
      have hf := hG.2.1
      have hA := (hw1.tt hr1).ad (by omega)
      have hsg := pIc_sg _ hC
      refine J_getI (pc' := 39) dX7_compares_36 fl_7_144 (ly_68) (l84_68) rfl rfl ?_
      rw [show w1.1 68 17 = nI (pAdd (mTP w0) f part z).2.1 from hw1.2.2.1]
      refine J_iconst (v := 1) (pc' := 40) dX7_compares_39 (by decide) rfl ?_
      refine J_iadd (pc' := 41) dX7_compares_40 rfl ?_
      refine J_putI (pc' := 44) dX7_compares_41 fp_7_144 (ly_68) (l84_68) rfl rfl ?_
      refine J_aload_n (pc' := 45) dX7_compares_44 rfl rfl ?_
      refine J_V0w (pc' := 48) dX7_compares_45 lk_7_186 cd_X7_sumBy (ih _ _ hA) (ly_68) (l84_68) rfl rfl ⟨⟨by show (7 * n + 6) + 1 ≤ (7 * n + 7); omega, by show 8 + (2 + 11) + 40 * (7 * n + 6) ≤ 40 * (7 * n + 7); omega⟩, Nat.le_refl _, Nat.le_refl _⟩ (Nat.le_of_ble_eq_true rfl) rfl (fun w45 hw45 => ?_)
      refine J_aload_n (pc' := 49) dX7_compares_48 rfl rfl ?_
      refine J_iload_n (pc' := 50) dX7_compares_49 rfl rfl ?_
      refine J_iconst (v := 0) (pc' := 51) dX7_compares_50 (by decide) rfl ?_
      refine J_V2w (pc' := 54) dX7_compares_51 lk_7_161 cd_X7_lays (k_play hw45 (fun _ => Or.inr (Or.inr (Or.inr hsg)))) (ly_68) (l84_68) rfl rfl ⟨⟨by show 0 + 1 ≤ (7 * n + 7); omega, by show 8 + (3 + 11) + 40 * 0 ≤ 40 * (7 * n + 7); omega⟩, Nat.le_refl _, Nat.le_refl _⟩ (Nat.le_of_ble_eq_true rfl) rfl (fun w51 hw51 => ?_)
      exact J_vret dX7_compares_54  ⟨rfl, by rw [show pCmp (mTP w0) f part z = ((pAdd (mTP w0) f part (pAd (pAdd (mTP w0) f part z).2)).1, pWr (-(pNx (mTP w0) f (pAdd (mTP w0) f part z).2.1)) (pAdd (mTP w0) f part (pAd (pAdd (mTP w0) f part z).2)).2) from if_pos ⟨hr1, hC⟩]; have q := hw51; rw [sEnc_sg hsg] at q; exact q⟩
    · refine J_iload_n (pc' := 23) dX7_compares_22 rfl rfl ?_
      refine J_bipush (v := 61) (pc' := 25) dX7_compares_23 (by decide) rfl ?_
      refine J_icmp_eq 34 (pc' := 28) dX7_compares_25 (by decide) rfl (fun h_25 => ?_) (fun h_25 => ?_)
      · refine J_aload_n (pc' := 35) dX7_compares_34 rfl rfl ?_
        refine J_dup (pc' := 36) dX7_compares_35 rfl rfl ?_
        have hr1 := hw1.b0.mp (by first | exact h_13 | exact Decidable.not_not.mp h_13)
        have hC : pIc (pNx (mTP w0) f (pAdd (mTP w0) f part z).2.1) = true := decide_eq_true (by first | exact Or.inl h_19 | exact Or.inr (Or.inl h_25) | exact Or.inr (Or.inr h_31) | exact Or.inr (Or.inr (Decidable.not_not.mp h_31)))
        have hlt := pNx_lt (pIc_sn _ hC)
        have hf := hG.2.1
        have hA := (hw1.tt hr1).ad (by omega)
        have hsg := pIc_sg _ hC
        refine J_getI (pc' := 39) dX7_compares_36 fl_7_144 (ly_68) (l84_68) rfl rfl ?_
        rw [show w1.1 68 17 = nI (pAdd (mTP w0) f part z).2.1 from hw1.2.2.1]
        refine J_iconst (v := 1) (pc' := 40) dX7_compares_39 (by decide) rfl ?_
        refine J_iadd (pc' := 41) dX7_compares_40 rfl ?_
        refine J_putI (pc' := 44) dX7_compares_41 fp_7_144 (ly_68) (l84_68) rfl rfl ?_
        refine J_aload_n (pc' := 45) dX7_compares_44 rfl rfl ?_
        refine J_V0w (pc' := 48) dX7_compares_45 lk_7_186 cd_X7_sumBy (ih _ _ hA) (ly_68) (l84_68) rfl rfl ⟨⟨by show (7 * n + 6) + 1 ≤ (7 * n + 7); omega, by show 8 + (2 + 11) + 40 * (7 * n + 6) ≤ 40 * (7 * n + 7); omega⟩, Nat.le_refl _, Nat.le_refl _⟩ (Nat.le_of_ble_eq_true rfl) rfl (fun w45 hw45 => ?_)
        refine J_aload_n (pc' := 49) dX7_compares_48 rfl rfl ?_
        refine J_iload_n (pc' := 50) dX7_compares_49 rfl rfl ?_
        refine J_iconst (v := 0) (pc' := 51) dX7_compares_50 (by decide) rfl ?_
        refine J_V2w (pc' := 54) dX7_compares_51 lk_7_161 cd_X7_lays (k_play hw45 (fun _ => Or.inr (Or.inr (Or.inr hsg)))) (ly_68) (l84_68) rfl rfl ⟨⟨by show 0 + 1 ≤ (7 * n + 7); omega, by show 8 + (3 + 11) + 40 * 0 ≤ 40 * (7 * n + 7); omega⟩, Nat.le_refl _, Nat.le_refl _⟩ (Nat.le_of_ble_eq_true rfl) rfl (fun w51 hw51 => ?_)
        exact J_vret dX7_compares_54  ⟨rfl, by rw [show pCmp (mTP w0) f part z = ((pAdd (mTP w0) f part (pAd (pAdd (mTP w0) f part z).2)).1, pWr (-(pNx (mTP w0) f (pAdd (mTP w0) f part z).2.1)) (pAdd (mTP w0) f part (pAd (pAdd (mTP w0) f part z).2)).2) from if_pos ⟨hr1, hC⟩]; have q := hw51; rw [sEnc_sg hsg] at q; exact q⟩
      · refine J_iload_n (pc' := 29) dX7_compares_28 rfl rfl ?_
        refine J_bipush (v := 62) (pc' := 31) dX7_compares_29 (by decide) rfl ?_
        refine J_icmp_ne 54 (pc' := 34) dX7_compares_31 (by decide) rfl (fun h_31 => ?_) (fun h_31 => ?_)
        · exact J_vret dX7_compares_54  ⟨rfl, by rw [show pCmp (mTP w0) f part z = (pAdd (mTP w0) f part z) from if_neg (fun q => by first | exact h_13 (hw1.b0.mpr q.1) | (rcases of_decide_eq_true q.2 with e | e | e <;> contradiction))]; exact hw1⟩
        · refine J_aload_n (pc' := 35) dX7_compares_34 rfl rfl ?_
          refine J_dup (pc' := 36) dX7_compares_35 rfl rfl ?_
          have hr1 := hw1.b0.mp (by first | exact h_13 | exact Decidable.not_not.mp h_13)
          have hC : pIc (pNx (mTP w0) f (pAdd (mTP w0) f part z).2.1) = true := decide_eq_true (by first | exact Or.inl h_19 | exact Or.inr (Or.inl h_25) | exact Or.inr (Or.inr h_31) | exact Or.inr (Or.inr (Decidable.not_not.mp h_31)))
          have hlt := pNx_lt (pIc_sn _ hC)
          have hf := hG.2.1
          have hA := (hw1.tt hr1).ad (by omega)
          have hsg := pIc_sg _ hC
          refine J_getI (pc' := 39) dX7_compares_36 fl_7_144 (ly_68) (l84_68) rfl rfl ?_
          rw [show w1.1 68 17 = nI (pAdd (mTP w0) f part z).2.1 from hw1.2.2.1]
          refine J_iconst (v := 1) (pc' := 40) dX7_compares_39 (by decide) rfl ?_
          refine J_iadd (pc' := 41) dX7_compares_40 rfl ?_
          refine J_putI (pc' := 44) dX7_compares_41 fp_7_144 (ly_68) (l84_68) rfl rfl ?_
          refine J_aload_n (pc' := 45) dX7_compares_44 rfl rfl ?_
          refine J_V0w (pc' := 48) dX7_compares_45 lk_7_186 cd_X7_sumBy (ih _ _ hA) (ly_68) (l84_68) rfl rfl ⟨⟨by show (7 * n + 6) + 1 ≤ (7 * n + 7); omega, by show 8 + (2 + 11) + 40 * (7 * n + 6) ≤ 40 * (7 * n + 7); omega⟩, Nat.le_refl _, Nat.le_refl _⟩ (Nat.le_of_ble_eq_true rfl) rfl (fun w45 hw45 => ?_)
          refine J_aload_n (pc' := 49) dX7_compares_48 rfl rfl ?_
          refine J_iload_n (pc' := 50) dX7_compares_49 rfl rfl ?_
          refine J_iconst (v := 0) (pc' := 51) dX7_compares_50 (by decide) rfl ?_
          refine J_V2w (pc' := 54) dX7_compares_51 lk_7_161 cd_X7_lays (k_play hw45 (fun _ => Or.inr (Or.inr (Or.inr hsg)))) (ly_68) (l84_68) rfl rfl ⟨⟨by show 0 + 1 ≤ (7 * n + 7); omega, by show 8 + (3 + 11) + 40 * 0 ≤ 40 * (7 * n + 7); omega⟩, Nat.le_refl _, Nat.le_refl _⟩ (Nat.le_of_ble_eq_true rfl) rfl (fun w51 hw51 => ?_)
          exact J_vret dX7_compares_54  ⟨rfl, by rw [show pCmp (mTP w0) f part z = ((pAdd (mTP w0) f part (pAd (pAdd (mTP w0) f part z).2)).1, pWr (-(pNx (mTP w0) f (pAdd (mTP w0) f part z).2.1)) (pAdd (mTP w0) f part (pAd (pAdd (mTP w0) f part z).2)).2) from if_pos ⟨hr1, hC⟩]; have q := hw51; rw [sEnc_sg hsg] at q; exact q⟩
set_option maxHeartbeats 4000000 in
set_option maxRecDepth 100000 in
theorem l_p_and {G : jG} {w0 : jWd} {f i o : Nat} (hG : mGl w0 f i) {n : Nat} {part : rS → Bool × rS} (hp : pMo part) (ih : mPc G w0 o (7 * n + 7) yX7_compares cX7_compares 2 (pCmp (mTP w0) f part)) : ∀ k j : Nat, j + k = 60 → ∀ (w : jWd) (r : Bool × rS) (_ : mRes w0 w o r) (_ : r.1 = true → j ≤ r.2.1), J G (jM G (7 * n + 8) RX7 cX7_all 1 none ((fun r' w' => r' = none ∧ mRes w0 w' o (pLoop (mTP w0) f pIn (pCmp (mTP w0) f part) k r)))) w 4 [some (.ref 68)] [] := by
  intro k
  induction k with
  | zero =>
    intro j hj w r h hj2
    have hf := hG.2.1
    have hm1 : w.1 68 19 = 0 → pNx (mTP w0) f r.2.1 = -1 := fun q => if_neg (by have := hj2 (h.b0.mp q); omega)
    refine J_aload_n (pc' := 5) dX7_all_4 rfl rfl ?_
    refine J_getI (pc' := 8) dX7_all_5 fl_7_157 (ly_68) (l84_68) rfl rfl ?_
    refine J_if_ne 44 (pc' := 11) dX7_all_8 (by decide) rfl (fun h_8 => ?_) (fun h_8 => ?_)
    · exact J_vret dX7_all_44  ⟨rfl, h⟩
    · refine J_aload_n (pc' := 12) dX7_all_11 rfl rfl ?_
      refine J_V0v (pc' := 15) dX7_all_12 lk_7_154 cd_X7_look (k_plook hG h) (ly_68) (l84_68) rfl rfl ⟨⟨by show 0 + 1 ≤ (7 * n + 8); omega, by show 8 + (1 + 11) + 40 * 0 ≤ 40 * (7 * n + 8); omega⟩, Nat.le_refl _, Nat.le_refl _⟩ (Nat.le_of_ble_eq_true rfl) rfl ?_
      rw [hm1 (by first | exact h_8 | exact Decidable.not_not.mp h_8)]
      refine J_bipush (v := 38) (pc' := 17) dX7_all_15 (by decide) rfl ?_
      refine J_icmp_ne 44 (pc' := 20) dX7_all_17 (by decide) rfl (fun h_17 => ?_) (fun h_17 => absurd h_17 (by decide))
      exact J_vret dX7_all_44  ⟨rfl, h⟩
  | succ k ih2 =>
    intro j hj w r h hj2
    refine J_aload_n (pc' := 5) dX7_all_4 rfl rfl ?_
    refine J_getI (pc' := 8) dX7_all_5 fl_7_157 (ly_68) (l84_68) rfl rfl ?_
    refine J_if_ne 44 (pc' := 11) dX7_all_8 (by decide) rfl (fun h_8 => ?_) (fun h_8 => ?_)
    · exact J_vret dX7_all_44  ⟨rfl, by rw [show pLoop (mTP w0) f pIn (pCmp (mTP w0) f part) (k + 1) r = r from if_neg (fun q => by first | exact h_8 (h.b0.mpr q.1) | (have q2 := of_decide_eq_true q.2; first | contradiction | (rcases q2 with e | e | e <;> contradiction) | (rcases q2 with e | e <;> contradiction)))]; exact h⟩
    · refine J_aload_n (pc' := 12) dX7_all_11 rfl rfl ?_
      refine J_V0v (pc' := 15) dX7_all_12 lk_7_154 cd_X7_look (k_plook hG h) (ly_68) (l84_68) rfl rfl ⟨⟨by show 0 + 1 ≤ (7 * n + 8); omega, by show 8 + (1 + 11) + 40 * 0 ≤ 40 * (7 * n + 8); omega⟩, Nat.le_refl _, Nat.le_refl _⟩ (Nat.le_of_ble_eq_true rfl) rfl ?_
      refine J_bipush (v := 38) (pc' := 17) dX7_all_15 (by decide) rfl ?_
      refine J_icmp_ne 44 (pc' := 20) dX7_all_17 (by decide) rfl (fun h_17 => ?_) (fun h_17 => ?_)
      · exact J_vret dX7_all_44  ⟨rfl, by rw [show pLoop (mTP w0) f pIn (pCmp (mTP w0) f part) (k + 1) r = r from if_neg (fun q => by first | exact h_8 (h.b0.mpr q.1) | (have q2 := of_decide_eq_true q.2; first | contradiction | (rcases q2 with e | e | e <;> contradiction) | (rcases q2 with e | e <;> contradiction)))]; exact h⟩
      · refine J_aload_n (pc' := 21) dX7_all_20 rfl rfl ?_
        refine J_dup (pc' := 22) dX7_all_21 rfl rfl ?_
        have hr1 := h.b0.mp (by first | exact h_8 | exact Decidable.not_not.mp h_8)
        have hC : pIn (pNx (mTP w0) f r.2.1) = true := decide_eq_true (by first | exact h_17 | exact Decidable.not_not.mp h_17)
        have hlt := pNx_lt (pIn_sn _ hC)
        have hf := hG.2.1
        have hA := (h.tt hr1).ad (by omega)
        have hsg := pIn_sg _ hC
        have hcc : pNx (mTP w0) f r.2.1 = 38 := of_decide_eq_true hC
        refine J_getI (pc' := 25) dX7_all_22 fl_7_144 (ly_68) (l84_68) rfl rfl ?_
        rw [show w.1 68 17 = nI r.2.1 from h.2.2.1]
        refine J_iconst (v := 1) (pc' := 26) dX7_all_25 (by decide) rfl ?_
        refine J_iadd (pc' := 27) dX7_all_26 rfl ?_
        refine J_putI (pc' := 30) dX7_all_27 fp_7_144 (ly_68) (l84_68) rfl rfl ?_
        refine J_aload_n (pc' := 31) dX7_all_30 rfl rfl ?_
        refine J_V0w (pc' := 34) dX7_all_31 lk_7_189 cd_X7_compares (ih _ _ hA) (ly_68) (l84_68) rfl rfl ⟨⟨by show (7 * n + 7) + 1 ≤ (7 * n + 8); omega, by show 8 + (2 + 11) + 40 * (7 * n + 7) ≤ 40 * (7 * n + 8); omega⟩, Nat.le_refl _, Nat.le_refl _⟩ (Nat.le_of_ble_eq_true rfl) rfl (fun w31 hw31 => ?_)
        refine J_aload_n (pc' := 35) dX7_all_34 rfl rfl ?_
        refine J_bipush (v := 38) (pc' := 37) dX7_all_35 (by decide) rfl ?_
        refine J_iconst (v := 0) (pc' := 38) dX7_all_37 (by decide) rfl ?_
        refine J_V2w (pc' := 41) dX7_all_38 lk_7_161 cd_X7_lays (k_play hw31 (fun _ => Or.inr (Or.inr (Or.inr (by rw [hcc] at hsg; exact hsg))))) (ly_68) (l84_68) rfl rfl ⟨⟨by show 0 + 1 ≤ (7 * n + 8); omega, by show 8 + (3 + 11) + 40 * 0 ≤ 40 * (7 * n + 8); omega⟩, Nat.le_refl _, Nat.le_refl _⟩ (Nat.le_of_ble_eq_true rfl) rfl (fun w38 hw38 => ?_)
        refine J_goto (pc' := 0) 4 dX7_all_41 (by decide) ?_
        have h3 : mRes w0 w38 o (((pCmp (mTP w0) f part) (pAd r.2)).1, pWr (-(pNx (mTP w0) f r.2.1)) ((pCmp (mTP w0) f part) (pAd r.2)).2) := by have q := hw38; rw [show sEnc 38 0 = -(pNx (mTP w0) f r.2.1) from by rw [hcc]; decide] at q; exact q
        have h2 := ih2 (j + 1) (by omega) w38 (((pCmp (mTP w0) f part) (pAd r.2)).1, pWr (-(pNx (mTP w0) f r.2.1)) ((pCmp (mTP w0) f part) (pAd r.2)).2) h3 (fun _ => by show j + 1 ≤ (pWr _ _).1; rw [pWr_at]; have q1 := (pCmp_mo (tp := mTP w0) (f := f) hp) (pAd r.2); have q2 : (pAd r.2).1 = r.2.1 + 1 := rfl; have q3 := hj2 hr1; omega)
        rw [show pLoop (mTP w0) f pIn (pCmp (mTP w0) f part) (k + 1) r = pLoop (mTP w0) f pIn (pCmp (mTP w0) f part) k (((pCmp (mTP w0) f part) (pAd r.2)).1, pWr (-(pNx (mTP w0) f r.2.1)) ((pCmp (mTP w0) f part) (pAd r.2)).2) from if_pos ⟨hr1, hC⟩]
        exact J_mask [true] h2
set_option maxHeartbeats 4000000 in
set_option maxRecDepth 100000 in
theorem k_p_and {G : jG} {w0 : jWd} {f i o : Nat} (hG : mGl w0 f i) {n : Nat} {part : rS → Bool × rS} (hp : pMo part) (ih : mPc G w0 o (7 * n + 7) yX7_compares cX7_compares 2 (pCmp (mTP w0) f part)) {w : jWd} {z : rS} (h : mRes w0 w o (true, z)) : jKp G (7 * n + 8) yX7_all cX7_all 1 none [.ref 68] w none (fun w' => mRes w0 w' o (pAnd (mTP w0) f part z)) := by
  refine jK_of (own := RX7) [some (.ref 68)] pn7 rfl (Nat.le_of_ble_eq_true rfl) rfl ?_
  refine J_aload_n (pc' := 1) dX7_all_0 rfl rfl ?_
  refine J_V0w (pc' := 4) dX7_all_1 lk_7_189 cd_X7_compares (ih _ _ h) (ly_68) (l84_68) rfl rfl ⟨⟨by show (7 * n + 7) + 1 ≤ (7 * n + 8); omega, by show 8 + (2 + 11) + 40 * (7 * n + 7) ≤ 40 * (7 * n + 8); omega⟩, Nat.le_refl _, Nat.le_refl _⟩ (Nat.le_of_ble_eq_true rfl) rfl (fun w1 hw1 => ?_)
  exact J_mask [true] (l_p_and hG hp ih 60 0 rfl w1 _ hw1 (fun _ => Nat.zero_le _))
set_option maxHeartbeats 4000000 in
set_option maxRecDepth 100000 in
theorem l_p_or {G : jG} {w0 : jWd} {f i o : Nat} (hG : mGl w0 f i) {n : Nat} {part : rS → Bool × rS} (hp : pMo part) (ih : mPc G w0 o (7 * n + 8) yX7_all cX7_all 1 (pAnd (mTP w0) f part)) : ∀ k j : Nat, j + k = 60 → ∀ (w : jWd) (r : Bool × rS) (_ : mRes w0 w o r) (_ : r.1 = true → j ≤ r.2.1), J G (jM G (7 * n + 9) RX7 cX7_any 1 none ((fun r' w' => r' = none ∧ mRes w0 w' o (pLoop (mTP w0) f pIo (pAnd (mTP w0) f part) k r)))) w 4 [some (.ref 68)] [] := by
  intro k
  induction k with
  | zero =>
    intro j hj w r h hj2
    have hf := hG.2.1
    have hm1 : w.1 68 19 = 0 → pNx (mTP w0) f r.2.1 = -1 := fun q => if_neg (by have := hj2 (h.b0.mp q); omega)
    refine J_aload_n (pc' := 5) dX7_any_4 rfl rfl ?_
    refine J_getI (pc' := 8) dX7_any_5 fl_7_157 (ly_68) (l84_68) rfl rfl ?_
    refine J_if_ne 44 (pc' := 11) dX7_any_8 (by decide) rfl (fun h_8 => ?_) (fun h_8 => ?_)
    · exact J_vret dX7_any_44  ⟨rfl, h⟩
    · refine J_aload_n (pc' := 12) dX7_any_11 rfl rfl ?_
      refine J_V0v (pc' := 15) dX7_any_12 lk_7_154 cd_X7_look (k_plook hG h) (ly_68) (l84_68) rfl rfl ⟨⟨by show 0 + 1 ≤ (7 * n + 9); omega, by show 8 + (1 + 11) + 40 * 0 ≤ 40 * (7 * n + 9); omega⟩, Nat.le_refl _, Nat.le_refl _⟩ (Nat.le_of_ble_eq_true rfl) rfl ?_
      rw [hm1 (by first | exact h_8 | exact Decidable.not_not.mp h_8)]
      refine J_bipush (v := 124) (pc' := 17) dX7_any_15 (by decide) rfl ?_
      refine J_icmp_ne 44 (pc' := 20) dX7_any_17 (by decide) rfl (fun h_17 => ?_) (fun h_17 => absurd h_17 (by decide))
      exact J_vret dX7_any_44  ⟨rfl, h⟩
  | succ k ih2 =>
    intro j hj w r h hj2
    refine J_aload_n (pc' := 5) dX7_any_4 rfl rfl ?_
    refine J_getI (pc' := 8) dX7_any_5 fl_7_157 (ly_68) (l84_68) rfl rfl ?_
    refine J_if_ne 44 (pc' := 11) dX7_any_8 (by decide) rfl (fun h_8 => ?_) (fun h_8 => ?_)
    · exact J_vret dX7_any_44  ⟨rfl, by rw [show pLoop (mTP w0) f pIo (pAnd (mTP w0) f part) (k + 1) r = r from if_neg (fun q => by first | exact h_8 (h.b0.mpr q.1) | (have q2 := of_decide_eq_true q.2; first | contradiction | (rcases q2 with e | e | e <;> contradiction) | (rcases q2 with e | e <;> contradiction)))]; exact h⟩
    · refine J_aload_n (pc' := 12) dX7_any_11 rfl rfl ?_
      refine J_V0v (pc' := 15) dX7_any_12 lk_7_154 cd_X7_look (k_plook hG h) (ly_68) (l84_68) rfl rfl ⟨⟨by show 0 + 1 ≤ (7 * n + 9); omega, by show 8 + (1 + 11) + 40 * 0 ≤ 40 * (7 * n + 9); omega⟩, Nat.le_refl _, Nat.le_refl _⟩ (Nat.le_of_ble_eq_true rfl) rfl ?_
      refine J_bipush (v := 124) (pc' := 17) dX7_any_15 (by decide) rfl ?_
      refine J_icmp_ne 44 (pc' := 20) dX7_any_17 (by decide) rfl (fun h_17 => ?_) (fun h_17 => ?_)
      · exact J_vret dX7_any_44  ⟨rfl, by rw [show pLoop (mTP w0) f pIo (pAnd (mTP w0) f part) (k + 1) r = r from if_neg (fun q => by first | exact h_8 (h.b0.mpr q.1) | (have q2 := of_decide_eq_true q.2; first | contradiction | (rcases q2 with e | e | e <;> contradiction) | (rcases q2 with e | e <;> contradiction)))]; exact h⟩
      · refine J_aload_n (pc' := 21) dX7_any_20 rfl rfl ?_
        refine J_dup (pc' := 22) dX7_any_21 rfl rfl ?_
        have hr1 := h.b0.mp (by first | exact h_8 | exact Decidable.not_not.mp h_8)
        have hC : pIo (pNx (mTP w0) f r.2.1) = true := decide_eq_true (by first | exact h_17 | exact Decidable.not_not.mp h_17)
        have hlt := pNx_lt (pIo_sn _ hC)
        have hf := hG.2.1
        have hA := (h.tt hr1).ad (by omega)
        have hsg := pIo_sg _ hC
        have hcc : pNx (mTP w0) f r.2.1 = 124 := of_decide_eq_true hC
        refine J_getI (pc' := 25) dX7_any_22 fl_7_144 (ly_68) (l84_68) rfl rfl ?_
        rw [show w.1 68 17 = nI r.2.1 from h.2.2.1]
        refine J_iconst (v := 1) (pc' := 26) dX7_any_25 (by decide) rfl ?_
        refine J_iadd (pc' := 27) dX7_any_26 rfl ?_
        refine J_putI (pc' := 30) dX7_any_27 fp_7_144 (ly_68) (l84_68) rfl rfl ?_
        refine J_aload_n (pc' := 31) dX7_any_30 rfl rfl ?_
        refine J_V0w (pc' := 34) dX7_any_31 lk_7_192 cd_X7_all (ih _ _ hA) (ly_68) (l84_68) rfl rfl ⟨⟨by show (7 * n + 8) + 1 ≤ (7 * n + 9); omega, by show 8 + (1 + 11) + 40 * (7 * n + 8) ≤ 40 * (7 * n + 9); omega⟩, Nat.le_refl _, Nat.le_refl _⟩ (Nat.le_of_ble_eq_true rfl) rfl (fun w31 hw31 => ?_)
        refine J_aload_n (pc' := 35) dX7_any_34 rfl rfl ?_
        refine J_bipush (v := 124) (pc' := 37) dX7_any_35 (by decide) rfl ?_
        refine J_iconst (v := 0) (pc' := 38) dX7_any_37 (by decide) rfl ?_
        refine J_V2w (pc' := 41) dX7_any_38 lk_7_161 cd_X7_lays (k_play hw31 (fun _ => Or.inr (Or.inr (Or.inr (by rw [hcc] at hsg; exact hsg))))) (ly_68) (l84_68) rfl rfl ⟨⟨by show 0 + 1 ≤ (7 * n + 9); omega, by show 8 + (3 + 11) + 40 * 0 ≤ 40 * (7 * n + 9); omega⟩, Nat.le_refl _, Nat.le_refl _⟩ (Nat.le_of_ble_eq_true rfl) rfl (fun w38 hw38 => ?_)
        refine J_goto (pc' := 0) 4 dX7_any_41 (by decide) ?_
        have h3 : mRes w0 w38 o (((pAnd (mTP w0) f part) (pAd r.2)).1, pWr (-(pNx (mTP w0) f r.2.1)) ((pAnd (mTP w0) f part) (pAd r.2)).2) := by have q := hw38; rw [show sEnc 124 0 = -(pNx (mTP w0) f r.2.1) from by rw [hcc]; decide] at q; exact q
        have h2 := ih2 (j + 1) (by omega) w38 (((pAnd (mTP w0) f part) (pAd r.2)).1, pWr (-(pNx (mTP w0) f r.2.1)) ((pAnd (mTP w0) f part) (pAd r.2)).2) h3 (fun _ => by show j + 1 ≤ (pWr _ _).1; rw [pWr_at]; have q1 := (pAnd_mo (tp := mTP w0) (f := f) hp) (pAd r.2); have q2 : (pAd r.2).1 = r.2.1 + 1 := rfl; have q3 := hj2 hr1; omega)
        rw [show pLoop (mTP w0) f pIo (pAnd (mTP w0) f part) (k + 1) r = pLoop (mTP w0) f pIo (pAnd (mTP w0) f part) k (((pAnd (mTP w0) f part) (pAd r.2)).1, pWr (-(pNx (mTP w0) f r.2.1)) ((pAnd (mTP w0) f part) (pAd r.2)).2) from if_pos ⟨hr1, hC⟩]
        exact J_mask [true] h2
set_option maxHeartbeats 4000000 in
set_option maxRecDepth 100000 in
theorem k_p_or {G : jG} {w0 : jWd} {f i o : Nat} (hG : mGl w0 f i) {n : Nat} {part : rS → Bool × rS} (hp : pMo part) (ih : mPc G w0 o (7 * n + 8) yX7_all cX7_all 1 (pAnd (mTP w0) f part)) {w : jWd} {z : rS} (h : mRes w0 w o (true, z)) : jKp G (7 * n + 9) yX7_any cX7_any 1 none [.ref 68] w none (fun w' => mRes w0 w' o (pOr (mTP w0) f part z)) := by
  refine jK_of (own := RX7) [some (.ref 68)] pn7 rfl (Nat.le_of_ble_eq_true rfl) rfl ?_
  refine J_aload_n (pc' := 1) dX7_any_0 rfl rfl ?_
  refine J_V0w (pc' := 4) dX7_any_1 lk_7_192 cd_X7_all (ih _ _ h) (ly_68) (l84_68) rfl rfl ⟨⟨by show (7 * n + 8) + 1 ≤ (7 * n + 9); omega, by show 8 + (1 + 11) + 40 * (7 * n + 8) ≤ 40 * (7 * n + 9); omega⟩, Nat.le_refl _, Nat.le_refl _⟩ (Nat.le_of_ble_eq_true rfl) rfl (fun w1 hw1 => ?_)
  exact J_mask [true] (l_p_or hG hp ih 60 0 rfl w1 _ hw1 (fun _ => Nat.zero_le _))
theorem mp_or {G : jG} {w0 : jWd} {f i o : Nat} (hG : mGl w0 f i) {n : Nat} {part : rS → Bool × rS} (hp : pMo part) (ih : mPc G w0 o (7 * n + 4) yX7_one cX7_one 3 (part)) : mPc G w0 o (7 * n + 9) yX7_any cX7_any 1 (pOr (mTP w0) f part) :=
  fun _ _ h => k_p_or hG hp (fun _ _ h => k_p_and hG hp (fun _ _ h => k_p_cmp hG hp (fun _ _ h => k_p_add hG hp (fun _ _ h => k_p_mul hG hp ih h) h) h) h) h
theorem mRes.na {w0 w : jWd} {o : Nat} {r : Bool × rS} (h : mRes w0 w o r) : w.1 68 17 = nI r.2.1 := h.2.2.1
set_option maxHeartbeats 4000000 in
set_option maxRecDepth 100000 in
theorem k_popn0 {G : jG} {w0 : jWd} {f i : Nat} (hG : mGl w0 f i) {w : jWd} {z : rS} {c : Int32} (h : mRes w0 w 5 (true, z)) : jKp G 0 yX7_opens cX7_opens 2 none [.ref 68, .int c] w none (fun w' => mRes w0 w' 5 (false, z)) := by
  refine jK_of (own := RX7) [some (.ref 68), some (.int c)] pn7 rfl (Nat.le_of_ble_eq_true rfl) rfl ?_
  refine J_aload_n (pc' := 1) dX7_opens_0 rfl rfl ?_
  refine J_getI (pc' := 4) dX7_opens_1 fl_7_165 (ly_68) (l84_68) rfl rfl ?_
  rw [show w.1 68 18 = nI 5 from h.2.1]
  refine J_iconst (v := 5) (pc' := 5) dX7_opens_4 (by decide) rfl ?_
  refine J_icmp_ne 14 (pc' := 8) dX7_opens_5 (by decide) rfl (fun h_5 => absurd (by decide) h_5) (fun h_5 => ?_)
  refine J_aload_n (pc' := 9) dX7_opens_8 rfl rfl ?_
  refine J_iconst (v := 1) (pc' := 10) dX7_opens_9 (by decide) rfl ?_
  refine J_putZ (pc' := 13) dX7_opens_10 fp_7_157 (ly_68) (l84_68) rfl (by decide) rfl ?_
  exact J_vret dX7_opens_13  ⟨rfl, h.bad⟩
set_option maxHeartbeats 4000000 in
set_option maxRecDepth 100000 in
theorem k_popnS {G : jG} {w0 : jWd} {f i o : Nat} (hG : mGl w0 f i) {n : Nat} (hn : n + 1 + o = 5) (ih : mPc G w0 (o + 1) (7 * n + 4) yX7_one cX7_one 3 (pPart (mTP w0) f i n)) {w : jWd} {z : rS} {c : Int32} (h : mRes w0 w o (true, z)) (hz : z.1 < 60) : jKp G (7 * n + 10) yX7_opens cX7_opens 2 none [.ref 68, .int c] w none (fun w' => mRes w0 w' o (pOpn (mTP w0) f (pPart (mTP w0) f i n) c z)) := by
  refine jK_of (own := RX7) [some (.ref 68), some (.int c)] pn7 rfl (Nat.le_of_ble_eq_true rfl) rfl ?_
  refine J_aload_n (pc' := 1) dX7_opens_0 rfl rfl ?_
  refine J_getI (pc' := 4) dX7_opens_1 fl_7_165 (ly_68) (l84_68) rfl rfl ?_
  rw [show w.1 68 18 = nI o from h.2.1]
  refine J_iconst (v := 5) (pc' := 5) dX7_opens_4 (by decide) rfl ?_
  refine J_icmp_ne 14 (pc' := 8) dX7_opens_5 (by decide) rfl (fun h_5 => ?_) (fun h_5 => absurd h_5 (fun q => by have := (nI_eq (a := o) (b := 5) (by omega) (by omega)).mp q; omega))
  refine J_aload_n (pc' := 15) dX7_opens_14 rfl rfl ?_
  refine J_dup (pc' := 16) dX7_opens_15 rfl rfl ?_
  refine J_getI (pc' := 19) dX7_opens_16 fl_7_165 (ly_68) (l84_68) rfl rfl ?_
  rw [show w.1 68 18 = nI o from h.2.1]
  refine J_iconst (v := 1) (pc' := 20) dX7_opens_19 (by decide) rfl ?_
  refine J_iadd (pc' := 21) dX7_opens_20 rfl ?_
  refine J_putI (pc' := 24) dX7_opens_21 fp_7_165 (ly_68) (l84_68) rfl rfl ?_
  refine J_aload_n (pc' := 25) dX7_opens_24 rfl rfl ?_
  refine J_dup (pc' := 26) dX7_opens_25 rfl rfl ?_
  refine J_getI (pc' := 29) dX7_opens_26 fl_7_144 (ly_68) (l84_68) rfl rfl ?_
  rw [show (jset w 68 18 (nI o + 1)).1 68 17 = nI z.1 from by rw [jset_1, if_pos rfl, if_neg (by decide)]; exact h.2.2.1]
  refine J_iconst (v := 1) (pc' := 30) dX7_opens_29 (by decide) rfl ?_
  refine J_iadd (pc' := 31) dX7_opens_30 rfl ?_
  refine J_putI (pc' := 34) dX7_opens_31 fp_7_144 (ly_68) (l84_68) rfl rfl ?_
  have hA := (h.op (o2 := o + 1) (v := nI o + 1) (nI_1 o)).ad hz
  refine J_iload_n (pc' := 35) dX7_opens_34 rfl rfl ?_
  refine J_bipush (v := 33) (pc' := 37) dX7_opens_35 (by decide) rfl ?_
  refine J_icmp_ne 53 (pc' := 40) dX7_opens_37 (by decide) rfl (fun h_37 => ?_) (fun h_37 => ?_)
  · refine J_aload_n (pc' := 54) dX7_opens_53 rfl rfl ?_
    refine J_V0w (pc' := 57) dX7_opens_54 lk_7_171 cd_X7_any (mp_or hG (pPart_mo n) ih _ _ hA) (ly_68) (l84_68) rfl rfl ⟨⟨by show (7 * n + 9) + 1 ≤ (7 * n + 10); omega, by show 8 + (1 + 11) + 40 * (7 * n + 9) ≤ 40 * (7 * n + 10); omega⟩, Nat.le_refl _, Nat.le_refl _⟩ (Nat.le_of_ble_eq_true rfl) rfl (fun w54 hw54 => ?_)
    refine J_aload_n (pc' := 58) dX7_opens_57 rfl rfl ?_
    refine J_aload_n (pc' := 59) dX7_opens_58 rfl rfl ?_
    refine J_getI (pc' := 62) dX7_opens_59 fl_7_157 (ly_68) (l84_68) rfl rfl ?_
    refine J_if_ne 74 (pc' := 65) dX7_opens_62 (by decide) rfl (fun h_62 => ?_) (fun h_62 => ?_)
    · refine J_iconst (v := 1) (pc' := 75) dX7_opens_74 (by decide) rfl ?_
      refine J_goto (pc' := 0) 79 dX7_opens_75 (by decide) ?_
      refine J_putZ (pc' := 82) dX7_opens_79 fp_7_157 (ly_68) (l84_68) rfl (by decide) rfl ?_
      have h3 := hw54.bad
      refine J_aload_n (pc' := 83) dX7_opens_82 rfl rfl ?_
      refine J_dup (pc' := 84) dX7_opens_83 rfl rfl ?_
      refine J_getI (pc' := 87) dX7_opens_84 fl_7_144 (ly_68) (l84_68) rfl rfl ?_
      first | rw [show (jset w54 68 19 1).1 68 17 = nI (pOr (mTP w0) f (pPart (mTP w0) f i n) (pAd z)).2.1 from by rw [jset_1, if_pos rfl, if_neg (by decide)]; exact hw54.2.2.1] | rw [show (jset w54 68 19 0).1 68 17 = nI (pOr (mTP w0) f (pPart (mTP w0) f i n) (pAd z)).2.1 from by rw [jset_1, if_pos rfl, if_neg (by decide)]; exact hw54.2.2.1]
      refine J_aload_n (pc' := 88) dX7_opens_87 rfl rfl ?_
      refine J_getI (pc' := 91) dX7_opens_88 fl_7_157 (ly_68) (l84_68) rfl rfl ?_
      refine J_if_eq 98 (pc' := 94) dX7_opens_91 (by decide) rfl (fun h_91 => absurd h_91 (by rw [jset_1, if_pos rfl, if_pos rfl]; decide)) (fun h_91 => ?_)
      refine J_iconst (v := 0) (pc' := 95) dX7_opens_94 (by decide) rfl ?_
      refine J_goto (pc' := 0) 99 dX7_opens_95 (by decide) ?_
      refine J_iadd (pc' := 100) dX7_opens_99 rfl ?_
      refine J_putI (pc' := 103) dX7_opens_100 fp_7_144 (ly_68) (l84_68) rfl rfl ?_
      have h4 := h3.sm
      refine J_aload_n (pc' := 104) dX7_opens_103 rfl rfl ?_
      refine J_dup (pc' := 105) dX7_opens_104 rfl rfl ?_
      refine J_getI (pc' := 108) dX7_opens_105 fl_7_165 (ly_68) (l84_68) rfl rfl ?_
      first | rw [show w47.1 68 18 = nI (o + 1) from hw47.2.1] | rw [show _ = nI (o + 1) from h4.2.1]
      refine J_iconst (v := 1) (pc' := 109) dX7_opens_108 (by decide) rfl ?_
      refine J_isub (pc' := 110) dX7_opens_109 rfl ?_
      refine J_putI (pc' := 113) dX7_opens_110 fp_7_165 (ly_68) (l84_68) rfl rfl ?_
      exact J_vret dX7_opens_113  ⟨rfl, by rw [show (pOpn (mTP w0) f (pPart (mTP w0) f i n) c z) = (false, (pOr (mTP w0) f (pPart (mTP w0) f i n) (pAd z)).2) from (if_neg h_37).trans (if_neg (fun q => by first | exact h_62 (hw54.b0.mpr q.1) | exact h_71 q.2))]; exact h4.op (v := nI (o + 1) - 1) (nI_pred o)⟩
    · refine J_aload_n (pc' := 66) dX7_opens_65 rfl rfl ?_
      refine J_V0v (pc' := 69) dX7_opens_66 lk_7_154 cd_X7_look (k_plook hG hw54) (ly_68) (l84_68) rfl rfl ⟨⟨by show 0 + 1 ≤ (7 * n + 10); omega, by show 8 + (1 + 11) + 40 * 0 ≤ 40 * (7 * n + 10); omega⟩, Nat.le_refl _, Nat.le_refl _⟩ (Nat.le_of_ble_eq_true rfl) rfl ?_
      refine J_bipush (v := 41) (pc' := 71) dX7_opens_69 (by decide) rfl ?_
      refine J_icmp_eq 78 (pc' := 74) dX7_opens_71 (by decide) rfl (fun h_71 => ?_) (fun h_71 => ?_)
      · refine J_iconst (v := 0) (pc' := 79) dX7_opens_78 (by decide) rfl ?_
        refine J_putZ (pc' := 82) dX7_opens_79 fp_7_157 (ly_68) (l84_68) rfl (by decide) rfl ?_
        have hr1 := hw54.b0.mp (by first | exact h_62 | exact Decidable.not_not.mp h_62)
        have h3 := (hw54.tt hr1).good
        refine J_aload_n (pc' := 83) dX7_opens_82 rfl rfl ?_
        refine J_dup (pc' := 84) dX7_opens_83 rfl rfl ?_
        refine J_getI (pc' := 87) dX7_opens_84 fl_7_144 (ly_68) (l84_68) rfl rfl ?_
        first | rw [show (jset w54 68 19 1).1 68 17 = nI (pOr (mTP w0) f (pPart (mTP w0) f i n) (pAd z)).2.1 from by rw [jset_1, if_pos rfl, if_neg (by decide)]; exact hw54.2.2.1] | rw [show (jset w54 68 19 0).1 68 17 = nI (pOr (mTP w0) f (pPart (mTP w0) f i n) (pAd z)).2.1 from by rw [jset_1, if_pos rfl, if_neg (by decide)]; exact hw54.2.2.1]
        refine J_aload_n (pc' := 88) dX7_opens_87 rfl rfl ?_
        refine J_getI (pc' := 91) dX7_opens_88 fl_7_157 (ly_68) (l84_68) rfl rfl ?_
        refine J_if_eq 98 (pc' := 94) dX7_opens_91 (by decide) rfl (fun h_91 => ?_) (fun h_91 => absurd (by rw [jset_1, if_pos rfl, if_pos rfl]) h_91)
        refine J_iconst (v := 1) (pc' := 99) dX7_opens_98 (by decide) rfl ?_
        refine J_iadd (pc' := 100) dX7_opens_99 rfl ?_
        refine J_putI (pc' := 103) dX7_opens_100 fp_7_144 (ly_68) (l84_68) rfl rfl ?_
        have hc41 : pNx (mTP w0) f (pOr (mTP w0) f (pPart (mTP w0) f i n) (pAd z)).2.1 = 41 := by first | exact h_71 | exact Decidable.not_not.mp h_71
        have hlt := pNx_lt (tp := (mTP w0)) (f := f) (a := (pOr (mTP w0) f (pPart (mTP w0) f i n) (pAd z)).2.1) (by rw [hc41]; decide)
        have hf := hG.2.1
        have h4 := h3.ad (show (pOr (mTP w0) f (pPart (mTP w0) f i n) (pAd z)).2.1 < 60 by omega)
        refine J_aload_n (pc' := 104) dX7_opens_103 rfl rfl ?_
        refine J_dup (pc' := 105) dX7_opens_104 rfl rfl ?_
        refine J_getI (pc' := 108) dX7_opens_105 fl_7_165 (ly_68) (l84_68) rfl rfl ?_
        first | rw [show w47.1 68 18 = nI (o + 1) from hw47.2.1] | rw [show _ = nI (o + 1) from h4.2.1]
        refine J_iconst (v := 1) (pc' := 109) dX7_opens_108 (by decide) rfl ?_
        refine J_isub (pc' := 110) dX7_opens_109 rfl ?_
        refine J_putI (pc' := 113) dX7_opens_110 fp_7_165 (ly_68) (l84_68) rfl rfl ?_
        exact J_vret dX7_opens_113  ⟨rfl, by rw [show (pOpn (mTP w0) f (pPart (mTP w0) f i n) c z) = (true, pAd (pOr (mTP w0) f (pPart (mTP w0) f i n) (pAd z)).2) from (if_neg h_37).trans (if_pos ⟨hr1, hc41⟩)]; exact h4.op (v := nI (o + 1) - 1) (nI_pred o)⟩
      · refine J_iconst (v := 1) (pc' := 75) dX7_opens_74 (by decide) rfl ?_
        refine J_goto (pc' := 0) 79 dX7_opens_75 (by decide) ?_
        refine J_putZ (pc' := 82) dX7_opens_79 fp_7_157 (ly_68) (l84_68) rfl (by decide) rfl ?_
        have h3 := hw54.bad
        refine J_aload_n (pc' := 83) dX7_opens_82 rfl rfl ?_
        refine J_dup (pc' := 84) dX7_opens_83 rfl rfl ?_
        refine J_getI (pc' := 87) dX7_opens_84 fl_7_144 (ly_68) (l84_68) rfl rfl ?_
        first | rw [show (jset w54 68 19 1).1 68 17 = nI (pOr (mTP w0) f (pPart (mTP w0) f i n) (pAd z)).2.1 from by rw [jset_1, if_pos rfl, if_neg (by decide)]; exact hw54.2.2.1] | rw [show (jset w54 68 19 0).1 68 17 = nI (pOr (mTP w0) f (pPart (mTP w0) f i n) (pAd z)).2.1 from by rw [jset_1, if_pos rfl, if_neg (by decide)]; exact hw54.2.2.1]
        refine J_aload_n (pc' := 88) dX7_opens_87 rfl rfl ?_
        refine J_getI (pc' := 91) dX7_opens_88 fl_7_157 (ly_68) (l84_68) rfl rfl ?_
        refine J_if_eq 98 (pc' := 94) dX7_opens_91 (by decide) rfl (fun h_91 => absurd h_91 (by rw [jset_1, if_pos rfl, if_pos rfl]; decide)) (fun h_91 => ?_)
        refine J_iconst (v := 0) (pc' := 95) dX7_opens_94 (by decide) rfl ?_
        refine J_goto (pc' := 0) 99 dX7_opens_95 (by decide) ?_
        refine J_iadd (pc' := 100) dX7_opens_99 rfl ?_
        refine J_putI (pc' := 103) dX7_opens_100 fp_7_144 (ly_68) (l84_68) rfl rfl ?_
        have h4 := h3.sm
        refine J_aload_n (pc' := 104) dX7_opens_103 rfl rfl ?_
        refine J_dup (pc' := 105) dX7_opens_104 rfl rfl ?_
        refine J_getI (pc' := 108) dX7_opens_105 fl_7_165 (ly_68) (l84_68) rfl rfl ?_
        first | rw [show w47.1 68 18 = nI (o + 1) from hw47.2.1] | rw [show _ = nI (o + 1) from h4.2.1]
        refine J_iconst (v := 1) (pc' := 109) dX7_opens_108 (by decide) rfl ?_
        refine J_isub (pc' := 110) dX7_opens_109 rfl ?_
        refine J_putI (pc' := 113) dX7_opens_110 fp_7_165 (ly_68) (l84_68) rfl rfl ?_
        exact J_vret dX7_opens_113  ⟨rfl, by rw [show (pOpn (mTP w0) f (pPart (mTP w0) f i n) c z) = (false, (pOr (mTP w0) f (pPart (mTP w0) f i n) (pAd z)).2) from (if_neg h_37).trans (if_neg (fun q => by first | exact h_62 (hw54.b0.mpr q.1) | exact h_71 q.2))]; exact h4.op (v := nI (o + 1) - 1) (nI_pred o)⟩
  · refine J_aload_n (pc' := 41) dX7_opens_40 rfl rfl ?_
    refine J_V0w (pc' := 44) dX7_opens_41 lk_7_168 cd_X7_one (ih _ _ hA) (ly_68) (l84_68) rfl rfl ⟨⟨by show (7 * n + 4) + 1 ≤ (7 * n + 10); omega, by show 8 + (3 + 11) + 40 * (7 * n + 4) ≤ 40 * (7 * n + 10); omega⟩, Nat.le_refl _, Nat.le_refl _⟩ (Nat.le_of_ble_eq_true rfl) rfl (fun w41 hw41 => ?_)
    refine J_aload_n (pc' := 45) dX7_opens_44 rfl rfl ?_
    refine J_iconst (v := 3) (pc' := 46) dX7_opens_45 (by decide) rfl ?_
    refine J_iconst (v := 0) (pc' := 47) dX7_opens_46 (by decide) rfl ?_
    refine J_V2w (pc' := 50) dX7_opens_47 lk_7_161 cd_X7_lays (k_play hw41 (fun _ => Or.inr (Or.inr (Or.inl rfl)))) (ly_68) (l84_68) rfl rfl ⟨⟨by show 0 + 1 ≤ (7 * n + 10); omega, by show 8 + (3 + 11) + 40 * 0 ≤ 40 * (7 * n + 10); omega⟩, Nat.le_refl _, Nat.le_refl _⟩ (Nat.le_of_ble_eq_true rfl) rfl (fun w47 hw47 => ?_)
    refine J_goto (pc' := 0) 103 dX7_opens_50 (by decide) ?_
    refine J_aload_n (pc' := 104) dX7_opens_103 rfl rfl ?_
    refine J_dup (pc' := 105) dX7_opens_104 rfl rfl ?_
    refine J_getI (pc' := 108) dX7_opens_105 fl_7_165 (ly_68) (l84_68) rfl rfl ?_
    first | rw [show w47.1 68 18 = nI (o + 1) from hw47.2.1] | rw [show _ = nI (o + 1) from h4.2.1]
    refine J_iconst (v := 1) (pc' := 109) dX7_opens_108 (by decide) rfl ?_
    refine J_isub (pc' := 110) dX7_opens_109 rfl ?_
    refine J_putI (pc' := 113) dX7_opens_110 fp_7_165 (ly_68) (l84_68) rfl rfl ?_
    exact J_vret dX7_opens_113  ⟨rfl, by rw [show (pOpn (mTP w0) f (pPart (mTP w0) f i n) c z) = ((pPart (mTP w0) f i n (pAd z)).1, pWr (-33) (pPart (mTP w0) f i n (pAd z)).2) from if_pos (by first | exact h_37 | exact Decidable.not_not.mp h_37)]; exact hw47.op (v := nI (o + 1) - 1) (nI_pred o)⟩
