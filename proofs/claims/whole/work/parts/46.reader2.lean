/-! ===== the reader ===== -/
def rMC (G : jG) (w : jWd) (d : Nat) (y : MethodName) (cc : ByteArray) (nL : Nat) (op : Int32) (sp : rS → Bool × rS) : Prop := ∀ z, rOk z → jKd G d y cc nL (some .boolean) [.ref 46, .int op] (rPut w z) (some (.int (jb ((sp z).1 = true)))) (rPut w (sp z).2)
set_option maxHeartbeats 4000000 in
set_option maxRecDepth 100000 in
theorem l_r_mul {G : jG} {w : jWd} {f : Nat} (hH : rH w f) {n : Nat} {part : rS → Bool × rS} (hp : pKp part) {op : Int32} (ih : rMC G w (7 * n + 4) yX2_readPart cX2_readPart 4 op (part)) : ∀ k j : Nat, j + k = 60 → ∀ (r : Bool × rS) (_ : rOk r.2), J G (jM G (7 * n + 5) RX2 cX2_readMultiplied 5 (some .boolean) ((fun r' w' => r' = some (.int (jb ((pLoop (w.1 7) f pIm (part) k r).1 = true))) ∧ w' = rPut w (pLoop (w.1 7) f pIm (part) k r).2))) (rPut w r.2) 8 [some (.ref 46), some (.int op), some (.int (jb (r.1 = true))), some (.int (nI j)), none] [] := by
  intro k
  induction k with
  | zero =>
    intro j hj r hr
    refine J_iload_n (pc' := 9) dX2_readMultiplied_8 rfl rfl ?_
    refine J_bipush (v := 60) (pc' := 11) dX2_readMultiplied_9 (by decide) rfl ?_
    refine J_icmp_ge 63 (pc' := 14) dX2_readMultiplied_11 (by decide) rfl (fun h_11 => ?_) (fun h_11 => absurd (by rw [show (60 : Int32) = nI 60 from by decide]; exact nI_le (by omega) (by omega)) h_11)
    refine J_iload_n (pc' := 64) dX2_readMultiplied_63 rfl rfl ?_
    exact J_zret dX2_readMultiplied_64 (jb_b _) ⟨rfl, rfl⟩
  | succ k ih2 =>
    intro j hj r hr
    refine J_iload_n (pc' := 9) dX2_readMultiplied_8 rfl rfl ?_
    refine J_bipush (v := 60) (pc' := 11) dX2_readMultiplied_9 (by decide) rfl ?_
    refine J_icmp_ge 63 (pc' := 14) dX2_readMultiplied_11 (by decide) rfl (fun h_11 => absurd h_11 (by rw [show (60 : Int32) = nI 60 from by decide]; exact nI_ge (by omega) (by omega))) (fun h_11 => ?_)
    refine J_iload_n (pc' := 15) dX2_readMultiplied_14 rfl rfl ?_
    refine J_if_eq 63 (pc' := 18) dX2_readMultiplied_15 (by decide) rfl (fun h_15 => ?_) (fun h_15 => ?_)
    · refine J_iload_n (pc' := 64) dX2_readMultiplied_63 rfl rfl ?_
      exact J_zret dX2_readMultiplied_64 (jb_b _) ⟨by rw [show pLoop (w.1 7) f pIm (part) (k + 1) r = r from if_neg (fun q => by first | exact jb_0.mp h_15 q.1 | exact jb_0.mp h_25 q.2 | (have q2 := of_decide_eq_true q.2; first | contradiction | (rcases q2 with e | e <;> contradiction)))], by rw [show pLoop (w.1 7) f pIm (part) (k + 1) r = r from if_neg (fun q => by first | exact jb_0.mp h_15 q.1 | exact jb_0.mp h_25 q.2 | (have q2 := of_decide_eq_true q.2; first | contradiction | (rcases q2 with e | e <;> contradiction)))]⟩
    · refine J_aload_n (pc' := 19) dX2_readMultiplied_18 rfl rfl ?_
      refine J_V0v (pc' := 22) dX2_readMultiplied_19 lk_2_41 cd_X2_next (k_rNx hH hr) (ly_46) (l84_46) rfl rfl ⟨⟨by show 0 + 1 ≤ (7 * n + 5); omega, by show 8 + (1 + 11) + 40 * 0 ≤ 40 * (7 * n + 5); omega⟩, Nat.le_refl _, Nat.le_refl _⟩ (Nat.le_of_ble_eq_true rfl) rfl ?_
      refine J_S1v (pc' := 25) dX2_readMultiplied_22 lk_2_61 cd_X2_isProductSign (k_rIp) ⟨⟨by show 0 + 1 ≤ (7 * n + 5); omega, by show 8 + (1 + 11) + 40 * 0 ≤ 40 * (7 * n + 5); omega⟩, Nat.le_refl _, Nat.le_refl _⟩ (Nat.le_of_ble_eq_true rfl) rfl ?_
      refine J_if_eq 63 (pc' := 28) dX2_readMultiplied_25 (by decide) rfl (fun h_25 => ?_) (fun h_25 => ?_)
      · refine J_iload_n (pc' := 64) dX2_readMultiplied_63 rfl rfl ?_
        exact J_zret dX2_readMultiplied_64 (jb_b _) ⟨by rw [show pLoop (w.1 7) f pIm (part) (k + 1) r = r from if_neg (fun q => by first | exact jb_0.mp h_15 q.1 | exact jb_0.mp h_25 q.2 | (have q2 := of_decide_eq_true q.2; first | contradiction | (rcases q2 with e | e <;> contradiction)))], by rw [show pLoop (w.1 7) f pIm (part) (k + 1) r = r from if_neg (fun q => by first | exact jb_0.mp h_15 q.1 | exact jb_0.mp h_25 q.2 | (have q2 := of_decide_eq_true q.2; first | contradiction | (rcases q2 with e | e <;> contradiction)))]⟩
      · refine J_aload_n (pc' := 29) dX2_readMultiplied_28 rfl rfl ?_
        refine J_V0v (pc' := 32) dX2_readMultiplied_29 lk_2_41 cd_X2_next (k_rNx hH hr) (ly_46) (l84_46) rfl rfl ⟨⟨by show 0 + 1 ≤ (7 * n + 5); omega, by show 8 + (1 + 11) + 40 * 0 ≤ 40 * (7 * n + 5); omega⟩, Nat.le_refl _, Nat.le_refl _⟩ (Nat.le_of_ble_eq_true rfl) rfl ?_
        refine J_istore (pc' := 34) dX2_readMultiplied_32 (Nat.le_of_ble_eq_true rfl) (jst4 rfl rfl) rfl ?_
        refine J_aload_n (pc' := 35) dX2_readMultiplied_34 rfl rfl ?_
        refine J_dup (pc' := 36) dX2_readMultiplied_35 rfl rfl ?_
        refine J_getI (pc' := 39) dX2_readMultiplied_36 fl_2_28 (ly_46) (l84_46) rfl rfl ?_
        rw [show (rPut w r.2).1 46 4 = nI r.2.1 from rfl]
        refine J_iconst (v := 1) (pc' := 40) dX2_readMultiplied_39 (by decide) rfl ?_
        refine J_iadd (pc' := 41) dX2_readMultiplied_40 rfl ?_
        refine J_putI (pc' := 44) dX2_readMultiplied_41 fp_2_28 (ly_46) (l84_46) rfl rfl ?_
        have hC : pIm (pNx (w.1 7) f r.2.1) = true := jb_n h_25
        have hz2 := pAd_ok hH.2.1 hr (pIm_sn _ hC)
        rw [rPut_ad]
        refine J_aload_n (pc' := 45) dX2_readMultiplied_44 rfl rfl ?_
        refine J_iload_n (pc' := 46) dX2_readMultiplied_45 rfl rfl ?_
        refine J_V1v (pc' := 49) dX2_readMultiplied_46 lk_2_58 cd_X2_readPart (ih _ hz2) (ly_46) (l84_46) rfl rfl ⟨⟨by show (7 * n + 4) + 1 ≤ (7 * n + 5); omega, by show 8 + (4 + 11) + 40 * (7 * n + 4) ≤ 40 * (7 * n + 5); omega⟩, Nat.le_refl _, Nat.le_refl _⟩ (Nat.le_of_ble_eq_true rfl) rfl ?_
        refine J_istore_n (pc' := 50) dX2_readMultiplied_49 (Nat.le_of_ble_eq_true rfl) (jst2 rfl rfl) rfl ?_
        refine J_aload_n (pc' := 51) dX2_readMultiplied_50 rfl rfl ?_
        refine J_iload (pc' := 53) dX2_readMultiplied_51 rfl rfl ?_
        refine J_ineg (pc' := 54) dX2_readMultiplied_53 rfl ?_
        refine J_V10 (pc' := 57) dX2_readMultiplied_54 lk_2_45 cd_X2_write (k_rWr (hp _ hz2)) (ly_46) (l84_46) rfl rfl ⟨⟨by show 0 + 1 ≤ (7 * n + 5); omega, by show 8 + (2 + 11) + 40 * 0 ≤ 40 * (7 * n + 5); omega⟩, Nat.le_refl _, Nat.le_refl _⟩ (Nat.le_of_ble_eq_true rfl) rfl ?_
        refine J_iinc (pc' := 60) dX2_readMultiplied_57 rfl (Nat.le_of_ble_eq_true rfl) (jst3 rfl rfl) rfl ?_
        refine J_goto (pc' := 0) 8 dX2_readMultiplied_60 (by decide) ?_
        have h2 := ih2 (j + 1) (by omega) (((part) (pAd r.2)).1, pWr (-(pNx (w.1 7) f r.2.1)) ((part) (pAd r.2)).2) (pWr_ok (hp _ hz2))
        rw [show pLoop (w.1 7) f pIm (part) (k + 1) r = pLoop (w.1 7) f pIm (part) k (((part) (pAd r.2)).1, pWr (-(pNx (w.1 7) f r.2.1)) ((part) (pAd r.2)).2) from if_pos ⟨jb_n h_15, hC⟩]
        rw [← z1 j] at h2
        exact J_mask [true, true, true, true, false] h2
set_option maxHeartbeats 4000000 in
set_option maxRecDepth 100000 in
theorem k_r_mul {G : jG} {w : jWd} {f : Nat} (hH : rH w f) {n : Nat} {part : rS → Bool × rS} (hp : pKp part) {op : Int32} (ih : rMC G w (7 * n + 4) yX2_readPart cX2_readPart 4 op (part)) {z : rS} (hz : rOk z) : jKd G (7 * n + 5) yX2_readMultiplied cX2_readMultiplied 5 (some .boolean) [.ref 46, .int op] (rPut w z) (some (.int (jb ((pMul (w.1 7) f part z).1 = true)))) (rPut w (pMul (w.1 7) f part z).2) := by
  refine jK_of (own := RX2) [some (.ref 46), some (.int op), none, none, none] pn2 rfl (Nat.le_of_ble_eq_true rfl) rfl ?_
  refine J_aload_n (pc' := 1) dX2_readMultiplied_0 rfl rfl ?_
  refine J_iload_n (pc' := 2) dX2_readMultiplied_1 rfl rfl ?_
  refine J_V1v (pc' := 5) dX2_readMultiplied_2 lk_2_58 cd_X2_readPart (ih _ hz) (ly_46) (l84_46) rfl rfl ⟨⟨by show (7 * n + 4) + 1 ≤ (7 * n + 5); omega, by show 8 + (4 + 11) + 40 * (7 * n + 4) ≤ 40 * (7 * n + 5); omega⟩, Nat.le_refl _, Nat.le_refl _⟩ (Nat.le_of_ble_eq_true rfl) rfl ?_
  refine J_istore_n (pc' := 6) dX2_readMultiplied_5 (Nat.le_of_ble_eq_true rfl) (jst2 rfl rfl) rfl ?_
  refine J_iconst (v := 0) (pc' := 7) dX2_readMultiplied_6 (by decide) rfl ?_
  refine J_istore_n (pc' := 8) dX2_readMultiplied_7 (Nat.le_of_ble_eq_true rfl) (jst3 rfl rfl) rfl ?_
  exact l_r_mul hH hp ih 60 0 rfl (part z) (hp z hz)
set_option maxHeartbeats 4000000 in
set_option maxRecDepth 100000 in
theorem l_r_add {G : jG} {w : jWd} {f : Nat} (hH : rH w f) {n : Nat} {part : rS → Bool × rS} (hp : pKp part) {op : Int32} (ih : rMC G w (7 * n + 5) yX2_readMultiplied cX2_readMultiplied 5 op (pMul (w.1 7) f part)) : ∀ k j : Nat, j + k = 60 → ∀ (r : Bool × rS) (_ : rOk r.2), J G (jM G (7 * n + 6) RX2 cX2_readAdded 5 (some .boolean) ((fun r' w' => r' = some (.int (jb ((pLoop (w.1 7) f pIa (pMul (w.1 7) f part) k r).1 = true))) ∧ w' = rPut w (pLoop (w.1 7) f pIa (pMul (w.1 7) f part) k r).2))) (rPut w r.2) 8 [some (.ref 46), some (.int op), some (.int (jb (r.1 = true))), some (.int (nI j)), none] [] := by
  intro k
  induction k with
  | zero =>
    intro j hj r hr
    refine J_iload_n (pc' := 9) dX2_readAdded_8 rfl rfl ?_
    refine J_bipush (v := 60) (pc' := 11) dX2_readAdded_9 (by decide) rfl ?_
    refine J_icmp_ge 71 (pc' := 14) dX2_readAdded_11 (by decide) rfl (fun h_11 => ?_) (fun h_11 => absurd (by rw [show (60 : Int32) = nI 60 from by decide]; exact nI_le (by omega) (by omega)) h_11)
    refine J_iload_n (pc' := 72) dX2_readAdded_71 rfl rfl ?_
    exact J_zret dX2_readAdded_72 (jb_b _) ⟨rfl, rfl⟩
  | succ k ih2 =>
    intro j hj r hr
    refine J_iload_n (pc' := 9) dX2_readAdded_8 rfl rfl ?_
    refine J_bipush (v := 60) (pc' := 11) dX2_readAdded_9 (by decide) rfl ?_
    refine J_icmp_ge 71 (pc' := 14) dX2_readAdded_11 (by decide) rfl (fun h_11 => absurd h_11 (by rw [show (60 : Int32) = nI 60 from by decide]; exact nI_ge (by omega) (by omega))) (fun h_11 => ?_)
    refine J_iload_n (pc' := 15) dX2_readAdded_14 rfl rfl ?_
    refine J_if_eq 71 (pc' := 18) dX2_readAdded_15 (by decide) rfl (fun h_15 => ?_) (fun h_15 => ?_)
    · refine J_iload_n (pc' := 72) dX2_readAdded_71 rfl rfl ?_
      exact J_zret dX2_readAdded_72 (jb_b _) ⟨by rw [show pLoop (w.1 7) f pIa (pMul (w.1 7) f part) (k + 1) r = r from if_neg (fun q => by first | exact jb_0.mp h_15 q.1 | exact jb_0.mp h_25 q.2 | (have q2 := of_decide_eq_true q.2; first | contradiction | (rcases q2 with e | e <;> contradiction)))], by rw [show pLoop (w.1 7) f pIa (pMul (w.1 7) f part) (k + 1) r = r from if_neg (fun q => by first | exact jb_0.mp h_15 q.1 | exact jb_0.mp h_25 q.2 | (have q2 := of_decide_eq_true q.2; first | contradiction | (rcases q2 with e | e <;> contradiction)))]⟩
    · refine J_aload_n (pc' := 19) dX2_readAdded_18 rfl rfl ?_
      refine J_V0v (pc' := 22) dX2_readAdded_19 lk_2_41 cd_X2_next (k_rNx hH hr) (ly_46) (l84_46) rfl rfl ⟨⟨by show 0 + 1 ≤ (7 * n + 6); omega, by show 8 + (1 + 11) + 40 * 0 ≤ 40 * (7 * n + 6); omega⟩, Nat.le_refl _, Nat.le_refl _⟩ (Nat.le_of_ble_eq_true rfl) rfl ?_
      refine J_bipush (v := 43) (pc' := 24) dX2_readAdded_22 (by decide) rfl ?_
      refine J_icmp_eq 36 (pc' := 27) dX2_readAdded_24 (by decide) rfl (fun h_24 => ?_) (fun h_24 => ?_)
      · refine J_aload_n (pc' := 37) dX2_readAdded_36 rfl rfl ?_
        refine J_V0v (pc' := 40) dX2_readAdded_37 lk_2_41 cd_X2_next (k_rNx hH hr) (ly_46) (l84_46) rfl rfl ⟨⟨by show 0 + 1 ≤ (7 * n + 6); omega, by show 8 + (1 + 11) + 40 * 0 ≤ 40 * (7 * n + 6); omega⟩, Nat.le_refl _, Nat.le_refl _⟩ (Nat.le_of_ble_eq_true rfl) rfl ?_
        refine J_istore (pc' := 42) dX2_readAdded_40 (Nat.le_of_ble_eq_true rfl) (jst4 rfl rfl) rfl ?_
        refine J_aload_n (pc' := 43) dX2_readAdded_42 rfl rfl ?_
        refine J_dup (pc' := 44) dX2_readAdded_43 rfl rfl ?_
        refine J_getI (pc' := 47) dX2_readAdded_44 fl_2_28 (ly_46) (l84_46) rfl rfl ?_
        rw [show (rPut w r.2).1 46 4 = nI r.2.1 from rfl]
        refine J_iconst (v := 1) (pc' := 48) dX2_readAdded_47 (by decide) rfl ?_
        refine J_iadd (pc' := 49) dX2_readAdded_48 rfl ?_
        refine J_putI (pc' := 52) dX2_readAdded_49 fp_2_28 (ly_46) (l84_46) rfl rfl ?_
        have hC : pIa (pNx (w.1 7) f r.2.1) = true := decide_eq_true (by first | exact Or.inl h_24 | exact Or.inr h_33 | exact Or.inr (Decidable.not_not.mp h_33))
        have hz2 := pAd_ok hH.2.1 hr (pIa_sn _ hC)
        rw [rPut_ad]
        refine J_aload_n (pc' := 53) dX2_readAdded_52 rfl rfl ?_
        refine J_iload_n (pc' := 54) dX2_readAdded_53 rfl rfl ?_
        refine J_V1v (pc' := 57) dX2_readAdded_54 lk_2_55 cd_X2_readMultiplied (ih _ hz2) (ly_46) (l84_46) rfl rfl ⟨⟨by show (7 * n + 5) + 1 ≤ (7 * n + 6); omega, by show 8 + (5 + 11) + 40 * (7 * n + 5) ≤ 40 * (7 * n + 6); omega⟩, Nat.le_refl _, Nat.le_refl _⟩ (Nat.le_of_ble_eq_true rfl) rfl ?_
        refine J_istore_n (pc' := 58) dX2_readAdded_57 (Nat.le_of_ble_eq_true rfl) (jst2 rfl rfl) rfl ?_
        refine J_aload_n (pc' := 59) dX2_readAdded_58 rfl rfl ?_
        refine J_iload (pc' := 61) dX2_readAdded_59 rfl rfl ?_
        refine J_ineg (pc' := 62) dX2_readAdded_61 rfl ?_
        refine J_V10 (pc' := 65) dX2_readAdded_62 lk_2_45 cd_X2_write (k_rWr ((pMul_ok hH.2.1 hp) _ hz2)) (ly_46) (l84_46) rfl rfl ⟨⟨by show 0 + 1 ≤ (7 * n + 6); omega, by show 8 + (2 + 11) + 40 * 0 ≤ 40 * (7 * n + 6); omega⟩, Nat.le_refl _, Nat.le_refl _⟩ (Nat.le_of_ble_eq_true rfl) rfl ?_
        refine J_iinc (pc' := 68) dX2_readAdded_65 rfl (Nat.le_of_ble_eq_true rfl) (jst3 rfl rfl) rfl ?_
        refine J_goto (pc' := 0) 8 dX2_readAdded_68 (by decide) ?_
        have h2 := ih2 (j + 1) (by omega) (((pMul (w.1 7) f part) (pAd r.2)).1, pWr (-(pNx (w.1 7) f r.2.1)) ((pMul (w.1 7) f part) (pAd r.2)).2) (pWr_ok ((pMul_ok hH.2.1 hp) _ hz2))
        rw [show pLoop (w.1 7) f pIa (pMul (w.1 7) f part) (k + 1) r = pLoop (w.1 7) f pIa (pMul (w.1 7) f part) k (((pMul (w.1 7) f part) (pAd r.2)).1, pWr (-(pNx (w.1 7) f r.2.1)) ((pMul (w.1 7) f part) (pAd r.2)).2) from if_pos ⟨jb_n h_15, hC⟩]
        rw [← z1 j] at h2
        exact J_mask [true, true, true, true, false] h2
      · refine J_aload_n (pc' := 28) dX2_readAdded_27 rfl rfl ?_
        refine J_V0v (pc' := 31) dX2_readAdded_28 lk_2_41 cd_X2_next (k_rNx hH hr) (ly_46) (l84_46) rfl rfl ⟨⟨by show 0 + 1 ≤ (7 * n + 6); omega, by show 8 + (1 + 11) + 40 * 0 ≤ 40 * (7 * n + 6); omega⟩, Nat.le_refl _, Nat.le_refl _⟩ (Nat.le_of_ble_eq_true rfl) rfl ?_
        refine J_bipush (v := 45) (pc' := 33) dX2_readAdded_31 (by decide) rfl ?_
        refine J_icmp_ne 71 (pc' := 36) dX2_readAdded_33 (by decide) rfl (fun h_33 => ?_) (fun h_33 => ?_)
        · refine J_iload_n (pc' := 72) dX2_readAdded_71 rfl rfl ?_
          exact J_zret dX2_readAdded_72 (jb_b _) ⟨by rw [show pLoop (w.1 7) f pIa (pMul (w.1 7) f part) (k + 1) r = r from if_neg (fun q => by first | exact jb_0.mp h_15 q.1 | exact jb_0.mp h_25 q.2 | (have q2 := of_decide_eq_true q.2; first | contradiction | (rcases q2 with e | e <;> contradiction)))], by rw [show pLoop (w.1 7) f pIa (pMul (w.1 7) f part) (k + 1) r = r from if_neg (fun q => by first | exact jb_0.mp h_15 q.1 | exact jb_0.mp h_25 q.2 | (have q2 := of_decide_eq_true q.2; first | contradiction | (rcases q2 with e | e <;> contradiction)))]⟩
        · refine J_aload_n (pc' := 37) dX2_readAdded_36 rfl rfl ?_
          refine J_V0v (pc' := 40) dX2_readAdded_37 lk_2_41 cd_X2_next (k_rNx hH hr) (ly_46) (l84_46) rfl rfl ⟨⟨by show 0 + 1 ≤ (7 * n + 6); omega, by show 8 + (1 + 11) + 40 * 0 ≤ 40 * (7 * n + 6); omega⟩, Nat.le_refl _, Nat.le_refl _⟩ (Nat.le_of_ble_eq_true rfl) rfl ?_
          refine J_istore (pc' := 42) dX2_readAdded_40 (Nat.le_of_ble_eq_true rfl) (jst4 rfl rfl) rfl ?_
          refine J_aload_n (pc' := 43) dX2_readAdded_42 rfl rfl ?_
          refine J_dup (pc' := 44) dX2_readAdded_43 rfl rfl ?_
          refine J_getI (pc' := 47) dX2_readAdded_44 fl_2_28 (ly_46) (l84_46) rfl rfl ?_
          rw [show (rPut w r.2).1 46 4 = nI r.2.1 from rfl]
          refine J_iconst (v := 1) (pc' := 48) dX2_readAdded_47 (by decide) rfl ?_
          refine J_iadd (pc' := 49) dX2_readAdded_48 rfl ?_
          refine J_putI (pc' := 52) dX2_readAdded_49 fp_2_28 (ly_46) (l84_46) rfl rfl ?_
          have hC : pIa (pNx (w.1 7) f r.2.1) = true := decide_eq_true (by first | exact Or.inl h_24 | exact Or.inr h_33 | exact Or.inr (Decidable.not_not.mp h_33))
          have hz2 := pAd_ok hH.2.1 hr (pIa_sn _ hC)
          rw [rPut_ad]
          refine J_aload_n (pc' := 53) dX2_readAdded_52 rfl rfl ?_
          refine J_iload_n (pc' := 54) dX2_readAdded_53 rfl rfl ?_
          refine J_V1v (pc' := 57) dX2_readAdded_54 lk_2_55 cd_X2_readMultiplied (ih _ hz2) (ly_46) (l84_46) rfl rfl ⟨⟨by show (7 * n + 5) + 1 ≤ (7 * n + 6); omega, by show 8 + (5 + 11) + 40 * (7 * n + 5) ≤ 40 * (7 * n + 6); omega⟩, Nat.le_refl _, Nat.le_refl _⟩ (Nat.le_of_ble_eq_true rfl) rfl ?_
          refine J_istore_n (pc' := 58) dX2_readAdded_57 (Nat.le_of_ble_eq_true rfl) (jst2 rfl rfl) rfl ?_
          refine J_aload_n (pc' := 59) dX2_readAdded_58 rfl rfl ?_
          refine J_iload (pc' := 61) dX2_readAdded_59 rfl rfl ?_
          refine J_ineg (pc' := 62) dX2_readAdded_61 rfl ?_
          refine J_V10 (pc' := 65) dX2_readAdded_62 lk_2_45 cd_X2_write (k_rWr ((pMul_ok hH.2.1 hp) _ hz2)) (ly_46) (l84_46) rfl rfl ⟨⟨by show 0 + 1 ≤ (7 * n + 6); omega, by show 8 + (2 + 11) + 40 * 0 ≤ 40 * (7 * n + 6); omega⟩, Nat.le_refl _, Nat.le_refl _⟩ (Nat.le_of_ble_eq_true rfl) rfl ?_
          refine J_iinc (pc' := 68) dX2_readAdded_65 rfl (Nat.le_of_ble_eq_true rfl) (jst3 rfl rfl) rfl ?_
          refine J_goto (pc' := 0) 8 dX2_readAdded_68 (by decide) ?_
          have h2 := ih2 (j + 1) (by omega) (((pMul (w.1 7) f part) (pAd r.2)).1, pWr (-(pNx (w.1 7) f r.2.1)) ((pMul (w.1 7) f part) (pAd r.2)).2) (pWr_ok ((pMul_ok hH.2.1 hp) _ hz2))
          rw [show pLoop (w.1 7) f pIa (pMul (w.1 7) f part) (k + 1) r = pLoop (w.1 7) f pIa (pMul (w.1 7) f part) k (((pMul (w.1 7) f part) (pAd r.2)).1, pWr (-(pNx (w.1 7) f r.2.1)) ((pMul (w.1 7) f part) (pAd r.2)).2) from if_pos ⟨jb_n h_15, hC⟩]
          rw [← z1 j] at h2
          exact J_mask [true, true, true, true, false] h2
set_option maxHeartbeats 4000000 in
set_option maxRecDepth 100000 in
theorem k_r_add {G : jG} {w : jWd} {f : Nat} (hH : rH w f) {n : Nat} {part : rS → Bool × rS} (hp : pKp part) {op : Int32} (ih : rMC G w (7 * n + 5) yX2_readMultiplied cX2_readMultiplied 5 op (pMul (w.1 7) f part)) {z : rS} (hz : rOk z) : jKd G (7 * n + 6) yX2_readAdded cX2_readAdded 5 (some .boolean) [.ref 46, .int op] (rPut w z) (some (.int (jb ((pAdd (w.1 7) f part z).1 = true)))) (rPut w (pAdd (w.1 7) f part z).2) := by
  refine jK_of (own := RX2) [some (.ref 46), some (.int op), none, none, none] pn2 rfl (Nat.le_of_ble_eq_true rfl) rfl ?_
  refine J_aload_n (pc' := 1) dX2_readAdded_0 rfl rfl ?_
  refine J_iload_n (pc' := 2) dX2_readAdded_1 rfl rfl ?_
  refine J_V1v (pc' := 5) dX2_readAdded_2 lk_2_55 cd_X2_readMultiplied (ih _ hz) (ly_46) (l84_46) rfl rfl ⟨⟨by show (7 * n + 5) + 1 ≤ (7 * n + 6); omega, by show 8 + (5 + 11) + 40 * (7 * n + 5) ≤ 40 * (7 * n + 6); omega⟩, Nat.le_refl _, Nat.le_refl _⟩ (Nat.le_of_ble_eq_true rfl) rfl ?_
  refine J_istore_n (pc' := 6) dX2_readAdded_5 (Nat.le_of_ble_eq_true rfl) (jst2 rfl rfl) rfl ?_
  refine J_iconst (v := 0) (pc' := 7) dX2_readAdded_6 (by decide) rfl ?_
  refine J_istore_n (pc' := 8) dX2_readAdded_7 (Nat.le_of_ble_eq_true rfl) (jst3 rfl rfl) rfl ?_
  exact l_r_add hH hp ih 60 0 rfl (pMul (w.1 7) f part z) ((pMul_ok hH.2.1 hp) z hz)
set_option maxHeartbeats 4000000 in
set_option maxRecDepth 100000 in
theorem k_r_cmp {G : jG} {w : jWd} {f : Nat} (hH : rH w f) {n : Nat} {part : rS → Bool × rS} (hp : pKp part) {op : Int32} (ih : rMC G w (7 * n + 6) yX2_readAdded cX2_readAdded 5 op (pAdd (w.1 7) f part)) {z : rS} (hz : rOk z) : jKd G (7 * n + 7) yX2_readCompared cX2_readCompared 4 (some .boolean) [.ref 46, .int op] (rPut w z) (some (.int (jb ((pCmp (w.1 7) f part z).1 = true)))) (rPut w (pCmp (w.1 7) f part z).2) := by
  refine jK_of (own := RX2) [some (.ref 46), some (.int op), none, none] pn2 rfl (Nat.le_of_ble_eq_true rfl) rfl ?_
  refine J_aload_n (pc' := 1) dX2_readCompared_0 rfl rfl ?_
  refine J_iload_n (pc' := 2) dX2_readCompared_1 rfl rfl ?_
  refine J_V1v (pc' := 5) dX2_readCompared_2 lk_2_52 cd_X2_readAdded (ih _ hz) (ly_46) (l84_46) rfl rfl ⟨⟨by show (7 * n + 6) + 1 ≤ (7 * n + 7); omega, by show 8 + (5 + 11) + 40 * (7 * n + 6) ≤ 40 * (7 * n + 7); omega⟩, Nat.le_refl _, Nat.le_refl _⟩ (Nat.le_of_ble_eq_true rfl) rfl ?_
  refine J_if_ne 10 (pc' := 8) dX2_readCompared_5 (by decide) rfl (fun h_5 => ?_) (fun h_5 => ?_)
  · refine J_aload_n (pc' := 11) dX2_readCompared_10 rfl rfl ?_
    refine J_V0v (pc' := 14) dX2_readCompared_11 lk_2_41 cd_X2_next (k_rNx hH ((pAdd_ok hH.2.1 hp) z hz)) (ly_46) (l84_46) rfl rfl ⟨⟨by show 0 + 1 ≤ (7 * n + 7); omega, by show 8 + (1 + 11) + 40 * 0 ≤ 40 * (7 * n + 7); omega⟩, Nat.le_refl _, Nat.le_refl _⟩ (Nat.le_of_ble_eq_true rfl) rfl ?_
    refine J_istore_n (pc' := 15) dX2_readCompared_14 (Nat.le_of_ble_eq_true rfl) (jst2 rfl rfl) rfl ?_
    refine J_iload_n (pc' := 16) dX2_readCompared_15 rfl rfl ?_
    refine J_bipush (v := 60) (pc' := 18) dX2_readCompared_16 (by decide) rfl ?_
    refine J_icmp_eq 35 (pc' := 21) dX2_readCompared_18 (by decide) rfl (fun h_18 => ?_) (fun h_18 => ?_)
    · refine J_aload_n (pc' := 36) dX2_readCompared_35 rfl rfl ?_
      refine J_dup (pc' := 37) dX2_readCompared_36 rfl rfl ?_
      refine J_getI (pc' := 40) dX2_readCompared_37 fl_2_28 (ly_46) (l84_46) rfl rfl ?_
      rw [show (rPut w (pAdd (w.1 7) f part z).2).1 46 4 = nI (pAdd (w.1 7) f part z).2.1 from rfl]
      refine J_iconst (v := 1) (pc' := 41) dX2_readCompared_40 (by decide) rfl ?_
      refine J_iadd (pc' := 42) dX2_readCompared_41 rfl ?_
      refine J_putI (pc' := 45) dX2_readCompared_42 fp_2_28 (ly_46) (l84_46) rfl rfl ?_
      have hC : pIc (pNx (w.1 7) f (pAdd (w.1 7) f part z).2.1) = true := decide_eq_true (by first | exact Or.inl h_18 | exact Or.inr (Or.inl h_24) | exact Or.inr (Or.inr h_30) | exact Or.inr (Or.inr (Decidable.not_not.mp h_30)))
      have hz2 := pAd_ok hH.2.1 ((pAdd_ok hH.2.1 hp) z hz) (pIc_sn _ hC)
      rw [rPut_ad]
      refine J_aload_n (pc' := 46) dX2_readCompared_45 rfl rfl ?_
      refine J_iload_n (pc' := 47) dX2_readCompared_46 rfl rfl ?_
      refine J_V1v (pc' := 50) dX2_readCompared_47 lk_2_52 cd_X2_readAdded (ih _ hz2) (ly_46) (l84_46) rfl rfl ⟨⟨by show (7 * n + 6) + 1 ≤ (7 * n + 7); omega, by show 8 + (5 + 11) + 40 * (7 * n + 6) ≤ 40 * (7 * n + 7); omega⟩, Nat.le_refl _, Nat.le_refl _⟩ (Nat.le_of_ble_eq_true rfl) rfl ?_
      refine J_istore_n (pc' := 51) dX2_readCompared_50 (Nat.le_of_ble_eq_true rfl) (jst3 rfl rfl) rfl ?_
      refine J_aload_n (pc' := 52) dX2_readCompared_51 rfl rfl ?_
      refine J_iload_n (pc' := 53) dX2_readCompared_52 rfl rfl ?_
      refine J_ineg (pc' := 54) dX2_readCompared_53 rfl ?_
      refine J_V10 (pc' := 57) dX2_readCompared_54 lk_2_45 cd_X2_write (k_rWr ((pAdd_ok hH.2.1 hp) _ hz2)) (ly_46) (l84_46) rfl rfl ⟨⟨by show 0 + 1 ≤ (7 * n + 7); omega, by show 8 + (2 + 11) + 40 * 0 ≤ 40 * (7 * n + 7); omega⟩, Nat.le_refl _, Nat.le_refl _⟩ (Nat.le_of_ble_eq_true rfl) rfl ?_
      refine J_iload_n (pc' := 58) dX2_readCompared_57 rfl rfl ?_
      exact J_zret dX2_readCompared_58 (jb_b _) ⟨by rw [show pCmp (w.1 7) f part z = ((pAdd (w.1 7) f part (pAd (pAdd (w.1 7) f part z).2)).1, pWr (-(pNx (w.1 7) f (pAdd (w.1 7) f part z).2.1)) (pAdd (w.1 7) f part (pAd (pAdd (w.1 7) f part z).2)).2) from if_pos ⟨jb_n h_5, hC⟩], by rw [show pCmp (w.1 7) f part z = ((pAdd (w.1 7) f part (pAd (pAdd (w.1 7) f part z).2)).1, pWr (-(pNx (w.1 7) f (pAdd (w.1 7) f part z).2.1)) (pAdd (w.1 7) f part (pAd (pAdd (w.1 7) f part z).2)).2) from if_pos ⟨jb_n h_5, hC⟩]⟩
    · refine J_iload_n (pc' := 22) dX2_readCompared_21 rfl rfl ?_
      refine J_bipush (v := 61) (pc' := 24) dX2_readCompared_22 (by decide) rfl ?_
      refine J_icmp_eq 35 (pc' := 27) dX2_readCompared_24 (by decide) rfl (fun h_24 => ?_) (fun h_24 => ?_)
      · refine J_aload_n (pc' := 36) dX2_readCompared_35 rfl rfl ?_
        refine J_dup (pc' := 37) dX2_readCompared_36 rfl rfl ?_
        refine J_getI (pc' := 40) dX2_readCompared_37 fl_2_28 (ly_46) (l84_46) rfl rfl ?_
        rw [show (rPut w (pAdd (w.1 7) f part z).2).1 46 4 = nI (pAdd (w.1 7) f part z).2.1 from rfl]
        refine J_iconst (v := 1) (pc' := 41) dX2_readCompared_40 (by decide) rfl ?_
        refine J_iadd (pc' := 42) dX2_readCompared_41 rfl ?_
        refine J_putI (pc' := 45) dX2_readCompared_42 fp_2_28 (ly_46) (l84_46) rfl rfl ?_
        have hC : pIc (pNx (w.1 7) f (pAdd (w.1 7) f part z).2.1) = true := decide_eq_true (by first | exact Or.inl h_18 | exact Or.inr (Or.inl h_24) | exact Or.inr (Or.inr h_30) | exact Or.inr (Or.inr (Decidable.not_not.mp h_30)))
        have hz2 := pAd_ok hH.2.1 ((pAdd_ok hH.2.1 hp) z hz) (pIc_sn _ hC)
        rw [rPut_ad]
        refine J_aload_n (pc' := 46) dX2_readCompared_45 rfl rfl ?_
        refine J_iload_n (pc' := 47) dX2_readCompared_46 rfl rfl ?_
        refine J_V1v (pc' := 50) dX2_readCompared_47 lk_2_52 cd_X2_readAdded (ih _ hz2) (ly_46) (l84_46) rfl rfl ⟨⟨by show (7 * n + 6) + 1 ≤ (7 * n + 7); omega, by show 8 + (5 + 11) + 40 * (7 * n + 6) ≤ 40 * (7 * n + 7); omega⟩, Nat.le_refl _, Nat.le_refl _⟩ (Nat.le_of_ble_eq_true rfl) rfl ?_
        refine J_istore_n (pc' := 51) dX2_readCompared_50 (Nat.le_of_ble_eq_true rfl) (jst3 rfl rfl) rfl ?_
        refine J_aload_n (pc' := 52) dX2_readCompared_51 rfl rfl ?_
        refine J_iload_n (pc' := 53) dX2_readCompared_52 rfl rfl ?_
        refine J_ineg (pc' := 54) dX2_readCompared_53 rfl ?_
        refine J_V10 (pc' := 57) dX2_readCompared_54 lk_2_45 cd_X2_write (k_rWr ((pAdd_ok hH.2.1 hp) _ hz2)) (ly_46) (l84_46) rfl rfl ⟨⟨by show 0 + 1 ≤ (7 * n + 7); omega, by show 8 + (2 + 11) + 40 * 0 ≤ 40 * (7 * n + 7); omega⟩, Nat.le_refl _, Nat.le_refl _⟩ (Nat.le_of_ble_eq_true rfl) rfl ?_
        refine J_iload_n (pc' := 58) dX2_readCompared_57 rfl rfl ?_
        exact J_zret dX2_readCompared_58 (jb_b _) ⟨by rw [show pCmp (w.1 7) f part z = ((pAdd (w.1 7) f part (pAd (pAdd (w.1 7) f part z).2)).1, pWr (-(pNx (w.1 7) f (pAdd (w.1 7) f part z).2.1)) (pAdd (w.1 7) f part (pAd (pAdd (w.1 7) f part z).2)).2) from if_pos ⟨jb_n h_5, hC⟩], by rw [show pCmp (w.1 7) f part z = ((pAdd (w.1 7) f part (pAd (pAdd (w.1 7) f part z).2)).1, pWr (-(pNx (w.1 7) f (pAdd (w.1 7) f part z).2.1)) (pAdd (w.1 7) f part (pAd (pAdd (w.1 7) f part z).2)).2) from if_pos ⟨jb_n h_5, hC⟩]⟩
      · refine J_iload_n (pc' := 28) dX2_readCompared_27 rfl rfl ?_
        refine J_bipush (v := 62) (pc' := 30) dX2_readCompared_28 (by decide) rfl ?_
        refine J_icmp_eq 35 (pc' := 33) dX2_readCompared_30 (by decide) rfl (fun h_30 => ?_) (fun h_30 => ?_)
        · refine J_aload_n (pc' := 36) dX2_readCompared_35 rfl rfl ?_
          refine J_dup (pc' := 37) dX2_readCompared_36 rfl rfl ?_
          refine J_getI (pc' := 40) dX2_readCompared_37 fl_2_28 (ly_46) (l84_46) rfl rfl ?_
          rw [show (rPut w (pAdd (w.1 7) f part z).2).1 46 4 = nI (pAdd (w.1 7) f part z).2.1 from rfl]
          refine J_iconst (v := 1) (pc' := 41) dX2_readCompared_40 (by decide) rfl ?_
          refine J_iadd (pc' := 42) dX2_readCompared_41 rfl ?_
          refine J_putI (pc' := 45) dX2_readCompared_42 fp_2_28 (ly_46) (l84_46) rfl rfl ?_
          have hC : pIc (pNx (w.1 7) f (pAdd (w.1 7) f part z).2.1) = true := decide_eq_true (by first | exact Or.inl h_18 | exact Or.inr (Or.inl h_24) | exact Or.inr (Or.inr h_30) | exact Or.inr (Or.inr (Decidable.not_not.mp h_30)))
          have hz2 := pAd_ok hH.2.1 ((pAdd_ok hH.2.1 hp) z hz) (pIc_sn _ hC)
          rw [rPut_ad]
          refine J_aload_n (pc' := 46) dX2_readCompared_45 rfl rfl ?_
          refine J_iload_n (pc' := 47) dX2_readCompared_46 rfl rfl ?_
          refine J_V1v (pc' := 50) dX2_readCompared_47 lk_2_52 cd_X2_readAdded (ih _ hz2) (ly_46) (l84_46) rfl rfl ⟨⟨by show (7 * n + 6) + 1 ≤ (7 * n + 7); omega, by show 8 + (5 + 11) + 40 * (7 * n + 6) ≤ 40 * (7 * n + 7); omega⟩, Nat.le_refl _, Nat.le_refl _⟩ (Nat.le_of_ble_eq_true rfl) rfl ?_
          refine J_istore_n (pc' := 51) dX2_readCompared_50 (Nat.le_of_ble_eq_true rfl) (jst3 rfl rfl) rfl ?_
          refine J_aload_n (pc' := 52) dX2_readCompared_51 rfl rfl ?_
          refine J_iload_n (pc' := 53) dX2_readCompared_52 rfl rfl ?_
          refine J_ineg (pc' := 54) dX2_readCompared_53 rfl ?_
          refine J_V10 (pc' := 57) dX2_readCompared_54 lk_2_45 cd_X2_write (k_rWr ((pAdd_ok hH.2.1 hp) _ hz2)) (ly_46) (l84_46) rfl rfl ⟨⟨by show 0 + 1 ≤ (7 * n + 7); omega, by show 8 + (2 + 11) + 40 * 0 ≤ 40 * (7 * n + 7); omega⟩, Nat.le_refl _, Nat.le_refl _⟩ (Nat.le_of_ble_eq_true rfl) rfl ?_
          refine J_iload_n (pc' := 58) dX2_readCompared_57 rfl rfl ?_
          exact J_zret dX2_readCompared_58 (jb_b _) ⟨by rw [show pCmp (w.1 7) f part z = ((pAdd (w.1 7) f part (pAd (pAdd (w.1 7) f part z).2)).1, pWr (-(pNx (w.1 7) f (pAdd (w.1 7) f part z).2.1)) (pAdd (w.1 7) f part (pAd (pAdd (w.1 7) f part z).2)).2) from if_pos ⟨jb_n h_5, hC⟩], by rw [show pCmp (w.1 7) f part z = ((pAdd (w.1 7) f part (pAd (pAdd (w.1 7) f part z).2)).1, pWr (-(pNx (w.1 7) f (pAdd (w.1 7) f part z).2.1)) (pAdd (w.1 7) f part (pAd (pAdd (w.1 7) f part z).2)).2) from if_pos ⟨jb_n h_5, hC⟩]⟩
        · refine J_iconst (v := 1) (pc' := 34) dX2_readCompared_33 (by decide) rfl ?_
          exact J_zret dX2_readCompared_34 (Or.inr rfl) ⟨by rw [show pCmp (w.1 7) f part z = (pAdd (w.1 7) f part z) from if_neg (fun q => by rcases of_decide_eq_true q.2 with e | e | e <;> contradiction), jb_t (jb_n h_5)], by rw [show pCmp (w.1 7) f part z = (pAdd (w.1 7) f part z) from if_neg (fun q => by rcases of_decide_eq_true q.2 with e | e | e <;> contradiction)]⟩
  · refine J_iconst (v := 0) (pc' := 9) dX2_readCompared_8 (by decide) rfl ?_
    exact J_zret dX2_readCompared_9 (Or.inl rfl) ⟨by rw [show pCmp (w.1 7) f part z = (pAdd (w.1 7) f part z) from if_neg (fun q => by first | exact jb_0.mp h_5 q.1 | exact h_5 (jb_t q.1) | exact jb_0.mp (Decidable.not_not.mp h_5) q.1), jb_f (by first | exact jb_0.mp h_5 | exact jb_0.mp (Decidable.not_not.mp h_5))], by rw [show pCmp (w.1 7) f part z = (pAdd (w.1 7) f part z) from if_neg (fun q => by first | exact jb_0.mp h_5 q.1 | exact jb_0.mp (Decidable.not_not.mp h_5) q.1)]⟩
set_option maxHeartbeats 4000000 in
set_option maxRecDepth 100000 in
theorem l_r_and {G : jG} {w : jWd} {f : Nat} (hH : rH w f) {n : Nat} {part : rS → Bool × rS} (hp : pKp part) {op : Int32} (ih : rMC G w (7 * n + 7) yX2_readCompared cX2_readCompared 4 op (pCmp (w.1 7) f part)) : ∀ k j : Nat, j + k = 60 → ∀ (r : Bool × rS) (_ : rOk r.2), J G (jM G (7 * n + 8) RX2 cX2_readAnd 4 (some .boolean) ((fun r' w' => r' = some (.int (jb ((pLoop (w.1 7) f pIn (pCmp (w.1 7) f part) k r).1 = true))) ∧ w' = rPut w (pLoop (w.1 7) f pIn (pCmp (w.1 7) f part) k r).2))) (rPut w r.2) 8 [some (.ref 46), some (.int op), some (.int (jb (r.1 = true))), some (.int (nI j))] [] := by
  intro k
  induction k with
  | zero =>
    intro j hj r hr
    refine J_iload_n (pc' := 9) dX2_readAnd_8 rfl rfl ?_
    refine J_bipush (v := 60) (pc' := 11) dX2_readAnd_9 (by decide) rfl ?_
    refine J_icmp_ge 55 (pc' := 14) dX2_readAnd_11 (by decide) rfl (fun h_11 => ?_) (fun h_11 => absurd (by rw [show (60 : Int32) = nI 60 from by decide]; exact nI_le (by omega) (by omega)) h_11)
    refine J_iload_n (pc' := 56) dX2_readAnd_55 rfl rfl ?_
    exact J_zret dX2_readAnd_56 (jb_b _) ⟨rfl, rfl⟩
  | succ k ih2 =>
    intro j hj r hr
    refine J_iload_n (pc' := 9) dX2_readAnd_8 rfl rfl ?_
    refine J_bipush (v := 60) (pc' := 11) dX2_readAnd_9 (by decide) rfl ?_
    refine J_icmp_ge 55 (pc' := 14) dX2_readAnd_11 (by decide) rfl (fun h_11 => absurd h_11 (by rw [show (60 : Int32) = nI 60 from by decide]; exact nI_ge (by omega) (by omega))) (fun h_11 => ?_)
    refine J_iload_n (pc' := 15) dX2_readAnd_14 rfl rfl ?_
    refine J_if_eq 55 (pc' := 18) dX2_readAnd_15 (by decide) rfl (fun h_15 => ?_) (fun h_15 => ?_)
    · refine J_iload_n (pc' := 56) dX2_readAnd_55 rfl rfl ?_
      exact J_zret dX2_readAnd_56 (jb_b _) ⟨by rw [show pLoop (w.1 7) f pIn (pCmp (w.1 7) f part) (k + 1) r = r from if_neg (fun q => by first | exact jb_0.mp h_15 q.1 | exact jb_0.mp h_25 q.2 | (have q2 := of_decide_eq_true q.2; first | contradiction | (rcases q2 with e | e <;> contradiction)))], by rw [show pLoop (w.1 7) f pIn (pCmp (w.1 7) f part) (k + 1) r = r from if_neg (fun q => by first | exact jb_0.mp h_15 q.1 | exact jb_0.mp h_25 q.2 | (have q2 := of_decide_eq_true q.2; first | contradiction | (rcases q2 with e | e <;> contradiction)))]⟩
    · refine J_aload_n (pc' := 19) dX2_readAnd_18 rfl rfl ?_
      refine J_V0v (pc' := 22) dX2_readAnd_19 lk_2_41 cd_X2_next (k_rNx hH hr) (ly_46) (l84_46) rfl rfl ⟨⟨by show 0 + 1 ≤ (7 * n + 8); omega, by show 8 + (1 + 11) + 40 * 0 ≤ 40 * (7 * n + 8); omega⟩, Nat.le_refl _, Nat.le_refl _⟩ (Nat.le_of_ble_eq_true rfl) rfl ?_
      refine J_bipush (v := 38) (pc' := 24) dX2_readAnd_22 (by decide) rfl ?_
      refine J_icmp_ne 55 (pc' := 27) dX2_readAnd_24 (by decide) rfl (fun h_24 => ?_) (fun h_24 => ?_)
      · refine J_iload_n (pc' := 56) dX2_readAnd_55 rfl rfl ?_
        exact J_zret dX2_readAnd_56 (jb_b _) ⟨by rw [show pLoop (w.1 7) f pIn (pCmp (w.1 7) f part) (k + 1) r = r from if_neg (fun q => by first | exact jb_0.mp h_15 q.1 | exact jb_0.mp h_25 q.2 | (have q2 := of_decide_eq_true q.2; first | contradiction | (rcases q2 with e | e <;> contradiction)))], by rw [show pLoop (w.1 7) f pIn (pCmp (w.1 7) f part) (k + 1) r = r from if_neg (fun q => by first | exact jb_0.mp h_15 q.1 | exact jb_0.mp h_25 q.2 | (have q2 := of_decide_eq_true q.2; first | contradiction | (rcases q2 with e | e <;> contradiction)))]⟩
      · refine J_aload_n (pc' := 28) dX2_readAnd_27 rfl rfl ?_
        refine J_dup (pc' := 29) dX2_readAnd_28 rfl rfl ?_
        refine J_getI (pc' := 32) dX2_readAnd_29 fl_2_28 (ly_46) (l84_46) rfl rfl ?_
        rw [show (rPut w r.2).1 46 4 = nI r.2.1 from rfl]
        refine J_iconst (v := 1) (pc' := 33) dX2_readAnd_32 (by decide) rfl ?_
        refine J_iadd (pc' := 34) dX2_readAnd_33 rfl ?_
        refine J_putI (pc' := 37) dX2_readAnd_34 fp_2_28 (ly_46) (l84_46) rfl rfl ?_
        have hC : pIn (pNx (w.1 7) f r.2.1) = true := decide_eq_true (by first | exact h_24 | exact Decidable.not_not.mp h_24)
        have hz2 := pAd_ok hH.2.1 hr (pIn_sn _ hC)
        rw [rPut_ad]
        refine J_aload_n (pc' := 38) dX2_readAnd_37 rfl rfl ?_
        refine J_iload_n (pc' := 39) dX2_readAnd_38 rfl rfl ?_
        refine J_V1v (pc' := 42) dX2_readAnd_39 lk_2_49 cd_X2_readCompared (ih _ hz2) (ly_46) (l84_46) rfl rfl ⟨⟨by show (7 * n + 7) + 1 ≤ (7 * n + 8); omega, by show 8 + (4 + 11) + 40 * (7 * n + 7) ≤ 40 * (7 * n + 8); omega⟩, Nat.le_refl _, Nat.le_refl _⟩ (Nat.le_of_ble_eq_true rfl) rfl ?_
        refine J_istore_n (pc' := 43) dX2_readAnd_42 (Nat.le_of_ble_eq_true rfl) (jst2 rfl rfl) rfl ?_
        refine J_aload_n (pc' := 44) dX2_readAnd_43 rfl rfl ?_
        refine J_bipush (v := (-38)) (pc' := 46) dX2_readAnd_44 (by decide) rfl ?_
        refine J_V10 (pc' := 49) dX2_readAnd_46 lk_2_45 cd_X2_write (k_rWr ((pCmp_ok hH.2.1 hp) _ hz2)) (ly_46) (l84_46) rfl rfl ⟨⟨by show 0 + 1 ≤ (7 * n + 8); omega, by show 8 + (2 + 11) + 40 * 0 ≤ 40 * (7 * n + 8); omega⟩, Nat.le_refl _, Nat.le_refl _⟩ (Nat.le_of_ble_eq_true rfl) rfl ?_
        refine J_iinc (pc' := 52) dX2_readAnd_49 rfl (Nat.le_of_ble_eq_true rfl) (jst3 rfl rfl) rfl ?_
        refine J_goto (pc' := 0) 8 dX2_readAnd_52 (by decide) ?_
        have h2 := ih2 (j + 1) (by omega) (((pCmp (w.1 7) f part) (pAd r.2)).1, pWr (-(pNx (w.1 7) f r.2.1)) ((pCmp (w.1 7) f part) (pAd r.2)).2) (pWr_ok ((pCmp_ok hH.2.1 hp) _ hz2))
        rw [show pLoop (w.1 7) f pIn (pCmp (w.1 7) f part) (k + 1) r = pLoop (w.1 7) f pIn (pCmp (w.1 7) f part) k (((pCmp (w.1 7) f part) (pAd r.2)).1, pWr (-(pNx (w.1 7) f r.2.1)) ((pCmp (w.1 7) f part) (pAd r.2)).2) from if_pos ⟨jb_n h_15, hC⟩]
        rw [show pNx (w.1 7) f r.2.1 = 38 from of_decide_eq_true hC] at h2 ⊢
        rw [← z1 j] at h2
        exact J_mask [true, true, true, true] h2
set_option maxHeartbeats 4000000 in
set_option maxRecDepth 100000 in
theorem k_r_and {G : jG} {w : jWd} {f : Nat} (hH : rH w f) {n : Nat} {part : rS → Bool × rS} (hp : pKp part) {op : Int32} (ih : rMC G w (7 * n + 7) yX2_readCompared cX2_readCompared 4 op (pCmp (w.1 7) f part)) {z : rS} (hz : rOk z) : jKd G (7 * n + 8) yX2_readAnd cX2_readAnd 4 (some .boolean) [.ref 46, .int op] (rPut w z) (some (.int (jb ((pAnd (w.1 7) f part z).1 = true)))) (rPut w (pAnd (w.1 7) f part z).2) := by
  refine jK_of (own := RX2) [some (.ref 46), some (.int op), none, none] pn2 rfl (Nat.le_of_ble_eq_true rfl) rfl ?_
  refine J_aload_n (pc' := 1) dX2_readAnd_0 rfl rfl ?_
  refine J_iload_n (pc' := 2) dX2_readAnd_1 rfl rfl ?_
  refine J_V1v (pc' := 5) dX2_readAnd_2 lk_2_49 cd_X2_readCompared (ih _ hz) (ly_46) (l84_46) rfl rfl ⟨⟨by show (7 * n + 7) + 1 ≤ (7 * n + 8); omega, by show 8 + (4 + 11) + 40 * (7 * n + 7) ≤ 40 * (7 * n + 8); omega⟩, Nat.le_refl _, Nat.le_refl _⟩ (Nat.le_of_ble_eq_true rfl) rfl ?_
  refine J_istore_n (pc' := 6) dX2_readAnd_5 (Nat.le_of_ble_eq_true rfl) (jst2 rfl rfl) rfl ?_
  refine J_iconst (v := 0) (pc' := 7) dX2_readAnd_6 (by decide) rfl ?_
  refine J_istore_n (pc' := 8) dX2_readAnd_7 (Nat.le_of_ble_eq_true rfl) (jst3 rfl rfl) rfl ?_
  exact l_r_and hH hp ih 60 0 rfl (pCmp (w.1 7) f part z) ((pCmp_ok hH.2.1 hp) z hz)
set_option maxHeartbeats 4000000 in
set_option maxRecDepth 100000 in
theorem l_r_or {G : jG} {w : jWd} {f : Nat} (hH : rH w f) {n : Nat} {part : rS → Bool × rS} (hp : pKp part) {op : Int32} (ih : rMC G w (7 * n + 8) yX2_readAnd cX2_readAnd 4 op (pAnd (w.1 7) f part)) : ∀ k j : Nat, j + k = 60 → ∀ (r : Bool × rS) (_ : rOk r.2), J G (jM G (7 * n + 9) RX2 cX2_readOr 4 (some .boolean) ((fun r' w' => r' = some (.int (jb ((pLoop (w.1 7) f pIo (pAnd (w.1 7) f part) k r).1 = true))) ∧ w' = rPut w (pLoop (w.1 7) f pIo (pAnd (w.1 7) f part) k r).2))) (rPut w r.2) 8 [some (.ref 46), some (.int op), some (.int (jb (r.1 = true))), some (.int (nI j))] [] := by
  intro k
  induction k with
  | zero =>
    intro j hj r hr
    refine J_iload_n (pc' := 9) dX2_readOr_8 rfl rfl ?_
    refine J_bipush (v := 60) (pc' := 11) dX2_readOr_9 (by decide) rfl ?_
    refine J_icmp_ge 55 (pc' := 14) dX2_readOr_11 (by decide) rfl (fun h_11 => ?_) (fun h_11 => absurd (by rw [show (60 : Int32) = nI 60 from by decide]; exact nI_le (by omega) (by omega)) h_11)
    refine J_iload_n (pc' := 56) dX2_readOr_55 rfl rfl ?_
    exact J_zret dX2_readOr_56 (jb_b _) ⟨rfl, rfl⟩
  | succ k ih2 =>
    intro j hj r hr
    refine J_iload_n (pc' := 9) dX2_readOr_8 rfl rfl ?_
    refine J_bipush (v := 60) (pc' := 11) dX2_readOr_9 (by decide) rfl ?_
    refine J_icmp_ge 55 (pc' := 14) dX2_readOr_11 (by decide) rfl (fun h_11 => absurd h_11 (by rw [show (60 : Int32) = nI 60 from by decide]; exact nI_ge (by omega) (by omega))) (fun h_11 => ?_)
    refine J_iload_n (pc' := 15) dX2_readOr_14 rfl rfl ?_
    refine J_if_eq 55 (pc' := 18) dX2_readOr_15 (by decide) rfl (fun h_15 => ?_) (fun h_15 => ?_)
    · refine J_iload_n (pc' := 56) dX2_readOr_55 rfl rfl ?_
      exact J_zret dX2_readOr_56 (jb_b _) ⟨by rw [show pLoop (w.1 7) f pIo (pAnd (w.1 7) f part) (k + 1) r = r from if_neg (fun q => by first | exact jb_0.mp h_15 q.1 | exact jb_0.mp h_25 q.2 | (have q2 := of_decide_eq_true q.2; first | contradiction | (rcases q2 with e | e <;> contradiction)))], by rw [show pLoop (w.1 7) f pIo (pAnd (w.1 7) f part) (k + 1) r = r from if_neg (fun q => by first | exact jb_0.mp h_15 q.1 | exact jb_0.mp h_25 q.2 | (have q2 := of_decide_eq_true q.2; first | contradiction | (rcases q2 with e | e <;> contradiction)))]⟩
    · refine J_aload_n (pc' := 19) dX2_readOr_18 rfl rfl ?_
      refine J_V0v (pc' := 22) dX2_readOr_19 lk_2_41 cd_X2_next (k_rNx hH hr) (ly_46) (l84_46) rfl rfl ⟨⟨by show 0 + 1 ≤ (7 * n + 9); omega, by show 8 + (1 + 11) + 40 * 0 ≤ 40 * (7 * n + 9); omega⟩, Nat.le_refl _, Nat.le_refl _⟩ (Nat.le_of_ble_eq_true rfl) rfl ?_
      refine J_bipush (v := 124) (pc' := 24) dX2_readOr_22 (by decide) rfl ?_
      refine J_icmp_ne 55 (pc' := 27) dX2_readOr_24 (by decide) rfl (fun h_24 => ?_) (fun h_24 => ?_)
      · refine J_iload_n (pc' := 56) dX2_readOr_55 rfl rfl ?_
        exact J_zret dX2_readOr_56 (jb_b _) ⟨by rw [show pLoop (w.1 7) f pIo (pAnd (w.1 7) f part) (k + 1) r = r from if_neg (fun q => by first | exact jb_0.mp h_15 q.1 | exact jb_0.mp h_25 q.2 | (have q2 := of_decide_eq_true q.2; first | contradiction | (rcases q2 with e | e <;> contradiction)))], by rw [show pLoop (w.1 7) f pIo (pAnd (w.1 7) f part) (k + 1) r = r from if_neg (fun q => by first | exact jb_0.mp h_15 q.1 | exact jb_0.mp h_25 q.2 | (have q2 := of_decide_eq_true q.2; first | contradiction | (rcases q2 with e | e <;> contradiction)))]⟩
      · refine J_aload_n (pc' := 28) dX2_readOr_27 rfl rfl ?_
        refine J_dup (pc' := 29) dX2_readOr_28 rfl rfl ?_
        refine J_getI (pc' := 32) dX2_readOr_29 fl_2_28 (ly_46) (l84_46) rfl rfl ?_
        rw [show (rPut w r.2).1 46 4 = nI r.2.1 from rfl]
        refine J_iconst (v := 1) (pc' := 33) dX2_readOr_32 (by decide) rfl ?_
        refine J_iadd (pc' := 34) dX2_readOr_33 rfl ?_
        refine J_putI (pc' := 37) dX2_readOr_34 fp_2_28 (ly_46) (l84_46) rfl rfl ?_
        have hC : pIo (pNx (w.1 7) f r.2.1) = true := decide_eq_true (by first | exact h_24 | exact Decidable.not_not.mp h_24)
        have hz2 := pAd_ok hH.2.1 hr (pIo_sn _ hC)
        rw [rPut_ad]
        refine J_aload_n (pc' := 38) dX2_readOr_37 rfl rfl ?_
        refine J_iload_n (pc' := 39) dX2_readOr_38 rfl rfl ?_
        refine J_V1v (pc' := 42) dX2_readOr_39 lk_2_38 cd_X2_readAnd (ih _ hz2) (ly_46) (l84_46) rfl rfl ⟨⟨by show (7 * n + 8) + 1 ≤ (7 * n + 9); omega, by show 8 + (4 + 11) + 40 * (7 * n + 8) ≤ 40 * (7 * n + 9); omega⟩, Nat.le_refl _, Nat.le_refl _⟩ (Nat.le_of_ble_eq_true rfl) rfl ?_
        refine J_istore_n (pc' := 43) dX2_readOr_42 (Nat.le_of_ble_eq_true rfl) (jst2 rfl rfl) rfl ?_
        refine J_aload_n (pc' := 44) dX2_readOr_43 rfl rfl ?_
        refine J_bipush (v := (-124)) (pc' := 46) dX2_readOr_44 (by decide) rfl ?_
        refine J_V10 (pc' := 49) dX2_readOr_46 lk_2_45 cd_X2_write (k_rWr ((pAnd_ok hH.2.1 hp) _ hz2)) (ly_46) (l84_46) rfl rfl ⟨⟨by show 0 + 1 ≤ (7 * n + 9); omega, by show 8 + (2 + 11) + 40 * 0 ≤ 40 * (7 * n + 9); omega⟩, Nat.le_refl _, Nat.le_refl _⟩ (Nat.le_of_ble_eq_true rfl) rfl ?_
        refine J_iinc (pc' := 52) dX2_readOr_49 rfl (Nat.le_of_ble_eq_true rfl) (jst3 rfl rfl) rfl ?_
        refine J_goto (pc' := 0) 8 dX2_readOr_52 (by decide) ?_
        have h2 := ih2 (j + 1) (by omega) (((pAnd (w.1 7) f part) (pAd r.2)).1, pWr (-(pNx (w.1 7) f r.2.1)) ((pAnd (w.1 7) f part) (pAd r.2)).2) (pWr_ok ((pAnd_ok hH.2.1 hp) _ hz2))
        rw [show pLoop (w.1 7) f pIo (pAnd (w.1 7) f part) (k + 1) r = pLoop (w.1 7) f pIo (pAnd (w.1 7) f part) k (((pAnd (w.1 7) f part) (pAd r.2)).1, pWr (-(pNx (w.1 7) f r.2.1)) ((pAnd (w.1 7) f part) (pAd r.2)).2) from if_pos ⟨jb_n h_15, hC⟩]
        rw [show pNx (w.1 7) f r.2.1 = 124 from of_decide_eq_true hC] at h2 ⊢
        rw [← z1 j] at h2
        exact J_mask [true, true, true, true] h2
set_option maxHeartbeats 4000000 in
set_option maxRecDepth 100000 in
theorem k_r_or {G : jG} {w : jWd} {f : Nat} (hH : rH w f) {n : Nat} {part : rS → Bool × rS} (hp : pKp part) {op : Int32} (ih : rMC G w (7 * n + 8) yX2_readAnd cX2_readAnd 4 op (pAnd (w.1 7) f part)) {z : rS} (hz : rOk z) : jKd G (7 * n + 9) yX2_readOr cX2_readOr 4 (some .boolean) [.ref 46, .int op] (rPut w z) (some (.int (jb ((pOr (w.1 7) f part z).1 = true)))) (rPut w (pOr (w.1 7) f part z).2) := by
  refine jK_of (own := RX2) [some (.ref 46), some (.int op), none, none] pn2 rfl (Nat.le_of_ble_eq_true rfl) rfl ?_
  refine J_aload_n (pc' := 1) dX2_readOr_0 rfl rfl ?_
  refine J_iload_n (pc' := 2) dX2_readOr_1 rfl rfl ?_
  refine J_V1v (pc' := 5) dX2_readOr_2 lk_2_38 cd_X2_readAnd (ih _ hz) (ly_46) (l84_46) rfl rfl ⟨⟨by show (7 * n + 8) + 1 ≤ (7 * n + 9); omega, by show 8 + (4 + 11) + 40 * (7 * n + 8) ≤ 40 * (7 * n + 9); omega⟩, Nat.le_refl _, Nat.le_refl _⟩ (Nat.le_of_ble_eq_true rfl) rfl ?_
  refine J_istore_n (pc' := 6) dX2_readOr_5 (Nat.le_of_ble_eq_true rfl) (jst2 rfl rfl) rfl ?_
  refine J_iconst (v := 0) (pc' := 7) dX2_readOr_6 (by decide) rfl ?_
  refine J_istore_n (pc' := 8) dX2_readOr_7 (Nat.le_of_ble_eq_true rfl) (jst3 rfl rfl) rfl ?_
  exact l_r_or hH hp ih 60 0 rfl (pAnd (w.1 7) f part z) ((pAnd_ok hH.2.1 hp) z hz)
