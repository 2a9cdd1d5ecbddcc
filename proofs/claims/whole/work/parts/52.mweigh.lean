/-! ===== the reference: weights ===== -/
/-! ===== the reference: weights ===== -/
theorem zon : ∀ i, i < 8 → ∀ a, a < 2 ^ i → (nI a ||| ((0 : Int32) <<< (nI i &&& 31))) = nI a ∧ (nI a ||| ((1 : Int32) <<< (nI i &&& 31))) = nI (a + 2 ^ i) := by decide +kernel
theorem sOn_l2 (σ : sg) : ∀ n, sOn σ n < 2 ^ n
  | 0 => by rw [sOn]; decide
  | n + 1 => by
    have := sOn_l2 σ n
    rw [sOn, Nat.pow_succ]
    split <;> omega
theorem sOn_or {σ : sg} {i : Nat} (hi : i < 8) (h : σ 5 i = 0 ∨ σ 5 i = 1) : (nI (sOn σ i) ||| (σ 5 i <<< (nI i &&& 31))) = nI (sOn σ (i + 1)) := by
  have := zon i hi _ (sOn_l2 σ i)
  rw [sOn]
  rcases h with h | h
  · rw [h, if_neg (by decide), this.1]; rfl
  · rw [h, if_pos rfl, this.2]
set_option maxHeartbeats 4000000 in
set_option maxRecDepth 100000 in
theorem l_mon {G : jG} {w : jWd} (hI : sInv (abM (w.1 69))) : ∀ n i : Nat, i + n = sM (abM (w.1 69)) → J G (jM G 1 RX7 cX7_onOnes 3 (some .int) (fun r' w' => r' = some (.int (nI (sSet (abM (w.1 69))))) ∧ w' = w)) w 4 [some (.ref 68), some (.int (nI (sOn (abM (w.1 69)) i))), some (.int (nI i))] [] := by
  have hM : w.1 69 2 = nI (sM (abM (w.1 69))) := (sIM hI).1
  have hM8 := (sIM hI).2
  intro n
  induction n with
  | zero =>
    intro i hi
    refine J_iload_n (pc' := 5) dX7_onOnes_4 rfl rfl ?_
    refine J_aload_n (pc' := 6) dX7_onOnes_5 rfl rfl ?_
    refine J_getR (pc' := 9) dX7_onOnes_6 fl_7_9 (ly_68) (l84_68) rfl rfl ?_
    refine J_iconst (v := 2) (pc' := 10) dX7_onOnes_9 (by decide) rfl ?_
    refine J_iald 2 (pc' := 11) dX7_onOnes_10 (ly_69) (l84_69) nIc_2 (by decide) (by decide) rfl ?_
    rw [hM]
    refine J_icmp_ge 31 (pc' := 14) dX7_onOnes_11 (by decide) rfl (fun h_11 => ?_) (fun h_11 => absurd (nI_le (by omega) (by omega)) h_11)
    refine J_iload_n (pc' := 32) dX7_onOnes_31 rfl rfl ?_
    have ei : i = sM (abM (w.1 69)) := by omega
    subst ei
    exact J_iret dX7_onOnes_32  ⟨rfl, rfl⟩
  | succ n ih =>
    intro i hi
    have h8 : i < 8 := by omega
    refine J_iload_n (pc' := 5) dX7_onOnes_4 rfl rfl ?_
    refine J_aload_n (pc' := 6) dX7_onOnes_5 rfl rfl ?_
    refine J_getR (pc' := 9) dX7_onOnes_6 fl_7_9 (ly_68) (l84_68) rfl rfl ?_
    refine J_iconst (v := 2) (pc' := 10) dX7_onOnes_9 (by decide) rfl ?_
    refine J_iald 2 (pc' := 11) dX7_onOnes_10 (ly_69) (l84_69) nIc_2 (by decide) (by decide) rfl ?_
    rw [hM]
    refine J_icmp_ge 31 (pc' := 14) dX7_onOnes_11 (by decide) rfl (fun h_11 => absurd h_11 (nI_ge (by omega) (by omega))) (fun h_11 => ?_)
    refine J_iload_n (pc' := 15) dX7_onOnes_14 rfl rfl ?_
    refine J_aload_n (pc' := 16) dX7_onOnes_15 rfl rfl ?_
    refine J_iload_n (pc' := 17) dX7_onOnes_16 rfl rfl ?_
    refine J_iconst (v := 5) (pc' := 18) dX7_onOnes_17 (by decide) rfl ?_
    refine J_V2v (pc' := 21) dX7_onOnes_18 lk_7_65 cd_X7_of (k_mof5 h8) (ly_68) (l84_68) rfl rfl (jroom_of rfl) (Nat.le_of_ble_eq_true rfl) rfl ?_
    refine J_iload_n (pc' := 22) dX7_onOnes_21 rfl rfl ?_
    refine J_ishl (pc' := 23) dX7_onOnes_22 rfl ?_
    refine J_ior (pc' := 24) dX7_onOnes_23 rfl ?_
    rw [sOn_or h8 (sIk hI (show i < sM (abM (w.1 69)) by omega)).2.2.2.2.2.2]
    refine J_istore_n (pc' := 25) dX7_onOnes_24 (Nat.le_of_ble_eq_true rfl) (jst1 rfl rfl) rfl ?_
    refine J_iinc (pc' := 28) dX7_onOnes_25 rfl (Nat.le_of_ble_eq_true rfl) (jst2 rfl rfl) rfl ?_
    refine J_goto (pc' := 0) 4 dX7_onOnes_28 (by decide) ?_
    have h2 := ih (i + 1) (by omega)
    rw [← z1 i] at h2
    exact h2
set_option maxHeartbeats 4000000 in
set_option maxRecDepth 100000 in
theorem k_mon {G : jG} {w : jWd} (hI : sInv (abM (w.1 69))) : jKd G 1 yX7_onOnes cX7_onOnes 3 (some .int) [.ref 68] w (some (.int (nI (sSet (abM (w.1 69)))))) w := by
  refine jK_of (own := RX7) [some (.ref 68), none, none] pn7 rfl (Nat.le_of_ble_eq_true rfl) rfl ?_
  refine J_iconst (v := 0) (pc' := 1) dX7_onOnes_0 (by decide) rfl ?_
  refine J_istore_n (pc' := 2) dX7_onOnes_1 (Nat.le_of_ble_eq_true rfl) (jst1 rfl rfl) rfl ?_
  refine J_iconst (v := 0) (pc' := 3) dX7_onOnes_2 (by decide) rfl ?_
  refine J_istore_n (pc' := 4) dX7_onOnes_3 (Nat.le_of_ble_eq_true rfl) (jst2 rfl rfl) rfl ?_
  exact l_mon hI (sM (abM (w.1 69))) 0 (by omega)
set_option maxHeartbeats 4000000 in
set_option maxRecDepth 100000 in
theorem l_mto {G : jG} {w : jWd} (hI : sInv (abM (w.1 69))) {k : Nat} (hk : k < 8) : ∀ n i : Nat, i + n = sM (abM (w.1 69)) → J G (jM G 1 RX7 cX7_touching 5 (some .int) (fun r' w' => r' = some (.int (nI (sTou (abM (w.1 69)) ((abM (w.1 69)) 3 k) (sM (abM (w.1 69)))))) ∧ w' = w)) w 4 [some (.ref 68), some (.int (nI k)), some (.int (nI (sTou (abM (w.1 69)) ((abM (w.1 69)) 3 k) i))), some (.int (nI i)), none] [] := by
  have hM : w.1 69 2 = nI (sM (abM (w.1 69))) := (sIM hI).1
  have hM8 := (sIM hI).2
  intro n
  induction n with
  | zero =>
    intro i hi
    refine J_iload_n (pc' := 5) dX7_touching_4 rfl rfl ?_
    refine J_aload_n (pc' := 6) dX7_touching_5 rfl rfl ?_
    refine J_getR (pc' := 9) dX7_touching_6 fl_7_9 (ly_68) (l84_68) rfl rfl ?_
    refine J_iconst (v := 2) (pc' := 10) dX7_touching_9 (by decide) rfl ?_
    refine J_iald 2 (pc' := 11) dX7_touching_10 (ly_69) (l84_69) nIc_2 (by decide) (by decide) rfl ?_
    rw [hM]
    refine J_icmp_ge 80 (pc' := 14) dX7_touching_11 (by decide) rfl (fun h_11 => ?_) (fun h_11 => absurd (nI_le (by omega) (by omega)) h_11)
    refine J_iload_n (pc' := 81) dX7_touching_80 rfl rfl ?_
    have ei : i = sM (abM (w.1 69)) := by omega
    subst ei
    exact J_iret dX7_touching_81  ⟨rfl, rfl⟩
  | succ n ih =>
    intro i hi
    have h8 : i < 8 := by omega
    refine J_iload_n (pc' := 5) dX7_touching_4 rfl rfl ?_
    refine J_aload_n (pc' := 6) dX7_touching_5 rfl rfl ?_
    refine J_getR (pc' := 9) dX7_touching_6 fl_7_9 (ly_68) (l84_68) rfl rfl ?_
    refine J_iconst (v := 2) (pc' := 10) dX7_touching_9 (by decide) rfl ?_
    refine J_iald 2 (pc' := 11) dX7_touching_10 (ly_69) (l84_69) nIc_2 (by decide) (by decide) rfl ?_
    rw [hM]
    refine J_icmp_ge 80 (pc' := 14) dX7_touching_11 (by decide) rfl (fun h_11 => absurd h_11 (nI_ge (by omega) (by omega))) (fun h_11 => ?_)
    refine J_aload_n (pc' := 15) dX7_touching_14 rfl rfl ?_
    refine J_iload_n (pc' := 16) dX7_touching_15 rfl rfl ?_
    refine J_iconst (v := 2) (pc' := 17) dX7_touching_16 (by decide) rfl ?_
    refine J_V2v (pc' := 20) dX7_touching_17 lk_7_65 cd_X7_of (k_mof2 h8) (ly_68) (l84_68) rfl rfl (jroom_of rfl) (Nat.le_of_ble_eq_true rfl) rfl ?_
    refine J_aload_n (pc' := 21) dX7_touching_20 rfl rfl ?_
    refine J_iload_n (pc' := 22) dX7_touching_21 rfl rfl ?_
    refine J_iconst (v := 3) (pc' := 23) dX7_touching_22 (by decide) rfl ?_
    refine J_V2v (pc' := 26) dX7_touching_23 lk_7_65 cd_X7_of (k_mof3 hk) (ly_68) (l84_68) rfl rfl (jroom_of rfl) (Nat.le_of_ble_eq_true rfl) rfl ?_
    refine J_icmp_eq 44 (pc' := 29) dX7_touching_26 (by decide) rfl (fun h_26 => ?_) (fun h_26 => ?_)
    · refine J_iconst (v := 1) (pc' := 45) dX7_touching_44 (by decide) rfl ?_
      refine J_goto (pc' := 0) 49 dX7_touching_45 (by decide) ?_
      refine J_istore (pc' := 51) dX7_touching_49 (Nat.le_of_ble_eq_true rfl) (jst4 rfl rfl) rfl ?_
      refine J_iload_n (pc' := 52) dX7_touching_51 rfl rfl ?_
      refine J_iload (pc' := 54) dX7_touching_52 rfl rfl ?_
      refine J_if_eq 71 (pc' := 57) dX7_touching_54 (by decide) rfl (fun h_54 => absurd h_54 (by decide)) (fun h_54 => ?_)
      refine J_aload_n (pc' := 58) dX7_touching_57 rfl rfl ?_
      refine J_iload_n (pc' := 59) dX7_touching_58 rfl rfl ?_
      refine J_iconst (v := 5) (pc' := 60) dX7_touching_59 (by decide) rfl ?_
      refine J_V2v (pc' := 63) dX7_touching_60 lk_7_65 cd_X7_of (k_mof5 h8) (ly_68) (l84_68) rfl rfl (jroom_of rfl) (Nat.le_of_ble_eq_true rfl) rfl ?_
      refine J_iconst (v := 1) (pc' := 64) dX7_touching_63 (by decide) rfl ?_
      refine J_icmp_ne 71 (pc' := 67) dX7_touching_64 (by decide) rfl (fun h_64 => ?_) (fun h_64 => ?_)
      · refine J_iconst (v := 0) (pc' := 72) dX7_touching_71 (by decide) rfl ?_
        refine J_iadd (pc' := 73) dX7_touching_72 rfl ?_
        first | rw [nI_1] | rw [show (nI (sTou (abM (w.1 69)) ((abM (w.1 69)) 3 k) i) + 0 : Int32) = nI (sTou (abM (w.1 69)) ((abM (w.1 69)) 3 k) i) from by rw [nIc_0, nI_add, Nat.add_zero]]
        refine J_istore_n (pc' := 74) dX7_touching_73 (Nat.le_of_ble_eq_true rfl) (jst2 rfl rfl) rfl ?_
        refine J_iinc (pc' := 77) dX7_touching_74 rfl (Nat.le_of_ble_eq_true rfl) (jst3 rfl rfl) rfl ?_
        refine J_goto (pc' := 0) 4 dX7_touching_77 (by decide) ?_
        have e : sTou (abM (w.1 69)) ((abM (w.1 69)) 3 k) (i + 1) = sTou (abM (w.1 69)) ((abM (w.1 69)) 3 k) i := by rw [sTou, if_neg (show ¬ ((abM (w.1 69)) 5 i = 1 ∧ ((abM (w.1 69)) 2 i = (abM (w.1 69)) 3 k ∨ (abM (w.1 69)) 3 i = (abM (w.1 69)) 3 k)) from fun q => by first | exact q.2.elim h_26 h_41 | exact h_64 q.1), Nat.add_zero]
        have h2 := ih (i + 1) (by omega)
        rw [e, ← z1 i] at h2
        exact J_mask [true, true, true, true, false] h2
      · refine J_iconst (v := 1) (pc' := 68) dX7_touching_67 (by decide) rfl ?_
        refine J_goto (pc' := 0) 72 dX7_touching_68 (by decide) ?_
        refine J_iadd (pc' := 73) dX7_touching_72 rfl ?_
        first | rw [nI_1] | rw [show (nI (sTou (abM (w.1 69)) ((abM (w.1 69)) 3 k) i) + 0 : Int32) = nI (sTou (abM (w.1 69)) ((abM (w.1 69)) 3 k) i) from by rw [nIc_0, nI_add, Nat.add_zero]]
        refine J_istore_n (pc' := 74) dX7_touching_73 (Nat.le_of_ble_eq_true rfl) (jst2 rfl rfl) rfl ?_
        refine J_iinc (pc' := 77) dX7_touching_74 rfl (Nat.le_of_ble_eq_true rfl) (jst3 rfl rfl) rfl ?_
        refine J_goto (pc' := 0) 4 dX7_touching_77 (by decide) ?_
        have e : sTou (abM (w.1 69)) ((abM (w.1 69)) 3 k) (i + 1) = sTou (abM (w.1 69)) ((abM (w.1 69)) 3 k) i + 1 := by rw [sTou, if_pos (show (abM (w.1 69)) 5 i = 1 ∧ ((abM (w.1 69)) 2 i = (abM (w.1 69)) 3 k ∨ (abM (w.1 69)) 3 i = (abM (w.1 69)) 3 k) from ⟨by first | exact h_64 | exact Decidable.not_not.mp h_64, by first | exact Or.inl h_26 | exact Or.inr h_41 | exact Or.inr (Decidable.not_not.mp h_41)⟩)]
        have h2 := ih (i + 1) (by omega)
        rw [e, ← z1 i] at h2
        exact J_mask [true, true, true, true, false] h2
    · refine J_aload_n (pc' := 30) dX7_touching_29 rfl rfl ?_
      refine J_iload_n (pc' := 31) dX7_touching_30 rfl rfl ?_
      refine J_iconst (v := 3) (pc' := 32) dX7_touching_31 (by decide) rfl ?_
      refine J_V2v (pc' := 35) dX7_touching_32 lk_7_65 cd_X7_of (k_mof3 h8) (ly_68) (l84_68) rfl rfl (jroom_of rfl) (Nat.le_of_ble_eq_true rfl) rfl ?_
      refine J_aload_n (pc' := 36) dX7_touching_35 rfl rfl ?_
      refine J_iload_n (pc' := 37) dX7_touching_36 rfl rfl ?_
      refine J_iconst (v := 3) (pc' := 38) dX7_touching_37 (by decide) rfl ?_
      refine J_V2v (pc' := 41) dX7_touching_38 lk_7_65 cd_X7_of (k_mof3 hk) (ly_68) (l84_68) rfl rfl (jroom_of rfl) (Nat.le_of_ble_eq_true rfl) rfl ?_
      refine J_icmp_ne 48 (pc' := 44) dX7_touching_41 (by decide) rfl (fun h_41 => ?_) (fun h_41 => ?_)
      · refine J_iconst (v := 0) (pc' := 49) dX7_touching_48 (by decide) rfl ?_
        refine J_istore (pc' := 51) dX7_touching_49 (Nat.le_of_ble_eq_true rfl) (jst4 rfl rfl) rfl ?_
        refine J_iload_n (pc' := 52) dX7_touching_51 rfl rfl ?_
        refine J_iload (pc' := 54) dX7_touching_52 rfl rfl ?_
        refine J_if_eq 71 (pc' := 57) dX7_touching_54 (by decide) rfl (fun h_54 => ?_) (fun h_54 => absurd rfl h_54)
        refine J_iconst (v := 0) (pc' := 72) dX7_touching_71 (by decide) rfl ?_
        refine J_iadd (pc' := 73) dX7_touching_72 rfl ?_
        first | rw [nI_1] | rw [show (nI (sTou (abM (w.1 69)) ((abM (w.1 69)) 3 k) i) + 0 : Int32) = nI (sTou (abM (w.1 69)) ((abM (w.1 69)) 3 k) i) from by rw [nIc_0, nI_add, Nat.add_zero]]
        refine J_istore_n (pc' := 74) dX7_touching_73 (Nat.le_of_ble_eq_true rfl) (jst2 rfl rfl) rfl ?_
        refine J_iinc (pc' := 77) dX7_touching_74 rfl (Nat.le_of_ble_eq_true rfl) (jst3 rfl rfl) rfl ?_
        refine J_goto (pc' := 0) 4 dX7_touching_77 (by decide) ?_
        have e : sTou (abM (w.1 69)) ((abM (w.1 69)) 3 k) (i + 1) = sTou (abM (w.1 69)) ((abM (w.1 69)) 3 k) i := by rw [sTou, if_neg (show ¬ ((abM (w.1 69)) 5 i = 1 ∧ ((abM (w.1 69)) 2 i = (abM (w.1 69)) 3 k ∨ (abM (w.1 69)) 3 i = (abM (w.1 69)) 3 k)) from fun q => by first | exact q.2.elim h_26 h_41 | exact h_64 q.1), Nat.add_zero]
        have h2 := ih (i + 1) (by omega)
        rw [e, ← z1 i] at h2
        exact J_mask [true, true, true, true, false] h2
      · refine J_iconst (v := 1) (pc' := 45) dX7_touching_44 (by decide) rfl ?_
        refine J_goto (pc' := 0) 49 dX7_touching_45 (by decide) ?_
        refine J_istore (pc' := 51) dX7_touching_49 (Nat.le_of_ble_eq_true rfl) (jst4 rfl rfl) rfl ?_
        refine J_iload_n (pc' := 52) dX7_touching_51 rfl rfl ?_
        refine J_iload (pc' := 54) dX7_touching_52 rfl rfl ?_
        refine J_if_eq 71 (pc' := 57) dX7_touching_54 (by decide) rfl (fun h_54 => absurd h_54 (by decide)) (fun h_54 => ?_)
        refine J_aload_n (pc' := 58) dX7_touching_57 rfl rfl ?_
        refine J_iload_n (pc' := 59) dX7_touching_58 rfl rfl ?_
        refine J_iconst (v := 5) (pc' := 60) dX7_touching_59 (by decide) rfl ?_
        refine J_V2v (pc' := 63) dX7_touching_60 lk_7_65 cd_X7_of (k_mof5 h8) (ly_68) (l84_68) rfl rfl (jroom_of rfl) (Nat.le_of_ble_eq_true rfl) rfl ?_
        refine J_iconst (v := 1) (pc' := 64) dX7_touching_63 (by decide) rfl ?_
        refine J_icmp_ne 71 (pc' := 67) dX7_touching_64 (by decide) rfl (fun h_64 => ?_) (fun h_64 => ?_)
        · refine J_iconst (v := 0) (pc' := 72) dX7_touching_71 (by decide) rfl ?_
          refine J_iadd (pc' := 73) dX7_touching_72 rfl ?_
          first | rw [nI_1] | rw [show (nI (sTou (abM (w.1 69)) ((abM (w.1 69)) 3 k) i) + 0 : Int32) = nI (sTou (abM (w.1 69)) ((abM (w.1 69)) 3 k) i) from by rw [nIc_0, nI_add, Nat.add_zero]]
          refine J_istore_n (pc' := 74) dX7_touching_73 (Nat.le_of_ble_eq_true rfl) (jst2 rfl rfl) rfl ?_
          refine J_iinc (pc' := 77) dX7_touching_74 rfl (Nat.le_of_ble_eq_true rfl) (jst3 rfl rfl) rfl ?_
          refine J_goto (pc' := 0) 4 dX7_touching_77 (by decide) ?_
          have e : sTou (abM (w.1 69)) ((abM (w.1 69)) 3 k) (i + 1) = sTou (abM (w.1 69)) ((abM (w.1 69)) 3 k) i := by rw [sTou, if_neg (show ¬ ((abM (w.1 69)) 5 i = 1 ∧ ((abM (w.1 69)) 2 i = (abM (w.1 69)) 3 k ∨ (abM (w.1 69)) 3 i = (abM (w.1 69)) 3 k)) from fun q => by first | exact q.2.elim h_26 h_41 | exact h_64 q.1), Nat.add_zero]
          have h2 := ih (i + 1) (by omega)
          rw [e, ← z1 i] at h2
          exact J_mask [true, true, true, true, false] h2
        · refine J_iconst (v := 1) (pc' := 68) dX7_touching_67 (by decide) rfl ?_
          refine J_goto (pc' := 0) 72 dX7_touching_68 (by decide) ?_
          refine J_iadd (pc' := 73) dX7_touching_72 rfl ?_
          first | rw [nI_1] | rw [show (nI (sTou (abM (w.1 69)) ((abM (w.1 69)) 3 k) i) + 0 : Int32) = nI (sTou (abM (w.1 69)) ((abM (w.1 69)) 3 k) i) from by rw [nIc_0, nI_add, Nat.add_zero]]
          refine J_istore_n (pc' := 74) dX7_touching_73 (Nat.le_of_ble_eq_true rfl) (jst2 rfl rfl) rfl ?_
          refine J_iinc (pc' := 77) dX7_touching_74 rfl (Nat.le_of_ble_eq_true rfl) (jst3 rfl rfl) rfl ?_
          refine J_goto (pc' := 0) 4 dX7_touching_77 (by decide) ?_
          have e : sTou (abM (w.1 69)) ((abM (w.1 69)) 3 k) (i + 1) = sTou (abM (w.1 69)) ((abM (w.1 69)) 3 k) i + 1 := by rw [sTou, if_pos (show (abM (w.1 69)) 5 i = 1 ∧ ((abM (w.1 69)) 2 i = (abM (w.1 69)) 3 k ∨ (abM (w.1 69)) 3 i = (abM (w.1 69)) 3 k) from ⟨by first | exact h_64 | exact Decidable.not_not.mp h_64, by first | exact Or.inl h_26 | exact Or.inr h_41 | exact Or.inr (Decidable.not_not.mp h_41)⟩)]
          have h2 := ih (i + 1) (by omega)
          rw [e, ← z1 i] at h2
          exact J_mask [true, true, true, true, false] h2
set_option maxHeartbeats 4000000 in
set_option maxRecDepth 100000 in
theorem k_mto {G : jG} {w : jWd} (hI : sInv (abM (w.1 69))) {k : Nat} (hk : k < 8) : jKd G 1 yX7_touching cX7_touching 5 (some .int) [.ref 68, .int (nI k)] w (some (.int (sTch (abM (w.1 69)) k))) w := by
  refine jK_of (own := RX7) [some (.ref 68), some (.int (nI k)), none, none, none] pn7 rfl (Nat.le_of_ble_eq_true rfl) rfl ?_
  refine J_iconst (v := 0) (pc' := 1) dX7_touching_0 (by decide) rfl ?_
  refine J_istore_n (pc' := 2) dX7_touching_1 (Nat.le_of_ble_eq_true rfl) (jst2 rfl rfl) rfl ?_
  refine J_iconst (v := 0) (pc' := 3) dX7_touching_2 (by decide) rfl ?_
  refine J_istore_n (pc' := 4) dX7_touching_3 (Nat.le_of_ble_eq_true rfl) (jst3 rfl rfl) rfl ?_
  exact l_mto hI hk (sM (abM (w.1 69))) 0 (by omega)
set_option maxHeartbeats 4000000 in
set_option maxRecDepth 100000 in
theorem k_mwb {G : jG} {w : jWd} (hI : sInv (abM (w.1 69))) {k : Nat} (hk : k < sM (abM (w.1 69))) : jKd G 2 yX7_weighsBy cX7_weighsBy 3 (some .int) [.ref 68, .int (nI k)] w (some (.int (sWd (abM (w.1 69)) k (sTch (abM (w.1 69)) k)))) w := by
  have h8 : k < 8 := Nat.lt_of_lt_of_le hk (sIM hI).2
  have hR : w.1 69 0 = nI (sR (abM (w.1 69))) := (sIR hI).1
  have hR2 := (sIR hI).2
  have hq2 : nI (sR (abM (w.1 69))) - nI (sR (abM (w.1 69))) / 2 * 2 = 0 ↔ sR (abM (w.1 69)) % 2 = 0 := by
    rw [show (2 : Int32) = nI 2 from by decide, zrem (by omega) (by decide) (by decide), show (0 : Int32) = nI 0 from by decide]
    exact nI_eq (by omega) (by omega)
  refine jK_of (own := RX7) [some (.ref 68), some (.int (nI k)), none] pn7 rfl (Nat.le_of_ble_eq_true rfl) rfl ?_
  refine J_aload_n (pc' := 1) dX7_weighsBy_0 rfl rfl ?_
  refine J_iload_n (pc' := 2) dX7_weighsBy_1 rfl rfl ?_
  refine J_V1v (pc' := 5) dX7_weighsBy_2 lk_7_69 cd_X7_touching (k_mto hI h8) (ly_68) (l84_68) rfl rfl (jroom_of rfl) (Nat.le_of_ble_eq_true rfl) rfl ?_
  refine J_iconst (v := 3) (pc' := 6) dX7_weighsBy_5 (by decide) rfl ?_
  refine J_icmp_le 13 (pc' := 9) dX7_weighsBy_6 (by decide) rfl (fun h_6 => ?_) (fun h_6 => ?_)
  · refine J_iconst (v := 3) (pc' := 14) dX7_weighsBy_13 (by decide) rfl ?_
    refine J_istore_n (pc' := 15) dX7_weighsBy_14 (Nat.le_of_ble_eq_true rfl) (jst2 rfl rfl) rfl ?_
    refine J_aload_n (pc' := 16) dX7_weighsBy_15 rfl rfl ?_
    refine J_iload_n (pc' := 17) dX7_weighsBy_16 rfl rfl ?_
    refine J_iconst (v := 0) (pc' := 18) dX7_weighsBy_17 (by decide) rfl ?_
    refine J_V2v (pc' := 21) dX7_weighsBy_18 lk_7_65 cd_X7_of (k_mof0 h8) (ly_68) (l84_68) rfl rfl (jroom_of rfl) (Nat.le_of_ble_eq_true rfl) rfl ?_
    by_cases e21_1 : (abM (w.1 69)) 0 k = 1
    · refine J_tabIn (pc' := 0) (off := 39) 60 dX7_weighsBy_21 (by rw [e21_1]; decide) (by rw [e21_1]; decide) (by rw [e21_1]; decide) (by decide) ?_
      refine J_iconst (v := 3) (pc' := 61) dX7_weighsBy_60 (by decide) rfl ?_
      exact J_iret dX7_weighsBy_61  ⟨jv (by unfold sWd; rw [if_pos e21_1]), rfl⟩
    by_cases e21_2 : (abM (w.1 69)) 0 k = 2
    · refine J_tabIn (pc' := 0) (off := 41) 62 dX7_weighsBy_21 (by rw [e21_2]; decide) (by rw [e21_2]; decide) (by rw [e21_2]; decide) (by decide) ?_
      refine J_iload_n (pc' := 63) dX7_weighsBy_62 rfl rfl ?_
      exact J_iret dX7_weighsBy_63  ⟨jv (by unfold sWd sStar; rw [if_neg e21_1, if_pos e21_2]; first | exact (if_pos (by first | exact h_6 | exact Int32.not_le.mp h_6)).symm | exact (if_neg (by first | exact h_6 | exact Int32.not_lt.mpr h_6)).symm), rfl⟩
    by_cases e21_3 : (abM (w.1 69)) 0 k = 3
    · refine J_tabIn (pc' := 0) (off := 43) 64 dX7_weighsBy_21 (by rw [e21_3]; decide) (by rw [e21_3]; decide) (by rw [e21_3]; decide) (by decide) ?_
      refine J_aload_n (pc' := 65) dX7_weighsBy_64 rfl rfl ?_
      refine J_iload_n (pc' := 66) dX7_weighsBy_65 rfl rfl ?_
      refine J_iconst (v := 1) (pc' := 67) dX7_weighsBy_66 (by decide) rfl ?_
      refine J_V2v (pc' := 70) dX7_weighsBy_67 lk_7_65 cd_X7_of (k_mof1 h8) (ly_68) (l84_68) rfl rfl (jroom_of rfl) (Nat.le_of_ble_eq_true rfl) rfl ?_
      refine J_iconst (v := 4) (pc' := 71) dX7_weighsBy_70 (by decide) rfl ?_
      refine J_icmp_le 78 (pc' := 74) dX7_weighsBy_71 (by decide) rfl (fun h_71 => ?_) (fun h_71 => ?_)
      · refine J_iconst (v := 2) (pc' := 79) dX7_weighsBy_78 (by decide) rfl ?_
        exact J_iret dX7_weighsBy_79  ⟨jv (by unfold sWd; rw [if_neg e21_1, if_neg e21_2, if_pos e21_3]; first | exact (if_pos (by first | exact h_71 | exact Int32.not_le.mp h_71)).symm | exact (if_neg (by first | exact h_71 | exact Int32.not_lt.mpr h_71)).symm), rfl⟩
      · refine J_iconst (v := 4) (pc' := 75) dX7_weighsBy_74 (by decide) rfl ?_
        refine J_goto (pc' := 0) 79 dX7_weighsBy_75 (by decide) ?_
        exact J_iret dX7_weighsBy_79  ⟨jv (by unfold sWd; rw [if_neg e21_1, if_neg e21_2, if_pos e21_3]; first | exact (if_pos (by first | exact h_71 | exact Int32.not_le.mp h_71)).symm | exact (if_neg (by first | exact h_71 | exact Int32.not_lt.mpr h_71)).symm), rfl⟩
    by_cases e21_4 : (abM (w.1 69)) 0 k = 4
    · refine J_tabIn (pc' := 0) (off := 59) 80 dX7_weighsBy_21 (by rw [e21_4]; decide) (by rw [e21_4]; decide) (by rw [e21_4]; decide) (by decide) ?_
      refine J_aload_n (pc' := 81) dX7_weighsBy_80 rfl rfl ?_
      refine J_getR (pc' := 84) dX7_weighsBy_81 fl_7_9 (ly_68) (l84_68) rfl rfl ?_
      refine J_iconst (v := 0) (pc' := 85) dX7_weighsBy_84 (by decide) rfl ?_
      refine J_iald 0 (pc' := 86) dX7_weighsBy_85 (ly_69) (l84_69) nIc_0 (by decide) (by decide) rfl ?_
      rw [hR]
      refine J_iconst (v := 2) (pc' := 87) dX7_weighsBy_86 (by decide) rfl ?_
      refine J_irem (pc' := 88) dX7_weighsBy_87 (by decide) rfl ?_
      refine J_if_ne 95 (pc' := 91) dX7_weighsBy_88 (by decide) rfl (fun h_88 => ?_) (fun h_88 => ?_)
      · refine J_iconst (v := 1) (pc' := 96) dX7_weighsBy_95 (by decide) rfl ?_
        exact J_iret dX7_weighsBy_96  ⟨jv (by unfold sWd; rw [if_neg e21_1, if_neg e21_2, if_neg e21_3, if_pos e21_4]; first | exact (if_pos (hq2.mp (by first | exact h_88 | exact Decidable.not_not.mp h_88))).symm | exact (if_neg (fun q => h_88 (hq2.mpr q))).symm), rfl⟩
      · refine J_iconst (v := 3) (pc' := 92) dX7_weighsBy_91 (by decide) rfl ?_
        refine J_goto (pc' := 0) 96 dX7_weighsBy_92 (by decide) ?_
        exact J_iret dX7_weighsBy_96  ⟨jv (by unfold sWd; rw [if_neg e21_1, if_neg e21_2, if_neg e21_3, if_pos e21_4]; first | exact (if_pos (hq2.mp (by first | exact h_88 | exact Decidable.not_not.mp h_88))).symm | exact (if_neg (fun q => h_88 (hq2.mpr q))).symm), rfl⟩
    by_cases e21_5 : (abM (w.1 69)) 0 k = 5
    · refine J_tabIn (pc' := 0) (off := 76) 97 dX7_weighsBy_21 (by rw [e21_5]; decide) (by rw [e21_5]; decide) (by rw [e21_5]; decide) (by decide) ?_
      refine J_iload_n (pc' := 98) dX7_weighsBy_97 rfl rfl ?_
      refine J_iconst (v := 1) (pc' := 99) dX7_weighsBy_98 (by decide) rfl ?_
      refine J_isub (pc' := 100) dX7_weighsBy_99 rfl ?_
      exact J_iret dX7_weighsBy_100  ⟨jv (by unfold sWd sStar; rw [if_neg e21_1, if_neg e21_2, if_neg e21_3, if_neg e21_4, if_pos e21_5]; first | rw [if_pos (by first | exact h_6 | exact Int32.not_le.mp h_6)] | rw [if_neg (by first | exact h_6 | exact Int32.not_lt.mpr h_6)]), rfl⟩
    by_cases e21_6 : (abM (w.1 69)) 0 k = 6
    · refine J_tabIn (pc' := 0) (off := 80) 101 dX7_weighsBy_21 (by rw [e21_6]; decide) (by rw [e21_6]; decide) (by rw [e21_6]; decide) (by decide) ?_
      refine J_iconst (v := 4) (pc' := 102) dX7_weighsBy_101 (by decide) rfl ?_
      exact J_iret dX7_weighsBy_102  ⟨jv (by unfold sWd; rw [if_neg e21_1, if_neg e21_2, if_neg e21_3, if_neg e21_4, if_neg e21_5, if_pos e21_6]), rfl⟩
    refine J_tabOut (pc' := 0) 103 dX7_weighsBy_21 (by have q0 := zneI e21_1 (k := 1) (by decide); have q1 := zneI e21_2 (k := 2) (by decide); have q2 := zneI e21_3 (k := 3) (by decide); have q3 := zneI e21_4 (k := 4) (by decide); have q4 := zneI e21_5 (k := 5) (by decide); have q5 := zneI e21_6 (k := 6) (by decide); omega) (by decide) ?_
    refine J_iconst (v := 2) (pc' := 104) dX7_weighsBy_103 (by decide) rfl ?_
    exact J_iret dX7_weighsBy_104  ⟨jv (by unfold sWd; rw [if_neg e21_1, if_neg e21_2, if_neg e21_3, if_neg e21_4, if_neg e21_5, if_neg e21_6]), rfl⟩
  · refine J_iconst (v := 1) (pc' := 10) dX7_weighsBy_9 (by decide) rfl ?_
    refine J_goto (pc' := 0) 14 dX7_weighsBy_10 (by decide) ?_
    refine J_istore_n (pc' := 15) dX7_weighsBy_14 (Nat.le_of_ble_eq_true rfl) (jst2 rfl rfl) rfl ?_
    refine J_aload_n (pc' := 16) dX7_weighsBy_15 rfl rfl ?_
    refine J_iload_n (pc' := 17) dX7_weighsBy_16 rfl rfl ?_
    refine J_iconst (v := 0) (pc' := 18) dX7_weighsBy_17 (by decide) rfl ?_
    refine J_V2v (pc' := 21) dX7_weighsBy_18 lk_7_65 cd_X7_of (k_mof0 h8) (ly_68) (l84_68) rfl rfl (jroom_of rfl) (Nat.le_of_ble_eq_true rfl) rfl ?_
    by_cases e21_1 : (abM (w.1 69)) 0 k = 1
    · refine J_tabIn (pc' := 0) (off := 39) 60 dX7_weighsBy_21 (by rw [e21_1]; decide) (by rw [e21_1]; decide) (by rw [e21_1]; decide) (by decide) ?_
      refine J_iconst (v := 3) (pc' := 61) dX7_weighsBy_60 (by decide) rfl ?_
      exact J_iret dX7_weighsBy_61  ⟨jv (by unfold sWd; rw [if_pos e21_1]), rfl⟩
    by_cases e21_2 : (abM (w.1 69)) 0 k = 2
    · refine J_tabIn (pc' := 0) (off := 41) 62 dX7_weighsBy_21 (by rw [e21_2]; decide) (by rw [e21_2]; decide) (by rw [e21_2]; decide) (by decide) ?_
      refine J_iload_n (pc' := 63) dX7_weighsBy_62 rfl rfl ?_
      exact J_iret dX7_weighsBy_63  ⟨jv (by unfold sWd sStar; rw [if_neg e21_1, if_pos e21_2]; first | exact (if_pos (by first | exact h_6 | exact Int32.not_le.mp h_6)).symm | exact (if_neg (by first | exact h_6 | exact Int32.not_lt.mpr h_6)).symm), rfl⟩
    by_cases e21_3 : (abM (w.1 69)) 0 k = 3
    · refine J_tabIn (pc' := 0) (off := 43) 64 dX7_weighsBy_21 (by rw [e21_3]; decide) (by rw [e21_3]; decide) (by rw [e21_3]; decide) (by decide) ?_
      refine J_aload_n (pc' := 65) dX7_weighsBy_64 rfl rfl ?_
      refine J_iload_n (pc' := 66) dX7_weighsBy_65 rfl rfl ?_
      refine J_iconst (v := 1) (pc' := 67) dX7_weighsBy_66 (by decide) rfl ?_
      refine J_V2v (pc' := 70) dX7_weighsBy_67 lk_7_65 cd_X7_of (k_mof1 h8) (ly_68) (l84_68) rfl rfl (jroom_of rfl) (Nat.le_of_ble_eq_true rfl) rfl ?_
      refine J_iconst (v := 4) (pc' := 71) dX7_weighsBy_70 (by decide) rfl ?_
      refine J_icmp_le 78 (pc' := 74) dX7_weighsBy_71 (by decide) rfl (fun h_71 => ?_) (fun h_71 => ?_)
      · refine J_iconst (v := 2) (pc' := 79) dX7_weighsBy_78 (by decide) rfl ?_
        exact J_iret dX7_weighsBy_79  ⟨jv (by unfold sWd; rw [if_neg e21_1, if_neg e21_2, if_pos e21_3]; first | exact (if_pos (by first | exact h_71 | exact Int32.not_le.mp h_71)).symm | exact (if_neg (by first | exact h_71 | exact Int32.not_lt.mpr h_71)).symm), rfl⟩
      · refine J_iconst (v := 4) (pc' := 75) dX7_weighsBy_74 (by decide) rfl ?_
        refine J_goto (pc' := 0) 79 dX7_weighsBy_75 (by decide) ?_
        exact J_iret dX7_weighsBy_79  ⟨jv (by unfold sWd; rw [if_neg e21_1, if_neg e21_2, if_pos e21_3]; first | exact (if_pos (by first | exact h_71 | exact Int32.not_le.mp h_71)).symm | exact (if_neg (by first | exact h_71 | exact Int32.not_lt.mpr h_71)).symm), rfl⟩
    by_cases e21_4 : (abM (w.1 69)) 0 k = 4
    · refine J_tabIn (pc' := 0) (off := 59) 80 dX7_weighsBy_21 (by rw [e21_4]; decide) (by rw [e21_4]; decide) (by rw [e21_4]; decide) (by decide) ?_
      refine J_aload_n (pc' := 81) dX7_weighsBy_80 rfl rfl ?_
      refine J_getR (pc' := 84) dX7_weighsBy_81 fl_7_9 (ly_68) (l84_68) rfl rfl ?_
      refine J_iconst (v := 0) (pc' := 85) dX7_weighsBy_84 (by decide) rfl ?_
      refine J_iald 0 (pc' := 86) dX7_weighsBy_85 (ly_69) (l84_69) nIc_0 (by decide) (by decide) rfl ?_
      rw [hR]
      refine J_iconst (v := 2) (pc' := 87) dX7_weighsBy_86 (by decide) rfl ?_
      refine J_irem (pc' := 88) dX7_weighsBy_87 (by decide) rfl ?_
      refine J_if_ne 95 (pc' := 91) dX7_weighsBy_88 (by decide) rfl (fun h_88 => ?_) (fun h_88 => ?_)
      · refine J_iconst (v := 1) (pc' := 96) dX7_weighsBy_95 (by decide) rfl ?_
        exact J_iret dX7_weighsBy_96  ⟨jv (by unfold sWd; rw [if_neg e21_1, if_neg e21_2, if_neg e21_3, if_pos e21_4]; first | exact (if_pos (hq2.mp (by first | exact h_88 | exact Decidable.not_not.mp h_88))).symm | exact (if_neg (fun q => h_88 (hq2.mpr q))).symm), rfl⟩
      · refine J_iconst (v := 3) (pc' := 92) dX7_weighsBy_91 (by decide) rfl ?_
        refine J_goto (pc' := 0) 96 dX7_weighsBy_92 (by decide) ?_
        exact J_iret dX7_weighsBy_96  ⟨jv (by unfold sWd; rw [if_neg e21_1, if_neg e21_2, if_neg e21_3, if_pos e21_4]; first | exact (if_pos (hq2.mp (by first | exact h_88 | exact Decidable.not_not.mp h_88))).symm | exact (if_neg (fun q => h_88 (hq2.mpr q))).symm), rfl⟩
    by_cases e21_5 : (abM (w.1 69)) 0 k = 5
    · refine J_tabIn (pc' := 0) (off := 76) 97 dX7_weighsBy_21 (by rw [e21_5]; decide) (by rw [e21_5]; decide) (by rw [e21_5]; decide) (by decide) ?_
      refine J_iload_n (pc' := 98) dX7_weighsBy_97 rfl rfl ?_
      refine J_iconst (v := 1) (pc' := 99) dX7_weighsBy_98 (by decide) rfl ?_
      refine J_isub (pc' := 100) dX7_weighsBy_99 rfl ?_
      exact J_iret dX7_weighsBy_100  ⟨jv (by unfold sWd sStar; rw [if_neg e21_1, if_neg e21_2, if_neg e21_3, if_neg e21_4, if_pos e21_5]; first | rw [if_pos (by first | exact h_6 | exact Int32.not_le.mp h_6)] | rw [if_neg (by first | exact h_6 | exact Int32.not_lt.mpr h_6)]), rfl⟩
    by_cases e21_6 : (abM (w.1 69)) 0 k = 6
    · refine J_tabIn (pc' := 0) (off := 80) 101 dX7_weighsBy_21 (by rw [e21_6]; decide) (by rw [e21_6]; decide) (by rw [e21_6]; decide) (by decide) ?_
      refine J_iconst (v := 4) (pc' := 102) dX7_weighsBy_101 (by decide) rfl ?_
      exact J_iret dX7_weighsBy_102  ⟨jv (by unfold sWd; rw [if_neg e21_1, if_neg e21_2, if_neg e21_3, if_neg e21_4, if_neg e21_5, if_pos e21_6]), rfl⟩
    refine J_tabOut (pc' := 0) 103 dX7_weighsBy_21 (by have q0 := zneI e21_1 (k := 1) (by decide); have q1 := zneI e21_2 (k := 2) (by decide); have q2 := zneI e21_3 (k := 3) (by decide); have q3 := zneI e21_4 (k := 4) (by decide); have q4 := zneI e21_5 (k := 5) (by decide); have q5 := zneI e21_6 (k := 6) (by decide); omega) (by decide) ?_
    refine J_iconst (v := 2) (pc' := 104) dX7_weighsBy_103 (by decide) rfl ?_
    exact J_iret dX7_weighsBy_104  ⟨jv (by unfold sWd; rw [if_neg e21_1, if_neg e21_2, if_neg e21_3, if_neg e21_4, if_neg e21_5, if_neg e21_6]), rfl⟩
set_option maxHeartbeats 4000000 in
set_option maxRecDepth 100000 in
theorem k_mrb {G : jG} {w : jWd} (hI : sInv (abM (w.1 69))) {k : Nat} (hk : k < sM (abM (w.1 69))) : jKd G 1 yX7_readBy cX7_readBy 3 (some .int) [.ref 68, .int (nI k)] w (some (.int (sRd (abM (w.1 69)) k))) w := by
  have h8 : k < 8 := Nat.lt_of_lt_of_le hk (sIM hI).2
  obtain ⟨⟨_, _⟩, ⟨hm0, hm9⟩, _, _, _, _, _⟩ := sIk hI hk
  have hne : ¬ (abM (w.1 69)) 1 k + 1 = 0 := by
    obtain ⟨n, hn⟩ : ∃ n : Nat, ((abM (w.1 69)) 1 k).toInt = n := ⟨((abM (w.1 69)) 1 k).toInt.toNat, by omega⟩
    have e : (abM (w.1 69)) 1 k = nI n := Int32.toInt_inj.mp (by rw [hn, nI_toInt (by omega)])
    rw [e, nI_1]
    exact nI_ne0 (by omega) (by omega)
  refine jK_of (own := RX7) [some (.ref 68), some (.int (nI k)), none] pn7 rfl (Nat.le_of_ble_eq_true rfl) rfl ?_
  refine J_aload_n (pc' := 1) dX7_readBy_0 rfl rfl ?_
  refine J_iload_n (pc' := 2) dX7_readBy_1 rfl rfl ?_
  refine J_iconst (v := 4) (pc' := 3) dX7_readBy_2 (by decide) rfl ?_
  refine J_V2v (pc' := 6) dX7_readBy_3 lk_7_65 cd_X7_of (k_mof4 h8) (ly_68) (l84_68) rfl rfl (jroom_of rfl) (Nat.le_of_ble_eq_true rfl) rfl ?_
  refine J_istore_n (pc' := 7) dX7_readBy_6 (Nat.le_of_ble_eq_true rfl) (jst2 rfl rfl) rfl ?_
  refine J_aload_n (pc' := 8) dX7_readBy_7 rfl rfl ?_
  refine J_iload_n (pc' := 9) dX7_readBy_8 rfl rfl ?_
  refine J_iconst (v := 0) (pc' := 10) dX7_readBy_9 (by decide) rfl ?_
  refine J_V2v (pc' := 13) dX7_readBy_10 lk_7_65 cd_X7_of (k_mof0 h8) (ly_68) (l84_68) rfl rfl (jroom_of rfl) (Nat.le_of_ble_eq_true rfl) rfl ?_
  by_cases e13_3 : (abM (w.1 69)) 0 k = 3
  · refine J_tabIn (pc' := 0) (off := 31) 44 dX7_readBy_13 (by rw [e13_3]; decide) (by rw [e13_3]; decide) (by rw [e13_3]; decide) (by decide) ?_
    refine J_iload_n (pc' := 45) dX7_readBy_44 rfl rfl ?_
    refine J_aload_n (pc' := 46) dX7_readBy_45 rfl rfl ?_
    refine J_iload_n (pc' := 47) dX7_readBy_46 rfl rfl ?_
    refine J_iconst (v := 1) (pc' := 48) dX7_readBy_47 (by decide) rfl ?_
    refine J_V2v (pc' := 51) dX7_readBy_48 lk_7_65 cd_X7_of (k_mof1 h8) (ly_68) (l84_68) rfl rfl (jroom_of rfl) (Nat.le_of_ble_eq_true rfl) rfl ?_
    refine J_iconst (v := 3) (pc' := 52) dX7_readBy_51 (by decide) rfl ?_
    refine J_irem (pc' := 53) dX7_readBy_52 (by decide) rfl ?_
    refine J_iadd (pc' := 54) dX7_readBy_53 rfl ?_
    refine J_iconst (v := 1) (pc' := 55) dX7_readBy_54 (by decide) rfl ?_
    refine J_isub (pc' := 56) dX7_readBy_55 rfl ?_
    exact J_iret dX7_readBy_56  ⟨jv (by unfold sRd; rw [if_pos e13_3]), rfl⟩
  by_cases e13_4 : (abM (w.1 69)) 0 k = 4
  · refine J_tabIn (pc' := 0) (off := 44) 57 dX7_readBy_13 (by rw [e13_4]; decide) (by rw [e13_4]; decide) (by rw [e13_4]; decide) (by decide) ?_
    refine J_iload_n (pc' := 58) dX7_readBy_57 rfl rfl ?_
    refine J_aload_n (pc' := 59) dX7_readBy_58 rfl rfl ?_
    refine J_getR (pc' := 62) dX7_readBy_59 fl_7_9 (ly_68) (l84_68) rfl rfl ?_
    refine J_iconst (v := 0) (pc' := 63) dX7_readBy_62 (by decide) rfl ?_
    refine J_iald 0 (pc' := 64) dX7_readBy_63 (ly_69) (l84_69) nIc_0 (by decide) (by decide) rfl ?_
    refine J_aload_n (pc' := 65) dX7_readBy_64 rfl rfl ?_
    refine J_iload_n (pc' := 66) dX7_readBy_65 rfl rfl ?_
    refine J_iconst (v := 1) (pc' := 67) dX7_readBy_66 (by decide) rfl ?_
    refine J_V2v (pc' := 70) dX7_readBy_67 lk_7_65 cd_X7_of (k_mof1 h8) (ly_68) (l84_68) rfl rfl (jroom_of rfl) (Nat.le_of_ble_eq_true rfl) rfl ?_
    refine J_iconst (v := 1) (pc' := 71) dX7_readBy_70 (by decide) rfl ?_
    refine J_iadd (pc' := 72) dX7_readBy_71 rfl ?_
    refine J_irem (pc' := 73) dX7_readBy_72 hne rfl ?_
    refine J_iadd (pc' := 74) dX7_readBy_73 rfl ?_
    exact J_iret dX7_readBy_74  ⟨jv (by unfold sRd; rw [if_neg e13_3, if_pos e13_4]; rfl), rfl⟩
  by_cases e13_5 : (abM (w.1 69)) 0 k = 5
  · refine J_tabIn (pc' := 0) (off := 62) 75 dX7_readBy_13 (by rw [e13_5]; decide) (by rw [e13_5]; decide) (by rw [e13_5]; decide) (by decide) ?_
    refine J_iconst (v := 2) (pc' := 76) dX7_readBy_75 (by decide) rfl ?_
    refine J_iload_n (pc' := 77) dX7_readBy_76 rfl rfl ?_
    refine J_iconst (v := 2) (pc' := 78) dX7_readBy_77 (by decide) rfl ?_
    refine J_idiv (pc' := 79) dX7_readBy_78 (by decide) rfl ?_
    refine J_imul (pc' := 80) dX7_readBy_79 rfl ?_
    exact J_iret dX7_readBy_80  ⟨jv (by unfold sRd; rw [if_neg e13_3, if_neg e13_4, if_pos e13_5]), rfl⟩
  by_cases e13_6 : (abM (w.1 69)) 0 k = 6
  · refine J_tabIn (pc' := 0) (off := 68) 81 dX7_readBy_13 (by rw [e13_6]; decide) (by rw [e13_6]; decide) (by rw [e13_6]; decide) (by decide) ?_
    refine J_iload_n (pc' := 82) dX7_readBy_81 rfl rfl ?_
    refine J_if_ge 89 (pc' := 85) dX7_readBy_82 (by decide) rfl (fun h_82 => ?_) (fun h_82 => ?_)
    · refine J_iload_n (pc' := 90) dX7_readBy_89 rfl rfl ?_
      refine J_aload_n (pc' := 91) dX7_readBy_90 rfl rfl ?_
      refine J_iload_n (pc' := 92) dX7_readBy_91 rfl rfl ?_
      refine J_iconst (v := 1) (pc' := 93) dX7_readBy_92 (by decide) rfl ?_
      refine J_V2v (pc' := 96) dX7_readBy_93 lk_7_65 cd_X7_of (k_mof1 h8) (ly_68) (l84_68) rfl rfl (jroom_of rfl) (Nat.le_of_ble_eq_true rfl) rfl ?_
      refine J_isub (pc' := 97) dX7_readBy_96 rfl ?_
      exact J_iret dX7_readBy_97  ⟨jv (by unfold sRd; rw [if_neg e13_3, if_neg e13_4, if_neg e13_5, if_pos e13_6]; first | rw [if_pos (by first | exact h_82 | exact Int32.not_le.mp h_82)] | rw [if_neg (by first | exact h_82 | exact Int32.not_lt.mpr h_82)]), rfl⟩
    · refine J_iconst (v := 0) (pc' := 86) dX7_readBy_85 (by decide) rfl ?_
      refine J_goto (pc' := 0) 90 dX7_readBy_86 (by decide) ?_
      refine J_aload_n (pc' := 91) dX7_readBy_90 rfl rfl ?_
      refine J_iload_n (pc' := 92) dX7_readBy_91 rfl rfl ?_
      refine J_iconst (v := 1) (pc' := 93) dX7_readBy_92 (by decide) rfl ?_
      refine J_V2v (pc' := 96) dX7_readBy_93 lk_7_65 cd_X7_of (k_mof1 h8) (ly_68) (l84_68) rfl rfl (jroom_of rfl) (Nat.le_of_ble_eq_true rfl) rfl ?_
      refine J_isub (pc' := 97) dX7_readBy_96 rfl ?_
      exact J_iret dX7_readBy_97  ⟨jv (by unfold sRd; rw [if_neg e13_3, if_neg e13_4, if_neg e13_5, if_pos e13_6]; first | rw [if_pos (by first | exact h_82 | exact Int32.not_le.mp h_82)] | rw [if_neg (by first | exact h_82 | exact Int32.not_lt.mpr h_82)]), rfl⟩
  refine J_tabOut (pc' := 0) 98 dX7_readBy_13 (by have q0 := zneI e13_3 (k := 3) (by decide); have q1 := zneI e13_4 (k := 4) (by decide); have q2 := zneI e13_5 (k := 5) (by decide); have q3 := zneI e13_6 (k := 6) (by decide); omega) (by decide) ?_
  refine J_iload_n (pc' := 99) dX7_readBy_98 rfl rfl ?_
  exact J_iret dX7_readBy_99  ⟨jv (by unfold sRd; rw [if_neg e13_3, if_neg e13_4, if_neg e13_5, if_neg e13_6]), rfl⟩
