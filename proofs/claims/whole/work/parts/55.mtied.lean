/-! ===== the reference: what is tied ===== -/
/-! ===== the reference: what is tied ===== -/
theorem zStA : ∀ t, t < 16 → ∀ g, g < 4 → ((2 * t + 1) &&& (2 ^ 0 ||| 2 ^ (g + 1)) ≠ 0) ∧ 2 * (t ||| 2 ^ g) + 1 = (2 * t + 1) ||| (2 ^ 0 ||| 2 ^ (g + 1)) ∧ t ||| 2 ^ g < 16 ∧ (nI t ||| (((1 : Int32) <<< (nI g &&& 31)) ||| 0)) = nI (t ||| 2 ^ g) := by decide +kernel
theorem zStB : ∀ t, t < 16 → ∀ f, f < 4 → ∀ g, g < 4 → ((2 * t + 1) &&& (2 ^ (f + 1) ||| 2 ^ (g + 1)) ≠ 0 ↔ (t.testBit f = true ∨ t.testBit g = true)) ∧ 2 * (t ||| (2 ^ g ||| 2 ^ f)) + 1 = (2 * t + 1) ||| (2 ^ (f + 1) ||| 2 ^ (g + 1)) ∧ t ||| (2 ^ g ||| 2 ^ f) < 16 ∧ (nI t ||| (((1 : Int32) <<< (nI g &&& 31)) ||| ((1 : Int32) <<< (nI f &&& 31)))) = nI (t ||| (2 ^ g ||| 2 ^ f)) := by decide +kernel
theorem zTn {x : Int32} {f : Nat} (h : x = nI f) (hf : f < 4) : (x.toInt + 1).toNat = f + 1 := by rw [h, nI_toInt (by omega)]; omega
theorem sPass_s (σ : sg) (S n T : Nat) : sPass σ S (n + 1) T = if S.testBit n = true ∧ sPass σ S n T &&& (2 ^ ((σ 2 n).toInt + 1).toNat ||| 2 ^ ((σ 3 n).toInt + 1).toNat) ≠ 0 then sPass σ S n T ||| (2 ^ ((σ 2 n).toInt + 1).toNat ||| 2 ^ ((σ 3 n).toInt + 1).toNat) else sPass σ S n T := rfl
theorem pic_ex {x : Int32} {P : Nat} (hP : P ≤ 4) (h : 0 ≤ x.toInt ∧ x.toInt < (P : Int)) : ∃ g, g < 4 ∧ x = nI g := ⟨x.toInt.toNat, by omega, Int32.toInt_inj.mp (by rw [nI_toInt (by omega)]; omega)⟩
/-! as many passes as pictures are enough -/
def zCnt (T : Nat) : Nat := (T.testBit 0).toNat + (T.testBit 1).toNat + (T.testBit 2).toNat + (T.testBit 3).toNat + (T.testBit 4).toNat
theorem zCnt_lt : ∀ T, T < 32 → ∀ T', T' < 32 → T ||| T' = T' → T ≠ T' → zCnt T < zCnt T' := by decide +kernel
theorem zCnt_full : ∀ P, P ≤ 4 → ∀ T, T < 2 ^ (P + 1) → zCnt T ≤ P + 1 ∧ (P + 1 ≤ zCnt T → T = 2 ^ (P + 1) - 1) := by decide +kernel
theorem zFull : ∀ P, P ≤ 4 → ∀ T', T' < 2 ^ (P + 1) → (2 ^ (P + 1) - 1) ||| T' = T' → T' = 2 ^ (P + 1) - 1 := by decide +kernel
theorem sPass_in {σ : sg} {S : Nat} (hI : sInv σ) {T : Nat} (hT : T < 2 ^ (sP σ + 1)) : ∀ n, n ≤ sM σ → sPass σ S n T < 2 ^ (sP σ + 1) ∧ T ||| sPass σ S n T = sPass σ S n T
  | 0, _ => ⟨hT, Nat.or_self T⟩
  | n + 1, h => by
    obtain ⟨h1, h2⟩ := sPass_in hI hT n (by omega)
    obtain ⟨-, -, q2, q3, -⟩ := sIk hI (show n < sM σ by omega)
    rw [sPass_s]
    by_cases hc : S.testBit n = true ∧ sPass σ S n T &&& (2 ^ ((σ 2 n).toInt + 1).toNat ||| 2 ^ ((σ 3 n).toInt + 1).toNat) ≠ 0
    · rw [if_pos hc]
      refine ⟨Nat.or_lt_two_pow h1 (Nat.or_lt_two_pow (Nat.pow_lt_pow_right (by omega) (by omega)) (Nat.pow_lt_pow_right (by omega) (by omega))), ?_⟩
      rw [← Nat.or_assoc, h2]
    · rw [if_neg hc]; exact ⟨h1, h2⟩
theorem sPs_in {σ : sg} {S : Nat} (hI : sInv σ) : ∀ n, sPasses σ S n < 2 ^ (sP σ + 1)
  | 0 => by rw [sPasses]; exact Nat.one_lt_two_pow (by omega)
  | n + 1 => by rw [sPasses]; exact (sPass_in hI (sPs_in hI n) _ (Nat.le_refl _)).1
theorem sPs_fix {σ : sg} {S : Nat} {n : Nat} (h : sPasses σ S (n + 1) = sPasses σ S n) : ∀ m, sPasses σ S (n + m) = sPasses σ S n
  | 0 => rfl
  | m + 1 => by rw [← Nat.add_assoc, sPasses, sPs_fix h m, ← sPasses]; exact h
theorem sPs_grow {σ : sg} {S : Nat} (hI : sInv σ) : ∀ n, (∃ m, m ≤ n ∧ sPasses σ S (m + 1) = sPasses σ S m) ∨ n + 1 ≤ zCnt (sPasses σ S n)
  | 0 => Or.inr (by rw [sPasses]; decide)
  | n + 1 => by
    rcases sPs_grow hI n with ⟨m, h1, h2⟩ | h
    · exact Or.inl ⟨m, by omega, h2⟩
    · by_cases e : sPasses σ S (n + 1) = sPasses σ S n
      · exact Or.inl ⟨n, by omega, e⟩
      · have hP4 : 2 ^ (sP σ + 1) ≤ 32 := by rw [show 32 = 2 ^ 5 from rfl]; exact Nat.pow_le_pow_right (by omega) (by have := (sIP hI).2.2; omega)
        have h3 := sPs_in (S := S) hI n
        have h4 := sPs_in (S := S) hI (n + 1)
        have h5 := zCnt_lt (sPasses σ S n) (by omega) (sPasses σ S (n + 1)) (by omega) (by rw [sPasses]; exact (sPass_in hI h3 _ (Nat.le_refl _)).2) (fun q => e q.symm)
        exact Or.inr (by omega)
theorem sPs_P {σ : sg} {S : Nat} (hI : sInv σ) {n : Nat} (hn : sP σ ≤ n) : sPasses σ S n = sPasses σ S (sP σ) := by
  have hP := (sIP hI).2
  have hfix : ∃ m, m ≤ sP σ ∧ sPasses σ S (m + 1) = sPasses σ S m := by
    rcases sPs_grow (S := S) hI (sP σ) with h | h
    · exact h
    · have h3 := sPs_in (S := S) hI (sP σ)
      have e := (zCnt_full (sP σ) hP.2 _ h3).2 h
      refine ⟨sP σ, Nat.le_refl _, ?_⟩
      rw [sPasses]
      obtain ⟨q1, q2⟩ := sPass_in hI h3 (S := S) (sM σ) (Nat.le_refl _)
      rw [e] at q2 q1 ⊢
      exact zFull (sP σ) hP.2 _ q1 q2
  obtain ⟨m, hm, h⟩ := hfix
  have e1 := sPs_fix h (n - m)
  have e2 := sPs_fix h (sP σ - m)
  rw [show m + (n - m) = n by omega] at e1
  rw [show m + (sP σ - m) = sP σ by omega] at e2
  rw [e1, e2]
set_option maxHeartbeats 4000000 in
set_option maxRecDepth 100000 in
theorem l_mtin {G : jG} {w : jWd} (hI : sInv (abM (w.1 69))) {S : Nat} (hS : S < 256) {Q : Option Value → jWd → Prop} {T0 o : Nat} (hK : ∀ t, t < 16 → 2 * t + 1 = sPass (abM (w.1 69)) S (sM (abM (w.1 69))) T0 → J G (jM G 1 RX7 cX7_tiedBy 7 (some .int) (Q)) w 139 [some (.ref 68), some (.int (nI S)), some (.int (nI t)), some (.int (nI o)), some (.int (nI (sM (abM (w.1 69))))), none, none] []) : ∀ n j : Nat, j + n = sM (abM (w.1 69)) → ∀ t, t < 16 → 2 * t + 1 = sPass (abM (w.1 69)) S j T0 → J G (jM G 1 RX7 cX7_tiedBy 7 (some .int) (Q)) w 12 [some (.ref 68), some (.int (nI S)), some (.int (nI t)), some (.int (nI o)), some (.int (nI j)), none, none] [] := by
  have hM : w.1 69 2 = nI (sM (abM (w.1 69))) := (sIM hI).1
  have hM8 := (sIM hI).2
  intro n
  induction n with
  | zero =>
    intro j hj t ht hT
    obtain rfl : j = sM (abM (w.1 69)) := by omega
    refine J_iload (pc' := 14) dX7_tiedBy_12 rfl rfl ?_
    refine J_aload_n (pc' := 15) dX7_tiedBy_14 rfl rfl ?_
    refine J_getR (pc' := 18) dX7_tiedBy_15 fl_7_9 (ly_68) (l84_68) rfl rfl ?_
    refine J_iconst (v := 2) (pc' := 19) dX7_tiedBy_18 (by decide) rfl ?_
    refine J_iald 2 (pc' := 20) dX7_tiedBy_19 (ly_69) (l84_69) nIc_2 (by decide) (by decide) rfl ?_
    refine J_icmp_ge 139 (pc' := 23) dX7_tiedBy_20 (by decide) rfl (fun h_20 => ?_) (fun h_20 => absurd (by rw [hM]; exact nI_le (by omega) (by omega)) h_20)
    exact J_mask [true, true, true, true, true, false, false] (hK t ht hT)
  | succ n ih =>
    intro j hj t ht hT
    have h8 : j < 8 := by omega
    obtain ⟨-, -, q2, q3, -⟩ := sIk hI (show j < sM (abM (w.1 69)) by omega)
    have hP4 := (sIP hI).2.2
    obtain ⟨g, hg, eg⟩ := pic_ex hP4 q3
    have e3 := zTn eg hg
    have hsb := zbit S hS j h8
    have htg := zbit t (by omega) g (by omega)
    rcases (show (abM (w.1 69)) 2 j = -1 ∨ 0 ≤ ((abM (w.1 69)) 2 j).toInt from by
        rcases Int.lt_or_le ((abM (w.1 69)) 2 j).toInt 0 with q | q
        · exact Or.inl (Int32.toInt_inj.mp (show ((abM (w.1 69)) 2 j).toInt = (-1 : Int32).toInt by rw [show (-1 : Int32).toInt = -1 from by decide]; omega))
        · exact Or.inr q) with hf | hf
    · have zA := zStA t ht g hg
      have e2 : (((abM (w.1 69)) 2 j).toInt + 1).toNat = 0 := by rw [hf]; decide
      refine J_iload (pc' := 14) dX7_tiedBy_12 rfl rfl ?_
      refine J_aload_n (pc' := 15) dX7_tiedBy_14 rfl rfl ?_
      refine J_getR (pc' := 18) dX7_tiedBy_15 fl_7_9 (ly_68) (l84_68) rfl rfl ?_
      refine J_iconst (v := 2) (pc' := 19) dX7_tiedBy_18 (by decide) rfl ?_
      refine J_iald 2 (pc' := 20) dX7_tiedBy_19 (ly_69) (l84_69) nIc_2 (by decide) (by decide) rfl ?_
      refine J_icmp_ge 139 (pc' := 23) dX7_tiedBy_20 (by decide) rfl (fun h_20 => absurd h_20 (by rw [hM]; exact nI_ge (by omega) (by omega))) (fun h_20 => ?_)
      refine J_aload_n (pc' := 24) dX7_tiedBy_23 rfl rfl ?_
      refine J_iload (pc' := 26) dX7_tiedBy_24 rfl rfl ?_
      refine J_iconst (v := 2) (pc' := 27) dX7_tiedBy_26 (by decide) rfl ?_
      refine J_V2v (pc' := 30) dX7_tiedBy_27 lk_7_65 cd_X7_of (k_mof2 h8) (ly_68) (l84_68) rfl rfl (jroom_of rfl) (Nat.le_of_ble_eq_true rfl) rfl ?_
      rw [hf]
      refine J_if_lt 48 (pc' := 33) dX7_tiedBy_30 (by decide) rfl (fun h_30 => ?_) (fun h_30 => absurd (by decide) h_30)
      refine J_iconst (v := 1) (pc' := 49) dX7_tiedBy_48 (by decide) rfl ?_
      refine J_goto (pc' := 0) 53 dX7_tiedBy_49 (by decide) ?_
      refine J_istore (pc' := 55) dX7_tiedBy_53 (Nat.le_of_ble_eq_true rfl) (jst5 rfl rfl) rfl ?_
      refine J_iload_n (pc' := 56) dX7_tiedBy_55 rfl rfl ?_
      refine J_aload_n (pc' := 57) dX7_tiedBy_56 rfl rfl ?_
      refine J_iload (pc' := 59) dX7_tiedBy_57 rfl rfl ?_
      refine J_iconst (v := 3) (pc' := 60) dX7_tiedBy_59 (by decide) rfl ?_
      refine J_V2v (pc' := 63) dX7_tiedBy_60 lk_7_65 cd_X7_of (k_mof3 h8) (ly_68) (l84_68) rfl rfl (jroom_of rfl) (Nat.le_of_ble_eq_true rfl) rfl ?_
      rw [eg]
      refine J_ishr (pc' := 64) dX7_tiedBy_63 rfl ?_
      refine J_iconst (v := 1) (pc' := 65) dX7_tiedBy_64 (by decide) rfl ?_
      refine J_iand (pc' := 66) dX7_tiedBy_65 rfl ?_
      refine J_iconst (v := 1) (pc' := 67) dX7_tiedBy_66 (by decide) rfl ?_
      refine J_icmp_ne 74 (pc' := 70) dX7_tiedBy_67 (by decide) rfl (fun h_67 => ?_) (fun h_67 => ?_)
      · refine J_iconst (v := 0) (pc' := 75) dX7_tiedBy_74 (by decide) rfl ?_
        refine J_istore (pc' := 77) dX7_tiedBy_75 (Nat.le_of_ble_eq_true rfl) (jst6 rfl rfl) rfl ?_
        refine J_iload_n (pc' := 78) dX7_tiedBy_77 rfl rfl ?_
        refine J_iload (pc' := 80) dX7_tiedBy_78 rfl rfl ?_
        refine J_ishr (pc' := 81) dX7_tiedBy_80 rfl ?_
        refine J_iconst (v := 1) (pc' := 82) dX7_tiedBy_81 (by decide) rfl ?_
        refine J_iand (pc' := 83) dX7_tiedBy_82 rfl ?_
        refine J_iconst (v := 1) (pc' := 84) dX7_tiedBy_83 (by decide) rfl ?_
        refine J_icmp_ne 133 (pc' := 87) dX7_tiedBy_84 (by decide) rfl (fun h_84 => ?_) (fun h_84 => ?_)
        · refine J_iinc (pc' := 136) dX7_tiedBy_133 rfl (Nat.le_of_ble_eq_true rfl) (jst4 rfl rfl) rfl ?_
          refine J_goto (pc' := 0) 12 dX7_tiedBy_136 (by decide) ?_
          have h2 := ih (j + 1) (by omega) t ht (by rw [sPass_s, e2, e3, ← hT, if_neg (fun q => h_84 (hsb.mpr q.1))])
          rw [← z1 j] at h2
          exact J_mask [true, true, true, true, true, false, false] h2
        · refine J_iload (pc' := 89) dX7_tiedBy_87 rfl rfl ?_
          refine J_if_ne 97 (pc' := 92) dX7_tiedBy_89 (by decide) rfl (fun h_89 => ?_) (fun h_89 => absurd h_89 (by decide))
          refine J_iload_n (pc' := 98) dX7_tiedBy_97 rfl rfl ?_
          refine J_iconst (v := 1) (pc' := 99) dX7_tiedBy_98 (by decide) rfl ?_
          refine J_aload_n (pc' := 100) dX7_tiedBy_99 rfl rfl ?_
          refine J_iload (pc' := 102) dX7_tiedBy_100 rfl rfl ?_
          refine J_iconst (v := 3) (pc' := 103) dX7_tiedBy_102 (by decide) rfl ?_
          refine J_V2v (pc' := 106) dX7_tiedBy_103 lk_7_65 cd_X7_of (k_mof3 h8) (ly_68) (l84_68) rfl rfl (jroom_of rfl) (Nat.le_of_ble_eq_true rfl) rfl ?_
          rw [eg]
          refine J_ishl (pc' := 107) dX7_tiedBy_106 rfl ?_
          refine J_aload_n (pc' := 108) dX7_tiedBy_107 rfl rfl ?_
          refine J_iload (pc' := 110) dX7_tiedBy_108 rfl rfl ?_
          refine J_iconst (v := 2) (pc' := 111) dX7_tiedBy_110 (by decide) rfl ?_
          refine J_V2v (pc' := 114) dX7_tiedBy_111 lk_7_65 cd_X7_of (k_mof2 h8) (ly_68) (l84_68) rfl rfl (jroom_of rfl) (Nat.le_of_ble_eq_true rfl) rfl ?_
          rw [hf]
          refine J_if_ge 121 (pc' := 117) dX7_tiedBy_114 (by decide) rfl (fun h_114 => absurd h_114 (by decide)) (fun h_114 => ?_)
          refine J_iconst (v := 0) (pc' := 118) dX7_tiedBy_117 (by decide) rfl ?_
          refine J_goto (pc' := 0) 130 dX7_tiedBy_118 (by decide) ?_
          refine J_ior (pc' := 131) dX7_tiedBy_130 rfl ?_
          refine J_ior (pc' := 132) dX7_tiedBy_131 rfl ?_
          rw [zA.2.2.2]
          refine J_istore_n (pc' := 133) dX7_tiedBy_132 (Nat.le_of_ble_eq_true rfl) (jst2 rfl rfl) rfl ?_
          refine J_iinc (pc' := 136) dX7_tiedBy_133 rfl (Nat.le_of_ble_eq_true rfl) (jst4 rfl rfl) rfl ?_
          refine J_goto (pc' := 0) 12 dX7_tiedBy_136 (by decide) ?_
          have h2 := ih (j + 1) (by omega) (t ||| 2 ^ g) zA.2.2.1 (by rw [sPass_s, e2, e3, ← hT, if_pos ⟨hsb.mp (by first | exact h_84 | exact Decidable.not_not.mp h_84), zA.1⟩]; exact zA.2.1)
          rw [← z1 j] at h2
          exact J_mask [true, true, true, true, true, false, false] h2
      · refine J_iconst (v := 1) (pc' := 71) dX7_tiedBy_70 (by decide) rfl ?_
        refine J_goto (pc' := 0) 75 dX7_tiedBy_71 (by decide) ?_
        refine J_istore (pc' := 77) dX7_tiedBy_75 (Nat.le_of_ble_eq_true rfl) (jst6 rfl rfl) rfl ?_
        refine J_iload_n (pc' := 78) dX7_tiedBy_77 rfl rfl ?_
        refine J_iload (pc' := 80) dX7_tiedBy_78 rfl rfl ?_
        refine J_ishr (pc' := 81) dX7_tiedBy_80 rfl ?_
        refine J_iconst (v := 1) (pc' := 82) dX7_tiedBy_81 (by decide) rfl ?_
        refine J_iand (pc' := 83) dX7_tiedBy_82 rfl ?_
        refine J_iconst (v := 1) (pc' := 84) dX7_tiedBy_83 (by decide) rfl ?_
        refine J_icmp_ne 133 (pc' := 87) dX7_tiedBy_84 (by decide) rfl (fun h_84 => ?_) (fun h_84 => ?_)
        · refine J_iinc (pc' := 136) dX7_tiedBy_133 rfl (Nat.le_of_ble_eq_true rfl) (jst4 rfl rfl) rfl ?_
          refine J_goto (pc' := 0) 12 dX7_tiedBy_136 (by decide) ?_
          have h2 := ih (j + 1) (by omega) t ht (by rw [sPass_s, e2, e3, ← hT, if_neg (fun q => h_84 (hsb.mpr q.1))])
          rw [← z1 j] at h2
          exact J_mask [true, true, true, true, true, false, false] h2
        · refine J_iload (pc' := 89) dX7_tiedBy_87 rfl rfl ?_
          refine J_if_ne 97 (pc' := 92) dX7_tiedBy_89 (by decide) rfl (fun h_89 => ?_) (fun h_89 => absurd h_89 (by decide))
          refine J_iload_n (pc' := 98) dX7_tiedBy_97 rfl rfl ?_
          refine J_iconst (v := 1) (pc' := 99) dX7_tiedBy_98 (by decide) rfl ?_
          refine J_aload_n (pc' := 100) dX7_tiedBy_99 rfl rfl ?_
          refine J_iload (pc' := 102) dX7_tiedBy_100 rfl rfl ?_
          refine J_iconst (v := 3) (pc' := 103) dX7_tiedBy_102 (by decide) rfl ?_
          refine J_V2v (pc' := 106) dX7_tiedBy_103 lk_7_65 cd_X7_of (k_mof3 h8) (ly_68) (l84_68) rfl rfl (jroom_of rfl) (Nat.le_of_ble_eq_true rfl) rfl ?_
          rw [eg]
          refine J_ishl (pc' := 107) dX7_tiedBy_106 rfl ?_
          refine J_aload_n (pc' := 108) dX7_tiedBy_107 rfl rfl ?_
          refine J_iload (pc' := 110) dX7_tiedBy_108 rfl rfl ?_
          refine J_iconst (v := 2) (pc' := 111) dX7_tiedBy_110 (by decide) rfl ?_
          refine J_V2v (pc' := 114) dX7_tiedBy_111 lk_7_65 cd_X7_of (k_mof2 h8) (ly_68) (l84_68) rfl rfl (jroom_of rfl) (Nat.le_of_ble_eq_true rfl) rfl ?_
          rw [hf]
          refine J_if_ge 121 (pc' := 117) dX7_tiedBy_114 (by decide) rfl (fun h_114 => absurd h_114 (by decide)) (fun h_114 => ?_)
          refine J_iconst (v := 0) (pc' := 118) dX7_tiedBy_117 (by decide) rfl ?_
          refine J_goto (pc' := 0) 130 dX7_tiedBy_118 (by decide) ?_
          refine J_ior (pc' := 131) dX7_tiedBy_130 rfl ?_
          refine J_ior (pc' := 132) dX7_tiedBy_131 rfl ?_
          rw [zA.2.2.2]
          refine J_istore_n (pc' := 133) dX7_tiedBy_132 (Nat.le_of_ble_eq_true rfl) (jst2 rfl rfl) rfl ?_
          refine J_iinc (pc' := 136) dX7_tiedBy_133 rfl (Nat.le_of_ble_eq_true rfl) (jst4 rfl rfl) rfl ?_
          refine J_goto (pc' := 0) 12 dX7_tiedBy_136 (by decide) ?_
          have h2 := ih (j + 1) (by omega) (t ||| 2 ^ g) zA.2.2.1 (by rw [sPass_s, e2, e3, ← hT, if_pos ⟨hsb.mp (by first | exact h_84 | exact Decidable.not_not.mp h_84), zA.1⟩]; exact zA.2.1)
          rw [← z1 j] at h2
          exact J_mask [true, true, true, true, true, false, false] h2
    · obtain ⟨f, hf4, ef⟩ := pic_ex hP4 ⟨hf, q2.2⟩
      have e2 := zTn ef hf4
      have htf := zbit t (by omega) f (by omega)
      have zB := zStB t ht f hf4 g hg
      refine J_iload (pc' := 14) dX7_tiedBy_12 rfl rfl ?_
      refine J_aload_n (pc' := 15) dX7_tiedBy_14 rfl rfl ?_
      refine J_getR (pc' := 18) dX7_tiedBy_15 fl_7_9 (ly_68) (l84_68) rfl rfl ?_
      refine J_iconst (v := 2) (pc' := 19) dX7_tiedBy_18 (by decide) rfl ?_
      refine J_iald 2 (pc' := 20) dX7_tiedBy_19 (ly_69) (l84_69) nIc_2 (by decide) (by decide) rfl ?_
      refine J_icmp_ge 139 (pc' := 23) dX7_tiedBy_20 (by decide) rfl (fun h_20 => absurd h_20 (by rw [hM]; exact nI_ge (by omega) (by omega))) (fun h_20 => ?_)
      refine J_aload_n (pc' := 24) dX7_tiedBy_23 rfl rfl ?_
      refine J_iload (pc' := 26) dX7_tiedBy_24 rfl rfl ?_
      refine J_iconst (v := 2) (pc' := 27) dX7_tiedBy_26 (by decide) rfl ?_
      refine J_V2v (pc' := 30) dX7_tiedBy_27 lk_7_65 cd_X7_of (k_mof2 h8) (ly_68) (l84_68) rfl rfl (jroom_of rfl) (Nat.le_of_ble_eq_true rfl) rfl ?_
      rw [ef]
      refine J_if_lt 48 (pc' := 33) dX7_tiedBy_30 (by decide) rfl (fun h_30 => absurd h_30 (nI_pos (by omega))) (fun h_30 => ?_)
      refine J_iload_n (pc' := 34) dX7_tiedBy_33 rfl rfl ?_
      refine J_aload_n (pc' := 35) dX7_tiedBy_34 rfl rfl ?_
      refine J_iload (pc' := 37) dX7_tiedBy_35 rfl rfl ?_
      refine J_iconst (v := 2) (pc' := 38) dX7_tiedBy_37 (by decide) rfl ?_
      refine J_V2v (pc' := 41) dX7_tiedBy_38 lk_7_65 cd_X7_of (k_mof2 h8) (ly_68) (l84_68) rfl rfl (jroom_of rfl) (Nat.le_of_ble_eq_true rfl) rfl ?_
      rw [ef]
      refine J_ishr (pc' := 42) dX7_tiedBy_41 rfl ?_
      refine J_iconst (v := 1) (pc' := 43) dX7_tiedBy_42 (by decide) rfl ?_
      refine J_iand (pc' := 44) dX7_tiedBy_43 rfl ?_
      refine J_iconst (v := 1) (pc' := 45) dX7_tiedBy_44 (by decide) rfl ?_
      refine J_icmp_ne 52 (pc' := 48) dX7_tiedBy_45 (by decide) rfl (fun h_45 => ?_) (fun h_45 => ?_)
      · refine J_iconst (v := 0) (pc' := 53) dX7_tiedBy_52 (by decide) rfl ?_
        refine J_istore (pc' := 55) dX7_tiedBy_53 (Nat.le_of_ble_eq_true rfl) (jst5 rfl rfl) rfl ?_
        refine J_iload_n (pc' := 56) dX7_tiedBy_55 rfl rfl ?_
        refine J_aload_n (pc' := 57) dX7_tiedBy_56 rfl rfl ?_
        refine J_iload (pc' := 59) dX7_tiedBy_57 rfl rfl ?_
        refine J_iconst (v := 3) (pc' := 60) dX7_tiedBy_59 (by decide) rfl ?_
        refine J_V2v (pc' := 63) dX7_tiedBy_60 lk_7_65 cd_X7_of (k_mof3 h8) (ly_68) (l84_68) rfl rfl (jroom_of rfl) (Nat.le_of_ble_eq_true rfl) rfl ?_
        rw [eg]
        refine J_ishr (pc' := 64) dX7_tiedBy_63 rfl ?_
        refine J_iconst (v := 1) (pc' := 65) dX7_tiedBy_64 (by decide) rfl ?_
        refine J_iand (pc' := 66) dX7_tiedBy_65 rfl ?_
        refine J_iconst (v := 1) (pc' := 67) dX7_tiedBy_66 (by decide) rfl ?_
        refine J_icmp_ne 74 (pc' := 70) dX7_tiedBy_67 (by decide) rfl (fun h_67 => ?_) (fun h_67 => ?_)
        · refine J_iconst (v := 0) (pc' := 75) dX7_tiedBy_74 (by decide) rfl ?_
          refine J_istore (pc' := 77) dX7_tiedBy_75 (Nat.le_of_ble_eq_true rfl) (jst6 rfl rfl) rfl ?_
          refine J_iload_n (pc' := 78) dX7_tiedBy_77 rfl rfl ?_
          refine J_iload (pc' := 80) dX7_tiedBy_78 rfl rfl ?_
          refine J_ishr (pc' := 81) dX7_tiedBy_80 rfl ?_
          refine J_iconst (v := 1) (pc' := 82) dX7_tiedBy_81 (by decide) rfl ?_
          refine J_iand (pc' := 83) dX7_tiedBy_82 rfl ?_
          refine J_iconst (v := 1) (pc' := 84) dX7_tiedBy_83 (by decide) rfl ?_
          refine J_icmp_ne 133 (pc' := 87) dX7_tiedBy_84 (by decide) rfl (fun h_84 => ?_) (fun h_84 => ?_)
          · refine J_iinc (pc' := 136) dX7_tiedBy_133 rfl (Nat.le_of_ble_eq_true rfl) (jst4 rfl rfl) rfl ?_
            refine J_goto (pc' := 0) 12 dX7_tiedBy_136 (by decide) ?_
            have h2 := ih (j + 1) (by omega) t ht (by rw [sPass_s, e2, e3, ← hT, if_neg (fun q => by first | exact h_84 (hsb.mpr q.1) | exact (zB.1.mp q.2).elim (fun r => h_45 (htf.mpr r)) (fun r => h_67 (htg.mpr r)))])
            rw [← z1 j] at h2
            exact J_mask [true, true, true, true, true, false, false] h2
          · refine J_iload (pc' := 89) dX7_tiedBy_87 rfl rfl ?_
            refine J_if_ne 97 (pc' := 92) dX7_tiedBy_89 (by decide) rfl (fun h_89 => absurd rfl h_89) (fun h_89 => ?_)
            refine J_iload (pc' := 94) dX7_tiedBy_92 rfl rfl ?_
            refine J_if_eq 133 (pc' := 97) dX7_tiedBy_94 (by decide) rfl (fun h_94 => ?_) (fun h_94 => absurd rfl h_94)
            refine J_iinc (pc' := 136) dX7_tiedBy_133 rfl (Nat.le_of_ble_eq_true rfl) (jst4 rfl rfl) rfl ?_
            refine J_goto (pc' := 0) 12 dX7_tiedBy_136 (by decide) ?_
            have h2 := ih (j + 1) (by omega) t ht (by rw [sPass_s, e2, e3, ← hT, if_neg (fun q => by first | exact h_84 (hsb.mpr q.1) | exact (zB.1.mp q.2).elim (fun r => h_45 (htf.mpr r)) (fun r => h_67 (htg.mpr r)))])
            rw [← z1 j] at h2
            exact J_mask [true, true, true, true, true, false, false] h2
        · refine J_iconst (v := 1) (pc' := 71) dX7_tiedBy_70 (by decide) rfl ?_
          refine J_goto (pc' := 0) 75 dX7_tiedBy_71 (by decide) ?_
          refine J_istore (pc' := 77) dX7_tiedBy_75 (Nat.le_of_ble_eq_true rfl) (jst6 rfl rfl) rfl ?_
          refine J_iload_n (pc' := 78) dX7_tiedBy_77 rfl rfl ?_
          refine J_iload (pc' := 80) dX7_tiedBy_78 rfl rfl ?_
          refine J_ishr (pc' := 81) dX7_tiedBy_80 rfl ?_
          refine J_iconst (v := 1) (pc' := 82) dX7_tiedBy_81 (by decide) rfl ?_
          refine J_iand (pc' := 83) dX7_tiedBy_82 rfl ?_
          refine J_iconst (v := 1) (pc' := 84) dX7_tiedBy_83 (by decide) rfl ?_
          refine J_icmp_ne 133 (pc' := 87) dX7_tiedBy_84 (by decide) rfl (fun h_84 => ?_) (fun h_84 => ?_)
          · refine J_iinc (pc' := 136) dX7_tiedBy_133 rfl (Nat.le_of_ble_eq_true rfl) (jst4 rfl rfl) rfl ?_
            refine J_goto (pc' := 0) 12 dX7_tiedBy_136 (by decide) ?_
            have h2 := ih (j + 1) (by omega) t ht (by rw [sPass_s, e2, e3, ← hT, if_neg (fun q => by first | exact h_84 (hsb.mpr q.1) | exact (zB.1.mp q.2).elim (fun r => h_45 (htf.mpr r)) (fun r => h_67 (htg.mpr r)))])
            rw [← z1 j] at h2
            exact J_mask [true, true, true, true, true, false, false] h2
          · refine J_iload (pc' := 89) dX7_tiedBy_87 rfl rfl ?_
            refine J_if_ne 97 (pc' := 92) dX7_tiedBy_89 (by decide) rfl (fun h_89 => absurd rfl h_89) (fun h_89 => ?_)
            refine J_iload (pc' := 94) dX7_tiedBy_92 rfl rfl ?_
            refine J_if_eq 133 (pc' := 97) dX7_tiedBy_94 (by decide) rfl (fun h_94 => absurd h_94 (by decide)) (fun h_94 => ?_)
            refine J_iload_n (pc' := 98) dX7_tiedBy_97 rfl rfl ?_
            refine J_iconst (v := 1) (pc' := 99) dX7_tiedBy_98 (by decide) rfl ?_
            refine J_aload_n (pc' := 100) dX7_tiedBy_99 rfl rfl ?_
            refine J_iload (pc' := 102) dX7_tiedBy_100 rfl rfl ?_
            refine J_iconst (v := 3) (pc' := 103) dX7_tiedBy_102 (by decide) rfl ?_
            refine J_V2v (pc' := 106) dX7_tiedBy_103 lk_7_65 cd_X7_of (k_mof3 h8) (ly_68) (l84_68) rfl rfl (jroom_of rfl) (Nat.le_of_ble_eq_true rfl) rfl ?_
            rw [eg]
            refine J_ishl (pc' := 107) dX7_tiedBy_106 rfl ?_
            refine J_aload_n (pc' := 108) dX7_tiedBy_107 rfl rfl ?_
            refine J_iload (pc' := 110) dX7_tiedBy_108 rfl rfl ?_
            refine J_iconst (v := 2) (pc' := 111) dX7_tiedBy_110 (by decide) rfl ?_
            refine J_V2v (pc' := 114) dX7_tiedBy_111 lk_7_65 cd_X7_of (k_mof2 h8) (ly_68) (l84_68) rfl rfl (jroom_of rfl) (Nat.le_of_ble_eq_true rfl) rfl ?_
            rw [ef]
            refine J_if_ge 121 (pc' := 117) dX7_tiedBy_114 (by decide) rfl (fun h_114 => ?_) (fun h_114 => absurd (nI_pos' (by omega)) h_114)
            refine J_iconst (v := 1) (pc' := 122) dX7_tiedBy_121 (by decide) rfl ?_
            refine J_aload_n (pc' := 123) dX7_tiedBy_122 rfl rfl ?_
            refine J_iload (pc' := 125) dX7_tiedBy_123 rfl rfl ?_
            refine J_iconst (v := 2) (pc' := 126) dX7_tiedBy_125 (by decide) rfl ?_
            refine J_V2v (pc' := 129) dX7_tiedBy_126 lk_7_65 cd_X7_of (k_mof2 h8) (ly_68) (l84_68) rfl rfl (jroom_of rfl) (Nat.le_of_ble_eq_true rfl) rfl ?_
            rw [ef]
            refine J_ishl (pc' := 130) dX7_tiedBy_129 rfl ?_
            refine J_ior (pc' := 131) dX7_tiedBy_130 rfl ?_
            refine J_ior (pc' := 132) dX7_tiedBy_131 rfl ?_
            rw [zB.2.2.2]
            refine J_istore_n (pc' := 133) dX7_tiedBy_132 (Nat.le_of_ble_eq_true rfl) (jst2 rfl rfl) rfl ?_
            refine J_iinc (pc' := 136) dX7_tiedBy_133 rfl (Nat.le_of_ble_eq_true rfl) (jst4 rfl rfl) rfl ?_
            refine J_goto (pc' := 0) 12 dX7_tiedBy_136 (by decide) ?_
            have h2 := ih (j + 1) (by omega) (t ||| (2 ^ g ||| 2 ^ f)) zB.2.2.1 (by rw [sPass_s, e2, e3, ← hT, if_pos ⟨hsb.mp (by first | exact h_84 | exact Decidable.not_not.mp h_84), zB.1.mpr (by first | exact Or.inl (htf.mp (by first | exact h_45 | exact Decidable.not_not.mp h_45)) | exact Or.inr (htg.mp (by first | exact h_67 | exact Decidable.not_not.mp h_67)))⟩]; exact zB.2.1)
            rw [← z1 j] at h2
            exact J_mask [true, true, true, true, true, false, false] h2
      · refine J_iconst (v := 1) (pc' := 49) dX7_tiedBy_48 (by decide) rfl ?_
        refine J_goto (pc' := 0) 53 dX7_tiedBy_49 (by decide) ?_
        refine J_istore (pc' := 55) dX7_tiedBy_53 (Nat.le_of_ble_eq_true rfl) (jst5 rfl rfl) rfl ?_
        refine J_iload_n (pc' := 56) dX7_tiedBy_55 rfl rfl ?_
        refine J_aload_n (pc' := 57) dX7_tiedBy_56 rfl rfl ?_
        refine J_iload (pc' := 59) dX7_tiedBy_57 rfl rfl ?_
        refine J_iconst (v := 3) (pc' := 60) dX7_tiedBy_59 (by decide) rfl ?_
        refine J_V2v (pc' := 63) dX7_tiedBy_60 lk_7_65 cd_X7_of (k_mof3 h8) (ly_68) (l84_68) rfl rfl (jroom_of rfl) (Nat.le_of_ble_eq_true rfl) rfl ?_
        rw [eg]
        refine J_ishr (pc' := 64) dX7_tiedBy_63 rfl ?_
        refine J_iconst (v := 1) (pc' := 65) dX7_tiedBy_64 (by decide) rfl ?_
        refine J_iand (pc' := 66) dX7_tiedBy_65 rfl ?_
        refine J_iconst (v := 1) (pc' := 67) dX7_tiedBy_66 (by decide) rfl ?_
        refine J_icmp_ne 74 (pc' := 70) dX7_tiedBy_67 (by decide) rfl (fun h_67 => ?_) (fun h_67 => ?_)
        · refine J_iconst (v := 0) (pc' := 75) dX7_tiedBy_74 (by decide) rfl ?_
          refine J_istore (pc' := 77) dX7_tiedBy_75 (Nat.le_of_ble_eq_true rfl) (jst6 rfl rfl) rfl ?_
          refine J_iload_n (pc' := 78) dX7_tiedBy_77 rfl rfl ?_
          refine J_iload (pc' := 80) dX7_tiedBy_78 rfl rfl ?_
          refine J_ishr (pc' := 81) dX7_tiedBy_80 rfl ?_
          refine J_iconst (v := 1) (pc' := 82) dX7_tiedBy_81 (by decide) rfl ?_
          refine J_iand (pc' := 83) dX7_tiedBy_82 rfl ?_
          refine J_iconst (v := 1) (pc' := 84) dX7_tiedBy_83 (by decide) rfl ?_
          refine J_icmp_ne 133 (pc' := 87) dX7_tiedBy_84 (by decide) rfl (fun h_84 => ?_) (fun h_84 => ?_)
          · refine J_iinc (pc' := 136) dX7_tiedBy_133 rfl (Nat.le_of_ble_eq_true rfl) (jst4 rfl rfl) rfl ?_
            refine J_goto (pc' := 0) 12 dX7_tiedBy_136 (by decide) ?_
            have h2 := ih (j + 1) (by omega) t ht (by rw [sPass_s, e2, e3, ← hT, if_neg (fun q => by first | exact h_84 (hsb.mpr q.1) | exact (zB.1.mp q.2).elim (fun r => h_45 (htf.mpr r)) (fun r => h_67 (htg.mpr r)))])
            rw [← z1 j] at h2
            exact J_mask [true, true, true, true, true, false, false] h2
          · refine J_iload (pc' := 89) dX7_tiedBy_87 rfl rfl ?_
            refine J_if_ne 97 (pc' := 92) dX7_tiedBy_89 (by decide) rfl (fun h_89 => ?_) (fun h_89 => absurd h_89 (by decide))
            refine J_iload_n (pc' := 98) dX7_tiedBy_97 rfl rfl ?_
            refine J_iconst (v := 1) (pc' := 99) dX7_tiedBy_98 (by decide) rfl ?_
            refine J_aload_n (pc' := 100) dX7_tiedBy_99 rfl rfl ?_
            refine J_iload (pc' := 102) dX7_tiedBy_100 rfl rfl ?_
            refine J_iconst (v := 3) (pc' := 103) dX7_tiedBy_102 (by decide) rfl ?_
            refine J_V2v (pc' := 106) dX7_tiedBy_103 lk_7_65 cd_X7_of (k_mof3 h8) (ly_68) (l84_68) rfl rfl (jroom_of rfl) (Nat.le_of_ble_eq_true rfl) rfl ?_
            rw [eg]
            refine J_ishl (pc' := 107) dX7_tiedBy_106 rfl ?_
            refine J_aload_n (pc' := 108) dX7_tiedBy_107 rfl rfl ?_
            refine J_iload (pc' := 110) dX7_tiedBy_108 rfl rfl ?_
            refine J_iconst (v := 2) (pc' := 111) dX7_tiedBy_110 (by decide) rfl ?_
            refine J_V2v (pc' := 114) dX7_tiedBy_111 lk_7_65 cd_X7_of (k_mof2 h8) (ly_68) (l84_68) rfl rfl (jroom_of rfl) (Nat.le_of_ble_eq_true rfl) rfl ?_
            rw [ef]
            refine J_if_ge 121 (pc' := 117) dX7_tiedBy_114 (by decide) rfl (fun h_114 => ?_) (fun h_114 => absurd (nI_pos' (by omega)) h_114)
            refine J_iconst (v := 1) (pc' := 122) dX7_tiedBy_121 (by decide) rfl ?_
            refine J_aload_n (pc' := 123) dX7_tiedBy_122 rfl rfl ?_
            refine J_iload (pc' := 125) dX7_tiedBy_123 rfl rfl ?_
            refine J_iconst (v := 2) (pc' := 126) dX7_tiedBy_125 (by decide) rfl ?_
            refine J_V2v (pc' := 129) dX7_tiedBy_126 lk_7_65 cd_X7_of (k_mof2 h8) (ly_68) (l84_68) rfl rfl (jroom_of rfl) (Nat.le_of_ble_eq_true rfl) rfl ?_
            rw [ef]
            refine J_ishl (pc' := 130) dX7_tiedBy_129 rfl ?_
            refine J_ior (pc' := 131) dX7_tiedBy_130 rfl ?_
            refine J_ior (pc' := 132) dX7_tiedBy_131 rfl ?_
            rw [zB.2.2.2]
            refine J_istore_n (pc' := 133) dX7_tiedBy_132 (Nat.le_of_ble_eq_true rfl) (jst2 rfl rfl) rfl ?_
            refine J_iinc (pc' := 136) dX7_tiedBy_133 rfl (Nat.le_of_ble_eq_true rfl) (jst4 rfl rfl) rfl ?_
            refine J_goto (pc' := 0) 12 dX7_tiedBy_136 (by decide) ?_
            have h2 := ih (j + 1) (by omega) (t ||| (2 ^ g ||| 2 ^ f)) zB.2.2.1 (by rw [sPass_s, e2, e3, ← hT, if_pos ⟨hsb.mp (by first | exact h_84 | exact Decidable.not_not.mp h_84), zB.1.mpr (by first | exact Or.inl (htf.mp (by first | exact h_45 | exact Decidable.not_not.mp h_45)) | exact Or.inr (htg.mp (by first | exact h_67 | exact Decidable.not_not.mp h_67)))⟩]; exact zB.2.1)
            rw [← z1 j] at h2
            exact J_mask [true, true, true, true, true, false, false] h2
        · refine J_iconst (v := 1) (pc' := 71) dX7_tiedBy_70 (by decide) rfl ?_
          refine J_goto (pc' := 0) 75 dX7_tiedBy_71 (by decide) ?_
          refine J_istore (pc' := 77) dX7_tiedBy_75 (Nat.le_of_ble_eq_true rfl) (jst6 rfl rfl) rfl ?_
          refine J_iload_n (pc' := 78) dX7_tiedBy_77 rfl rfl ?_
          refine J_iload (pc' := 80) dX7_tiedBy_78 rfl rfl ?_
          refine J_ishr (pc' := 81) dX7_tiedBy_80 rfl ?_
          refine J_iconst (v := 1) (pc' := 82) dX7_tiedBy_81 (by decide) rfl ?_
          refine J_iand (pc' := 83) dX7_tiedBy_82 rfl ?_
          refine J_iconst (v := 1) (pc' := 84) dX7_tiedBy_83 (by decide) rfl ?_
          refine J_icmp_ne 133 (pc' := 87) dX7_tiedBy_84 (by decide) rfl (fun h_84 => ?_) (fun h_84 => ?_)
          · refine J_iinc (pc' := 136) dX7_tiedBy_133 rfl (Nat.le_of_ble_eq_true rfl) (jst4 rfl rfl) rfl ?_
            refine J_goto (pc' := 0) 12 dX7_tiedBy_136 (by decide) ?_
            have h2 := ih (j + 1) (by omega) t ht (by rw [sPass_s, e2, e3, ← hT, if_neg (fun q => by first | exact h_84 (hsb.mpr q.1) | exact (zB.1.mp q.2).elim (fun r => h_45 (htf.mpr r)) (fun r => h_67 (htg.mpr r)))])
            rw [← z1 j] at h2
            exact J_mask [true, true, true, true, true, false, false] h2
          · refine J_iload (pc' := 89) dX7_tiedBy_87 rfl rfl ?_
            refine J_if_ne 97 (pc' := 92) dX7_tiedBy_89 (by decide) rfl (fun h_89 => ?_) (fun h_89 => absurd h_89 (by decide))
            refine J_iload_n (pc' := 98) dX7_tiedBy_97 rfl rfl ?_
            refine J_iconst (v := 1) (pc' := 99) dX7_tiedBy_98 (by decide) rfl ?_
            refine J_aload_n (pc' := 100) dX7_tiedBy_99 rfl rfl ?_
            refine J_iload (pc' := 102) dX7_tiedBy_100 rfl rfl ?_
            refine J_iconst (v := 3) (pc' := 103) dX7_tiedBy_102 (by decide) rfl ?_
            refine J_V2v (pc' := 106) dX7_tiedBy_103 lk_7_65 cd_X7_of (k_mof3 h8) (ly_68) (l84_68) rfl rfl (jroom_of rfl) (Nat.le_of_ble_eq_true rfl) rfl ?_
            rw [eg]
            refine J_ishl (pc' := 107) dX7_tiedBy_106 rfl ?_
            refine J_aload_n (pc' := 108) dX7_tiedBy_107 rfl rfl ?_
            refine J_iload (pc' := 110) dX7_tiedBy_108 rfl rfl ?_
            refine J_iconst (v := 2) (pc' := 111) dX7_tiedBy_110 (by decide) rfl ?_
            refine J_V2v (pc' := 114) dX7_tiedBy_111 lk_7_65 cd_X7_of (k_mof2 h8) (ly_68) (l84_68) rfl rfl (jroom_of rfl) (Nat.le_of_ble_eq_true rfl) rfl ?_
            rw [ef]
            refine J_if_ge 121 (pc' := 117) dX7_tiedBy_114 (by decide) rfl (fun h_114 => ?_) (fun h_114 => absurd (nI_pos' (by omega)) h_114)
            refine J_iconst (v := 1) (pc' := 122) dX7_tiedBy_121 (by decide) rfl ?_
            refine J_aload_n (pc' := 123) dX7_tiedBy_122 rfl rfl ?_
            refine J_iload (pc' := 125) dX7_tiedBy_123 rfl rfl ?_
            refine J_iconst (v := 2) (pc' := 126) dX7_tiedBy_125 (by decide) rfl ?_
            refine J_V2v (pc' := 129) dX7_tiedBy_126 lk_7_65 cd_X7_of (k_mof2 h8) (ly_68) (l84_68) rfl rfl (jroom_of rfl) (Nat.le_of_ble_eq_true rfl) rfl ?_
            rw [ef]
            refine J_ishl (pc' := 130) dX7_tiedBy_129 rfl ?_
            refine J_ior (pc' := 131) dX7_tiedBy_130 rfl ?_
            refine J_ior (pc' := 132) dX7_tiedBy_131 rfl ?_
            rw [zB.2.2.2]
            refine J_istore_n (pc' := 133) dX7_tiedBy_132 (Nat.le_of_ble_eq_true rfl) (jst2 rfl rfl) rfl ?_
            refine J_iinc (pc' := 136) dX7_tiedBy_133 rfl (Nat.le_of_ble_eq_true rfl) (jst4 rfl rfl) rfl ?_
            refine J_goto (pc' := 0) 12 dX7_tiedBy_136 (by decide) ?_
            have h2 := ih (j + 1) (by omega) (t ||| (2 ^ g ||| 2 ^ f)) zB.2.2.1 (by rw [sPass_s, e2, e3, ← hT, if_pos ⟨hsb.mp (by first | exact h_84 | exact Decidable.not_not.mp h_84), zB.1.mpr (by first | exact Or.inl (htf.mp (by first | exact h_45 | exact Decidable.not_not.mp h_45)) | exact Or.inr (htg.mp (by first | exact h_67 | exact Decidable.not_not.mp h_67)))⟩]; exact zB.2.1)
            rw [← z1 j] at h2
            exact J_mask [true, true, true, true, true, false, false] h2
set_option maxHeartbeats 4000000 in
set_option maxRecDepth 100000 in
theorem l_mtie {G : jG} {w : jWd} (hI : sInv (abM (w.1 69))) {S : Nat} (hS : S < 256) : ∀ n j : Nat, j + n = 4 → ∀ (t : Nat) (_ : t < 16) (_ : 2 * t + 1 = sPasses (abM (w.1 69)) S j), J G (jM G 1 RX7 cX7_tiedBy 7 (some .int) ((fun r' w' => r' = some (.int (nI (sTied (abM (w.1 69)) S))) ∧ w' = w))) w 4 [some (.ref 68), some (.int (nI S)), some (.int (nI t)), some (.int (nI j)), none, none, none] [] := by
  intro n
  induction n with
  | zero =>
    intro j hj t ht hT
    refine J_iload_n (pc' := 5) dX7_tiedBy_4 rfl rfl ?_
    refine J_iconst (v := 4) (pc' := 6) dX7_tiedBy_5 (by decide) rfl ?_
    refine J_icmp_ge 145 (pc' := 9) dX7_tiedBy_6 (by decide) rfl (fun h_6 => ?_) (fun h_6 => absurd (by rw [nIc_4]; exact nI_le (by omega) (by omega)) h_6)
    refine J_iload_n (pc' := 146) dX7_tiedBy_145 rfl rfl ?_
    have e4 : sTied (abM (w.1 69)) S = t := by unfold sTied; rw [← sPs_P hI (sIP hI).2.2, ← show j = 4 by omega, ← hT, Nat.shiftRight_eq_div_pow]; omega
    exact J_iret dX7_tiedBy_146  ⟨by rw [e4], rfl⟩
  | succ n ih =>
    intro j hj t ht hT
    refine J_iload_n (pc' := 5) dX7_tiedBy_4 rfl rfl ?_
    refine J_iconst (v := 4) (pc' := 6) dX7_tiedBy_5 (by decide) rfl ?_
    refine J_icmp_ge 145 (pc' := 9) dX7_tiedBy_6 (by decide) rfl (fun h_6 => absurd h_6 (by rw [nIc_4]; exact nI_ge (by omega) (by omega))) (fun h_6 => ?_)
    refine J_iconst (v := 0) (pc' := 10) dX7_tiedBy_9 (by decide) rfl ?_
    refine J_istore (pc' := 12) dX7_tiedBy_10 (Nat.le_of_ble_eq_true rfl) (jst4 rfl rfl) rfl ?_
    refine J_mask [true, true, true, true, true, false, false] (l_mtin hI hS (T0 := sPasses (abM (w.1 69)) S j) (o := j) (fun t2 ht2 hT2 => ?_) (sM (abM (w.1 69))) 0 (by omega) t ht hT)
    refine J_iinc (pc' := 142) dX7_tiedBy_139 rfl (Nat.le_of_ble_eq_true rfl) (jst3 rfl rfl) rfl ?_
    refine J_goto (pc' := 0) 4 dX7_tiedBy_142 (by decide) ?_
    have h2 := ih (j + 1) (by omega) t2 ht2 hT2
    rw [← z1 j] at h2
    exact J_mask [true, true, true, true, false, false, false] h2
set_option maxHeartbeats 4000000 in
set_option maxRecDepth 100000 in
theorem k_mtie {G : jG} {w : jWd} (hI : sInv (abM (w.1 69))) {S : Nat} (hS : S < 256) : jKd G 1 yX7_tiedBy cX7_tiedBy 7 (some .int) [.ref 68, .int (nI S)] w (some (.int (nI (sTied (abM (w.1 69)) S)))) w := by
  refine jK_of (own := RX7) [some (.ref 68), some (.int (nI S)), none, none, none, none, none] pn7 rfl (Nat.le_of_ble_eq_true rfl) rfl ?_
  refine J_iconst (v := 0) (pc' := 1) dX7_tiedBy_0 (by decide) rfl ?_
  refine J_istore_n (pc' := 2) dX7_tiedBy_1 (Nat.le_of_ble_eq_true rfl) (jst2 rfl rfl) rfl ?_
  refine J_iconst (v := 0) (pc' := 3) dX7_tiedBy_2 (by decide) rfl ?_
  refine J_istore_n (pc' := 4) dX7_tiedBy_3 (Nat.le_of_ble_eq_true rfl) (jst3 rfl rfl) rfl ?_
  exact l_mtie hI hS 4 0 rfl 0 (by decide) rfl
theorem zshP : ∀ P, P ≤ 4 → ((1 : Int32) <<< (nI P &&& 31)) - 1 = nI (2 ^ P - 1) := by decide +kernel
set_option maxHeartbeats 4000000 in
set_option maxRecDepth 100000 in
theorem k_mhold {G : jG} {w : jWd} (hI : sInv (abM (w.1 69))) {S : Nat} (hS : S < 256) : jKd G 2 yX7_doesHold cX7_doesHold 2 (some .boolean) [.ref 68, .int (nI S)] w (some (.int (jb (sTied (abM (w.1 69)) S = 2 ^ sP (abM (w.1 69)) - 1)))) w := by
  have hP := (sIP hI).1
  have hP4 := (sIP hI).2
  have hP2 : w.1 69 3 = nI (sP (abM (w.1 69))) := hP
  have hp32 : 2 ^ sP (abM (w.1 69)) - 1 < 16 := by have : 2 ^ sP (abM (w.1 69)) ≤ 2 ^ 4 := Nat.pow_le_pow_right (by omega) hP4.2; omega
  have ht32 : sTied (abM (w.1 69)) S < 32 := by have := sPasses_lt (S := S) (fun k hk => sIk hI hk) hP4.2 (sP (abM (w.1 69))); unfold sTied; rw [Nat.shiftRight_eq_div_pow]; omega
  refine jK_of (own := RX7) [some (.ref 68), some (.int (nI S))] pn7 rfl (Nat.le_of_ble_eq_true rfl) rfl ?_
  refine J_aload_n (pc' := 1) dX7_doesHold_0 rfl rfl ?_
  refine J_iload_n (pc' := 2) dX7_doesHold_1 rfl rfl ?_
  refine J_V1v (pc' := 5) dX7_doesHold_2 lk_7_83 cd_X7_tiedBy (k_mtie hI hS) (ly_68) (l84_68) rfl rfl (jroom_of rfl) (Nat.le_of_ble_eq_true rfl) rfl ?_
  refine J_iconst (v := 1) (pc' := 6) dX7_doesHold_5 (by decide) rfl ?_
  refine J_aload_n (pc' := 7) dX7_doesHold_6 rfl rfl ?_
  refine J_getR (pc' := 10) dX7_doesHold_7 fl_7_9 (ly_68) (l84_68) rfl rfl ?_
  refine J_iconst (v := 3) (pc' := 11) dX7_doesHold_10 (by decide) rfl ?_
  refine J_iald 3 (pc' := 12) dX7_doesHold_11 (ly_69) (l84_69) nIc_3 (by decide) (by decide) rfl ?_
  rw [hP2]
  refine J_ishl (pc' := 13) dX7_doesHold_12 rfl ?_
  refine J_iconst (v := 1) (pc' := 14) dX7_doesHold_13 (by decide) rfl ?_
  refine J_isub (pc' := 15) dX7_doesHold_14 rfl ?_
  rw [zshP _ hP4.2]
  refine J_icmp_ne 22 (pc' := 18) dX7_doesHold_15 (by decide) rfl (fun h_15 => ?_) (fun h_15 => ?_)
  · refine J_iconst (v := 0) (pc' := 23) dX7_doesHold_22 (by decide) rfl ?_
    first | exact J_zret dX7_doesHold_23 (Or.inl rfl) ⟨jv (jb_t ((nI_eq (by omega) (by omega)).mp (by first | exact h_15 | exact Decidable.not_not.mp h_15))).symm, rfl⟩ | exact J_zret dX7_doesHold_23 (Or.inl rfl) ⟨jv (jb_f (fun q => h_15 (by rw [q]))).symm, rfl⟩
  · refine J_iconst (v := 1) (pc' := 19) dX7_doesHold_18 (by decide) rfl ?_
    refine J_goto (pc' := 0) 23 dX7_doesHold_19 (by decide) ?_
    first | exact J_zret dX7_doesHold_23 (Or.inr rfl) ⟨jv (jb_t ((nI_eq (by omega) (by omega)).mp (by first | exact h_15 | exact Decidable.not_not.mp h_15))).symm, rfl⟩ | exact J_zret dX7_doesHold_23 (Or.inr rfl) ⟨jv (jb_f (fun q => h_15 (by rw [q]))).symm, rfl⟩
