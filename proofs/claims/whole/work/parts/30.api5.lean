/-! ===== what is needed, the spine ===== -/
/-! ===== what is needed; the spine ===== -/
def sOff (S i : Nat) : Nat := if S.testBit i = true then S - 2 ^ i else S
theorem zoff : ∀ S, S < 256 → ∀ i, i < 8 → (nI S &&& ((1 <<< (nI i &&& 31)) ^^^ (-1))) = nI (sOff S i) ∧ sOff S i < 256 := by decide +kernel
def sNd (σ : sg) : Nat → Nat
  | 0 => 0
  | n + 1 => if σ 5 n = 1 ∧ ¬ sTied σ (sOff (sSet σ) n) = 2 ^ sP σ - 1 then sNd σ n ||| 2 ^ n else sNd σ n
theorem sNd_lt {σ : sg} : ∀ n, n ≤ 8 → sNd σ n < 256
  | 0, _ => by rw [sNd]; decide
  | n + 1, h => by
    have h1 := sNd_lt (σ := σ) n (by omega)
    rw [sNd]
    split
    · exact Nat.or_lt_two_pow (n := 8) h1 (Nat.pow_lt_pow_right (by decide) (by omega))
    · exact h1
abbrev sSpC (σ : sg) (S : Nat) (best : Int32) : Prop := sBn S 8 = sP σ ∧ (nI S &&& (nI (sSet σ) ^^^ (-1))) = 0 ∧ sTied σ S = 2 ^ sP σ - 1 ∧ best < sWAll σ S (sM σ)
def sSp (σ : sg) : Nat → Nat × Int32
  | 0 => (0, 0)
  | S + 1 => if S ≠ 0 ∧ sSpC σ S (sSp σ S).2 then (S, sWAll σ S (sM σ)) else sSp σ S
theorem sSp_1 (σ : sg) : sSp σ 1 = (0, 0) := by rw [sSp, if_neg (fun q => q.1 rfl)]; rfl
theorem zor8 : ∀ a, a < 256 → ∀ i, i < 8 → (nI a ||| (1 <<< (nI i &&& 31))) = nI (a ||| 2 ^ i) := by decide +kernel
theorem sBn_le (S : Nat) : ∀ n, sBn S n ≤ n
  | 0 => Nat.le_refl _
  | n + 1 => by
    have := sBn_le S n
    rw [sBn]
    split <;> omega
set_option maxHeartbeats 4000000 in
set_option maxRecDepth 100000 in
theorem l_need {G : jG} {w : jWd} (hX : XInv w) (hI : sInv (abX w 1)) {Q : Option Value → jWd → Prop} (hQ : Q (some (.int (nI (sNd (abX w 1) (sM (abX w 1)))))) w) : ∀ n i : Nat, i + n = sM (abX w 1) → J G (jM G 4 RX6 cX6_needed 3 (some .int) (Q)) w 27 [some (.ref 0), some (.int (nI (sNd (abX w 1) i))), some (.int (nI i))] [] := by
  have hM : w.1 1 8 = nI (sM (abX w 1)) := (sIM hI).1
  have hM8 := (sIM hI).2
  obtain ⟨eS, hS⟩ := xB_on hI hX.1
  intro n
  induction n with
  | zero =>
    intro i hi
    refine J_iload_n (pc' := 28) dX6_needed_27 rfl rfl ?_
    refine J_aload_n (pc' := 29) dX6_needed_28 rfl rfl ?_
    refine J_getR (pc' := 32) dX6_needed_29 fl_6_12 (ly_0) (l84_0) rfl rfl ?_
    refine J_getI (pc' := 35) dX6_needed_32 fl_6_73 (ly_1) (l84_1) rfl rfl ?_
    rw [hM]
    refine J_icmp_ge 84 (pc' := 38) dX6_needed_35 (by decide) rfl (fun h_35 => ?_) (fun h_35 => absurd (nI_le (by omega) (by omega)) h_35)
    refine J_iload_n (pc' := 85) dX6_needed_84 rfl rfl ?_
    have ei : i = sM (abX w 1) := by omega
    subst ei
    exact J_iret dX6_needed_85  hQ
  | succ n ih =>
    intro i hi
    have h8 : i < 8 := by omega
    have hz := zoff _ hS i h8
    have hn := sNd_lt (σ := abX w 1) i (by omega)
    refine J_iload_n (pc' := 28) dX6_needed_27 rfl rfl ?_
    refine J_aload_n (pc' := 29) dX6_needed_28 rfl rfl ?_
    refine J_getR (pc' := 32) dX6_needed_29 fl_6_12 (ly_0) (l84_0) rfl rfl ?_
    refine J_getI (pc' := 35) dX6_needed_32 fl_6_73 (ly_1) (l84_1) rfl rfl ?_
    rw [hM]
    refine J_icmp_ge 84 (pc' := 38) dX6_needed_35 (by decide) rfl (fun h_35 => absurd h_35 (nI_ge (by omega) (by omega))) (fun h_35 => ?_)
    refine J_aload_n (pc' := 39) dX6_needed_38 rfl rfl ?_
    refine J_getR (pc' := 42) dX6_needed_39 fl_6_12 (ly_0) (l84_0) rfl rfl ?_
    refine J_iload_n (pc' := 43) dX6_needed_42 rfl rfl ?_
    refine J_V1v (pc' := 46) dX6_needed_43 lk_6_99 cd_X0_isOn (k_X0_isOn jb1 h8) (ly_1) (l84_1) rfl rfl (jroom_of rfl) (Nat.le_of_ble_eq_true rfl) rfl ?_
    refine J_if_eq 78 (pc' := 49) dX6_needed_46 (by decide) rfl (fun h_46 => ?_) (fun h_46 => ?_)
    · refine J_iinc (pc' := 81) dX6_needed_78 rfl (Nat.le_of_ble_eq_true rfl) (jst2 rfl rfl) rfl ?_
      refine J_goto (pc' := 0) 27 dX6_needed_81 (by decide) ?_
      have e : sNd (abX w 1) (i + 1) = sNd (abX w 1) i := by rw [sNd, if_neg (fun q => by first | exact jb_0.mp h_46 q.1 | exact q.2 (jb_n h_69))]
      have h2 := ih (i + 1) (by omega)
      rw [e, ← z1 i] at h2
      exact h2
    · refine J_aload_n (pc' := 50) dX6_needed_49 rfl rfl ?_
      refine J_getR (pc' := 53) dX6_needed_50 fl_6_12 (ly_0) (l84_0) rfl rfl ?_
      refine J_aload_n (pc' := 54) dX6_needed_53 rfl rfl ?_
      refine J_getR (pc' := 57) dX6_needed_54 fl_6_12 (ly_0) (l84_0) rfl rfl ?_
      refine J_getI (pc' := 60) dX6_needed_57 fl_6_178 (ly_1) (l84_1) rfl rfl ?_
      rw [eS]
      refine J_iconst (v := 1) (pc' := 61) dX6_needed_60 (by decide) rfl ?_
      refine J_iload_n (pc' := 62) dX6_needed_61 rfl rfl ?_
      refine J_ishl (pc' := 63) dX6_needed_62 rfl ?_
      refine J_iconst (v := -1) (pc' := 64) dX6_needed_63 (by decide) rfl ?_
      refine J_ixor (pc' := 65) dX6_needed_64 rfl ?_
      refine J_iand (pc' := 66) dX6_needed_65 rfl ?_
      rw [hz.1]
      refine J_V1v (pc' := 69) dX6_needed_66 lk_6_223 cd_X0_holds (k_X0_holds jb1 hI hz.2) (ly_1) (l84_1) rfl rfl (jroom_of rfl) (Nat.le_of_ble_eq_true rfl) rfl ?_
      refine J_if_ne 78 (pc' := 72) dX6_needed_69 (by decide) rfl (fun h_69 => ?_) (fun h_69 => ?_)
      · refine J_iinc (pc' := 81) dX6_needed_78 rfl (Nat.le_of_ble_eq_true rfl) (jst2 rfl rfl) rfl ?_
        refine J_goto (pc' := 0) 27 dX6_needed_81 (by decide) ?_
        have e : sNd (abX w 1) (i + 1) = sNd (abX w 1) i := by rw [sNd, if_neg (fun q => by first | exact jb_0.mp h_46 q.1 | exact q.2 (jb_n h_69))]
        have h2 := ih (i + 1) (by omega)
        rw [e, ← z1 i] at h2
        exact h2
      · refine J_iload_n (pc' := 73) dX6_needed_72 rfl rfl ?_
        refine J_iconst (v := 1) (pc' := 74) dX6_needed_73 (by decide) rfl ?_
        refine J_iload_n (pc' := 75) dX6_needed_74 rfl rfl ?_
        refine J_ishl (pc' := 76) dX6_needed_75 rfl ?_
        refine J_ior (pc' := 77) dX6_needed_76 rfl ?_
        rw [zor8 _ hn i h8]
        refine J_istore_n (pc' := 78) dX6_needed_77 (Nat.le_of_ble_eq_true rfl) (jst1 rfl rfl) rfl ?_
        refine J_iinc (pc' := 81) dX6_needed_78 rfl (Nat.le_of_ble_eq_true rfl) (jst2 rfl rfl) rfl ?_
        refine J_goto (pc' := 0) 27 dX6_needed_81 (by decide) ?_
        have e : sNd (abX w 1) (i + 1) = sNd (abX w 1) i ||| 2 ^ i := by rw [sNd, if_pos ⟨jb_n h_46, jb_0.mp (by first | exact h_69 | exact Decidable.not_not.mp h_69)⟩]
        have h2 := ih (i + 1) (by omega)
        rw [e, ← z1 i] at h2
        exact h2
def sq_needed (s k r : sg)  : sQI := if sTied s (sSet s) = 2 ^ sP s - 1 then (nI (sNd s (sM s)), s, k, r) else (sErr 3, s, k, sEr r 3)
set_option maxHeartbeats 4000000 in
set_option maxRecDepth 100000 in
theorem a_X6_needed {G : jG} {w : jWd} (hX : XInv w) (hI : sInv (abX w 1)) : jKp G 4 yX6_needed cX6_needed 3 (some .int) [.ref 0] w (some (.int (sq_needed (abX w 1) (abX w 16) (restX w)).1)) (fun w' => BQ w w' (sq_needed (abX w 1) (abX w 16) (restX w)).2) := by
  obtain ⟨eS, hS⟩ := xB_on hI hX.1
  refine jK_of (own := RX6) [some (.ref 0), none, none] pn6 rfl (Nat.le_of_ble_eq_true rfl) rfl ?_
  refine J_aload_n (pc' := 1) dX6_needed_0 rfl rfl ?_
  refine J_getR (pc' := 4) dX6_needed_1 fl_6_12 (ly_0) (l84_0) rfl rfl ?_
  refine J_aload_n (pc' := 5) dX6_needed_4 rfl rfl ?_
  refine J_getR (pc' := 8) dX6_needed_5 fl_6_12 (ly_0) (l84_0) rfl rfl ?_
  refine J_getI (pc' := 11) dX6_needed_8 fl_6_178 (ly_1) (l84_1) rfl rfl ?_
  rw [eS]
  refine J_V1v (pc' := 14) dX6_needed_11 lk_6_223 cd_X0_holds (k_X0_holds jb1 hI hS) (ly_1) (l84_1) rfl rfl (jroom_of rfl) (Nat.le_of_ble_eq_true rfl) rfl ?_
  refine J_if_ne 23 (pc' := 17) dX6_needed_14 (by decide) rfl (fun h_14 => ?_) (fun h_14 => ?_)
  · refine J_iconst (v := 0) (pc' := 24) dX6_needed_23 (by decide) rfl ?_
    refine J_istore_n (pc' := 25) dX6_needed_24 (Nat.le_of_ble_eq_true rfl) (jst1 rfl rfl) rfl ?_
    refine J_iconst (v := 0) (pc' := 26) dX6_needed_25 (by decide) rfl ?_
    refine J_istore_n (pc' := 27) dX6_needed_26 (Nat.le_of_ble_eq_true rfl) (jst2 rfl rfl) rfl ?_
    refine J_mask [true, true, true] (l_need hX hI ?_ (sM (abX w 1)) 0 (by omega))
    unfold sq_needed
    rw [if_pos (jb_n (by first | exact h_14 | exact Decidable.not_not.mp h_14))]
    exact ⟨rfl, bq_rf hX⟩
  · refine J_aload_n (pc' := 18) dX6_needed_17 rfl rfl ?_
    refine J_iconst (v := 3) (pc' := 19) dX6_needed_18 (by decide) rfl ?_
    refine J_V1v (pc' := 22) dX6_needed_19 lk_6_69 cd_X6_error (k_err3) (ly_0) (l84_0) rfl rfl (jroom_of rfl) (Nat.le_of_ble_eq_true rfl) rfl ?_
    exact J_iret dX6_needed_22  (by unfold sq_needed; rw [if_neg (jb_0.mp (by first | exact h_14 | exact Decidable.not_not.mp h_14))]; exact ⟨rfl, bq_err hX (by decide)⟩)
set_option maxHeartbeats 4000000 in
set_option maxRecDepth 100000 in
theorem l_spn {G : jG} {w : jWd} (hX : XInv w) (hI : sInv (abX w 1)) {Q : Option Value → jWd → Prop} (hQ : Q (some (.int (nI (sSp (abX w 1) 256).1))) w) : ∀ n i : Nat, i + n = 256 → 1 ≤ i → J G (jM G 5 RX6 cX6_spine 6 (some .int) (Q)) w 29 [some (.ref 0), some (.int (nI (sSp (abX w 1) i).1)), some (.int (sSp (abX w 1) i).2), some (.int (nI i)), none, none] [] := by
  have hP : w.1 1 10 = nI (sP (abX w 1)) := (sIP hI).1
  have hP4 := (sIP hI).2
  obtain ⟨eS, hS⟩ := xB_on hI hX.1
  intro n
  induction n with
  | zero =>
    intro i hi hi1
    refine J_iload_n (pc' := 30) dX6_spine_29 rfl rfl ?_
    refine J_sipush (v := 256) (pc' := 33) dX6_spine_30 (by decide) rfl ?_
    refine J_icmp_ge 114 (pc' := 36) dX6_spine_33 (by decide) rfl (fun h_33 => ?_) (fun h_33 => absurd (by rw [show (256 : Int32) = nI 256 from by decide]; exact nI_le (by omega) (by omega)) h_33)
    refine J_iload_n (pc' := 115) dX6_spine_114 rfl rfl ?_
    have ei : i = 256 := by omega
    subst ei
    exact J_iret dX6_spine_115  hQ
  | succ n ih =>
    intro i hi hi1
    have h256 : i < 256 := by omega
    refine J_iload_n (pc' := 30) dX6_spine_29 rfl rfl ?_
    refine J_sipush (v := 256) (pc' := 33) dX6_spine_30 (by decide) rfl ?_
    refine J_icmp_ge 114 (pc' := 36) dX6_spine_33 (by decide) rfl (fun h_33 => absurd h_33 (by rw [show (256 : Int32) = nI 256 from by decide]; exact nI_ge (by omega) (by omega))) (fun h_33 => ?_)
    refine J_iload_n (pc' := 37) dX6_spine_36 rfl rfl ?_
    refine J_S1v (pc' := 40) dX6_spine_37 lk_6_181 cd_J6_bitCount_0f7a4 (k_J6_bitCount_0f7a4) (jroom_of rfl) (Nat.le_of_ble_eq_true rfl) rfl ?_
    rw [sBc_n i h256]
    refine J_aload_n (pc' := 41) dX6_spine_40 rfl rfl ?_
    refine J_getR (pc' := 44) dX6_spine_41 fl_6_12 (ly_0) (l84_0) rfl rfl ?_
    refine J_getI (pc' := 47) dX6_spine_44 fl_6_124 (ly_1) (l84_1) rfl rfl ?_
    rw [hP]
    refine J_icmp_ne 68 (pc' := 50) dX6_spine_47 (by decide) rfl (fun h_47 => ?_) (fun h_47 => ?_)
    · refine J_iconst (v := 0) (pc' := 69) dX6_spine_68 (by decide) rfl ?_
      refine J_istore (pc' := 71) dX6_spine_69 (Nat.le_of_ble_eq_true rfl) (jst4 rfl rfl) rfl ?_
      refine J_iload (pc' := 73) dX6_spine_71 rfl rfl ?_
      refine J_if_eq 108 (pc' := 76) dX6_spine_73 (by decide) rfl (fun h_73 => ?_) (fun h_73 => absurd (by decide) h_73)
      refine J_iinc (pc' := 111) dX6_spine_108 rfl (Nat.le_of_ble_eq_true rfl) (jst3 rfl rfl) rfl ?_
      refine J_goto (pc' := 0) 29 dX6_spine_111 (by decide) ?_
      have hC : ¬ (i ≠ 0 ∧ sSpC (abX w 1) i (sSp (abX w 1) i).2) := fun q => by first | exact (jb_0.mp h_84) q.2.2.2.1 | exact Int32.not_lt.mpr h_100 q.2.2.2.2 | exact h_47 ((nI_eq (by have := sBn_le i 8; omega) (by omega)).mpr q.2.1) | exact h_61 q.2.2.1 | exact absurd q.2.2.1 h_61
      have e : sSp (abX w 1) (i + 1) = sSp (abX w 1) i := by rw [sSp, if_neg hC]
      have h2 := ih (i + 1) (by omega) (by omega)
      rw [e, ← z1 i] at h2
      exact J_mask [true, true, true, true, false, false] h2
    · refine J_iload_n (pc' := 51) dX6_spine_50 rfl rfl ?_
      refine J_aload_n (pc' := 52) dX6_spine_51 rfl rfl ?_
      refine J_getR (pc' := 55) dX6_spine_52 fl_6_12 (ly_0) (l84_0) rfl rfl ?_
      refine J_getI (pc' := 58) dX6_spine_55 fl_6_178 (ly_1) (l84_1) rfl rfl ?_
      rw [eS]
      refine J_iconst (v := -1) (pc' := 59) dX6_spine_58 (by decide) rfl ?_
      refine J_ixor (pc' := 60) dX6_spine_59 rfl ?_
      refine J_iand (pc' := 61) dX6_spine_60 rfl ?_
      refine J_if_ne 68 (pc' := 64) dX6_spine_61 (by decide) rfl (fun h_61 => ?_) (fun h_61 => ?_)
      · refine J_iconst (v := 0) (pc' := 69) dX6_spine_68 (by decide) rfl ?_
        refine J_istore (pc' := 71) dX6_spine_69 (Nat.le_of_ble_eq_true rfl) (jst4 rfl rfl) rfl ?_
        refine J_iload (pc' := 73) dX6_spine_71 rfl rfl ?_
        refine J_if_eq 108 (pc' := 76) dX6_spine_73 (by decide) rfl (fun h_73 => ?_) (fun h_73 => absurd (by decide) h_73)
        refine J_iinc (pc' := 111) dX6_spine_108 rfl (Nat.le_of_ble_eq_true rfl) (jst3 rfl rfl) rfl ?_
        refine J_goto (pc' := 0) 29 dX6_spine_111 (by decide) ?_
        have hC : ¬ (i ≠ 0 ∧ sSpC (abX w 1) i (sSp (abX w 1) i).2) := fun q => by first | exact (jb_0.mp h_84) q.2.2.2.1 | exact Int32.not_lt.mpr h_100 q.2.2.2.2 | exact h_47 ((nI_eq (by have := sBn_le i 8; omega) (by omega)).mpr q.2.1) | exact h_61 q.2.2.1 | exact absurd q.2.2.1 h_61
        have e : sSp (abX w 1) (i + 1) = sSp (abX w 1) i := by rw [sSp, if_neg hC]
        have h2 := ih (i + 1) (by omega) (by omega)
        rw [e, ← z1 i] at h2
        exact J_mask [true, true, true, true, false, false] h2
      · refine J_iconst (v := 1) (pc' := 65) dX6_spine_64 (by decide) rfl ?_
        refine J_goto (pc' := 0) 69 dX6_spine_65 (by decide) ?_
        refine J_istore (pc' := 71) dX6_spine_69 (Nat.le_of_ble_eq_true rfl) (jst4 rfl rfl) rfl ?_
        refine J_iload (pc' := 73) dX6_spine_71 rfl rfl ?_
        refine J_if_eq 108 (pc' := 76) dX6_spine_73 (by decide) rfl (fun h_73 => absurd h_73 (by decide)) (fun h_73 => ?_)
        refine J_aload_n (pc' := 77) dX6_spine_76 rfl rfl ?_
        refine J_getR (pc' := 80) dX6_spine_77 fl_6_12 (ly_0) (l84_0) rfl rfl ?_
        refine J_iload_n (pc' := 81) dX6_spine_80 rfl rfl ?_
        refine J_V1v (pc' := 84) dX6_spine_81 lk_6_223 cd_X0_holds (k_X0_holds jb1 hI h256) (ly_1) (l84_1) rfl rfl (jroom_of rfl) (Nat.le_of_ble_eq_true rfl) rfl ?_
        refine J_if_eq 108 (pc' := 87) dX6_spine_84 (by decide) rfl (fun h_84 => ?_) (fun h_84 => ?_)
        · refine J_iinc (pc' := 111) dX6_spine_108 rfl (Nat.le_of_ble_eq_true rfl) (jst3 rfl rfl) rfl ?_
          refine J_goto (pc' := 0) 29 dX6_spine_111 (by decide) ?_
          have hC : ¬ (i ≠ 0 ∧ sSpC (abX w 1) i (sSp (abX w 1) i).2) := fun q => by first | exact (jb_0.mp h_84) q.2.2.2.1 | exact Int32.not_lt.mpr h_100 q.2.2.2.2 | exact h_47 ((nI_eq (by have := sBn_le i 8; omega) (by omega)).mpr q.2.1) | exact h_61 q.2.2.1 | exact absurd q.2.2.1 h_61
          have e : sSp (abX w 1) (i + 1) = sSp (abX w 1) i := by rw [sSp, if_neg hC]
          have h2 := ih (i + 1) (by omega) (by omega)
          rw [e, ← z1 i] at h2
          exact J_mask [true, true, true, true, false, false] h2
        · refine J_aload_n (pc' := 88) dX6_spine_87 rfl rfl ?_
          refine J_getR (pc' := 91) dX6_spine_88 fl_6_12 (ly_0) (l84_0) rfl rfl ?_
          refine J_iload_n (pc' := 92) dX6_spine_91 rfl rfl ?_
          refine J_V1v (pc' := 95) dX6_spine_92 lk_6_226 cd_X0_weightOfAll (k_X0_weightOfAll jb1 hI hX.1 h256) (ly_1) (l84_1) rfl rfl (jroom_of rfl) (Nat.le_of_ble_eq_true rfl) rfl ?_
          refine J_istore (pc' := 97) dX6_spine_95 (Nat.le_of_ble_eq_true rfl) (jst5 rfl rfl) rfl ?_
          refine J_iload (pc' := 99) dX6_spine_97 rfl rfl ?_
          refine J_iload_n (pc' := 100) dX6_spine_99 rfl rfl ?_
          refine J_icmp_le 108 (pc' := 103) dX6_spine_100 (by decide) rfl (fun h_100 => ?_) (fun h_100 => ?_)
          · refine J_iinc (pc' := 111) dX6_spine_108 rfl (Nat.le_of_ble_eq_true rfl) (jst3 rfl rfl) rfl ?_
            refine J_goto (pc' := 0) 29 dX6_spine_111 (by decide) ?_
            have hC : ¬ (i ≠ 0 ∧ sSpC (abX w 1) i (sSp (abX w 1) i).2) := fun q => by first | exact (jb_0.mp h_84) q.2.2.2.1 | exact Int32.not_lt.mpr h_100 q.2.2.2.2 | exact h_47 ((nI_eq (by have := sBn_le i 8; omega) (by omega)).mpr q.2.1) | exact h_61 q.2.2.1 | exact absurd q.2.2.1 h_61
            have e : sSp (abX w 1) (i + 1) = sSp (abX w 1) i := by rw [sSp, if_neg hC]
            have h2 := ih (i + 1) (by omega) (by omega)
            rw [e, ← z1 i] at h2
            exact J_mask [true, true, true, true, false, false] h2
          · refine J_iload (pc' := 105) dX6_spine_103 rfl rfl ?_
            refine J_istore_n (pc' := 106) dX6_spine_105 (Nat.le_of_ble_eq_true rfl) (jst2 rfl rfl) rfl ?_
            refine J_iload_n (pc' := 107) dX6_spine_106 rfl rfl ?_
            refine J_istore_n (pc' := 108) dX6_spine_107 (Nat.le_of_ble_eq_true rfl) (jst1 rfl rfl) rfl ?_
            refine J_iinc (pc' := 111) dX6_spine_108 rfl (Nat.le_of_ble_eq_true rfl) (jst3 rfl rfl) rfl ?_
            refine J_goto (pc' := 0) 29 dX6_spine_111 (by decide) ?_
            have hC : i ≠ 0 ∧ sSpC (abX w 1) i (sSp (abX w 1) i).2 := ⟨by omega, (nI_eq (by have := sBn_le i 8; omega) (by omega)).mp (by first | exact h_47 | exact Decidable.not_not.mp h_47), by first | exact h_61 | exact Decidable.not_not.mp h_61, jb_n h_84, Int32.not_le.mp h_100⟩
            have e : sSp (abX w 1) (i + 1) = (i, sWAll (abX w 1) i (sM (abX w 1))) := by rw [sSp, if_pos hC]
            have h2 := ih (i + 1) (by omega) (by omega)
            rw [e, ← z1 i] at h2
            exact J_mask [true, true, true, true, false, false] h2
def sq_spine (s k r : sg)  : sQI := if sTied s (sSet s) = 2 ^ sP s - 1 then (nI (sSp s 256).1, s, k, r) else (sErr 3, s, k, sEr r 3)
set_option maxHeartbeats 4000000 in
set_option maxRecDepth 100000 in
theorem a_X6_spine {G : jG} {w : jWd} (hX : XInv w) (hI : sInv (abX w 1)) : jKp G 5 yX6_spine cX6_spine 6 (some .int) [.ref 0] w (some (.int (sq_spine (abX w 1) (abX w 16) (restX w)).1)) (fun w' => BQ w w' (sq_spine (abX w 1) (abX w 16) (restX w)).2) := by
  obtain ⟨eS, hS⟩ := xB_on hI hX.1
  refine jK_of (own := RX6) [some (.ref 0), none, none, none, none, none] pn6 rfl (Nat.le_of_ble_eq_true rfl) rfl ?_
  refine J_aload_n (pc' := 1) dX6_spine_0 rfl rfl ?_
  refine J_getR (pc' := 4) dX6_spine_1 fl_6_12 (ly_0) (l84_0) rfl rfl ?_
  refine J_aload_n (pc' := 5) dX6_spine_4 rfl rfl ?_
  refine J_getR (pc' := 8) dX6_spine_5 fl_6_12 (ly_0) (l84_0) rfl rfl ?_
  refine J_getI (pc' := 11) dX6_spine_8 fl_6_178 (ly_1) (l84_1) rfl rfl ?_
  rw [eS]
  refine J_V1v (pc' := 14) dX6_spine_11 lk_6_223 cd_X0_holds (k_X0_holds jb1 hI hS) (ly_1) (l84_1) rfl rfl (jroom_of rfl) (Nat.le_of_ble_eq_true rfl) rfl ?_
  refine J_if_ne 23 (pc' := 17) dX6_spine_14 (by decide) rfl (fun h_14 => ?_) (fun h_14 => ?_)
  · refine J_iconst (v := 0) (pc' := 24) dX6_spine_23 (by decide) rfl ?_
    refine J_istore_n (pc' := 25) dX6_spine_24 (Nat.le_of_ble_eq_true rfl) (jst1 rfl rfl) rfl ?_
    refine J_iconst (v := 0) (pc' := 26) dX6_spine_25 (by decide) rfl ?_
    refine J_istore_n (pc' := 27) dX6_spine_26 (Nat.le_of_ble_eq_true rfl) (jst2 rfl rfl) rfl ?_
    refine J_iconst (v := 1) (pc' := 28) dX6_spine_27 (by decide) rfl ?_
    refine J_istore_n (pc' := 29) dX6_spine_28 (Nat.le_of_ble_eq_true rfl) (jst3 rfl rfl) rfl ?_
    have h2 := fun hq => l_spn hX hI (G := G) (Q := fun r' w' => r' = some (.int (sq_spine (abX w 1) (abX w 16) (restX w)).1) ∧ BQ w w' (sq_spine (abX w 1) (abX w 16) (restX w)).2) hq 255 1 (by omega) (by omega)
    rw [sSp_1] at h2
    refine J_mask [true, true, true, true, false, false] (h2 ?_)
    unfold sq_spine
    rw [if_pos (jb_n (by first | exact h_14 | exact Decidable.not_not.mp h_14))]
    exact ⟨rfl, bq_rf hX⟩
  · refine J_aload_n (pc' := 18) dX6_spine_17 rfl rfl ?_
    refine J_iconst (v := 3) (pc' := 19) dX6_spine_18 (by decide) rfl ?_
    refine J_V1v (pc' := 22) dX6_spine_19 lk_6_69 cd_X6_error (k_err3) (ly_0) (l84_0) rfl rfl (jroom_of rfl) (Nat.le_of_ble_eq_true rfl) rfl ?_
    exact J_iret dX6_spine_22  (by unfold sq_spine; rw [if_neg (jb_0.mp (by first | exact h_14 | exact Decidable.not_not.mp h_14))]; exact ⟨rfl, bq_err hX (by decide)⟩)
