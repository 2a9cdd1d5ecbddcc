/-! ===== the reference: the spine ===== -/
/-! ===== the reference: the spine ===== -/
theorem zlow : ∀ S, S < 256 → S ≠ 0 → (nI S &&& (nI S - 1)) = nI (S &&& (S - 1)) ∧ sBn (S &&& (S - 1)) 8 + 1 = sBn S 8 ∧ S &&& (S - 1) < 256 := by decide +kernel
theorem zBn0 : ∀ S, S < 256 → (sBn S 8 = 0 ↔ S = 0) := by decide +kernel
set_option maxHeartbeats 4000000 in
set_option maxRecDepth 100000 in
theorem l_mbits {G : jG} {w : jWd} {x : Int32} : ∀ n S j : Nat, S < 256 → sBn S 8 = n → ∀ (Q : Option Value → jWd → Prop) (_ : Q (some (.int (nI (j + n)))) w), J G (jM G 0 RX7 cX7_bits 3 (some .int) (Q)) w 4 [some (.int x), some (.int (nI j)), some (.int (nI S))] [] := by
  intro n
  induction n with
  | zero =>
    intro S j hS hj Q hQ
    refine J_iload_n (pc' := 5) dX7_bits_4 rfl rfl ?_
    refine J_if_eq 20 (pc' := 8) dX7_bits_5 (by decide) rfl (fun h_5 => ?_) (fun h_5 => absurd (by rw [(zBn0 S hS).mp hj]; exact nI_0) h_5)
    refine J_iload_n (pc' := 21) dX7_bits_20 rfl rfl ?_
    exact J_iret dX7_bits_21  hQ
  | succ n ih =>
    intro S j hS hj Q hQ
    have h0 : S ≠ 0 := fun q => by have := (zBn0 S hS).mpr q; omega
    have hz := zlow S hS h0
    refine J_iload_n (pc' := 5) dX7_bits_4 rfl rfl ?_
    refine J_if_eq 20 (pc' := 8) dX7_bits_5 (by decide) rfl (fun h_5 => absurd h_5 (nI_ne0 (Nat.pos_of_ne_zero h0) (by omega))) (fun h_5 => ?_)
    refine J_iinc (pc' := 11) dX7_bits_8 rfl (Nat.le_of_ble_eq_true rfl) (jst1 rfl rfl) rfl ?_
    refine J_iload_n (pc' := 12) dX7_bits_11 rfl rfl ?_
    refine J_iload_n (pc' := 13) dX7_bits_12 rfl rfl ?_
    refine J_iconst (v := 1) (pc' := 14) dX7_bits_13 (by decide) rfl ?_
    refine J_isub (pc' := 15) dX7_bits_14 rfl ?_
    refine J_iand (pc' := 16) dX7_bits_15 rfl ?_
    rw [hz.1]
    refine J_istore_n (pc' := 17) dX7_bits_16 (Nat.le_of_ble_eq_true rfl) (jst2 rfl rfl) rfl ?_
    refine J_goto (pc' := 0) 4 dX7_bits_17 (by decide) ?_
    have h2 := ih (S &&& (S - 1)) (j + 1) hz.2.2 (by omega) Q (by rw [show j + 1 + n = j + (n + 1) by omega]; exact hQ)
    rw [← z1 j] at h2
    exact h2
set_option maxHeartbeats 4000000 in
set_option maxRecDepth 100000 in
theorem k_mbits {G : jG} {w : jWd} {S : Nat} (hS : S < 256) : jKd G 0 yX7_bits cX7_bits 3 (some .int) [.int (nI S)] w (some (.int (nI (sBn S 8)))) w := by
  refine jK_of (own := RX7) [some (.int (nI S)), none, none] pn7 rfl (Nat.le_of_ble_eq_true rfl) rfl ?_
  refine J_iconst (v := 0) (pc' := 1) dX7_bits_0 (by decide) rfl ?_
  refine J_istore_n (pc' := 2) dX7_bits_1 (Nat.le_of_ble_eq_true rfl) (jst1 rfl rfl) rfl ?_
  refine J_iload_n (pc' := 3) dX7_bits_2 rfl rfl ?_
  refine J_istore_n (pc' := 4) dX7_bits_3 (Nat.le_of_ble_eq_true rfl) (jst2 rfl rfl) rfl ?_
  have h2 := l_mbits (G := G) (w := w) (x := nI S) (sBn S 8) S 0 hS rfl (fun r' w' => r' = some (.int (nI (sBn S 8))) ∧ w' = w) ⟨by rw [Nat.zero_add], rfl⟩
  exact h2
set_option maxHeartbeats 4000000 in
set_option maxRecDepth 100000 in
theorem l_mwo {G : jG} {w : jWd} (hI : sInv (abM (w.1 69))) (hT : mT (w.1 69)) {S : Nat} (hS : S < 256) : ∀ n j : Nat, j + n = sM (abM (w.1 69)) → J G (jM G 5 RX7 cX7_weightOf 4 (some .int) ((fun r' w' => r' = some (.int (sWAll (abM (w.1 69)) S (sM (abM (w.1 69))))) ∧ w' = w))) w 4 [some (.ref 68), some (.int (nI S)), some (.int (sWAll (abM (w.1 69)) S j)), some (.int (nI j))] [] := by
  have hM : w.1 69 2 = nI (sM (abM (w.1 69))) := (sIM hI).1
  have hM8 := (sIM hI).2
  intro n
  induction n with
  | zero =>
    intro j hj 
    refine J_iload_n (pc' := 5) dX7_weightOf_4 rfl rfl ?_
    refine J_aload_n (pc' := 6) dX7_weightOf_5 rfl rfl ?_
    refine J_getR (pc' := 9) dX7_weightOf_6 fl_7_9 (ly_68) (l84_68) rfl rfl ?_
    refine J_iconst (v := 2) (pc' := 10) dX7_weightOf_9 (by decide) rfl ?_
    refine J_iald 2 (pc' := 11) dX7_weightOf_10 (ly_69) (l84_69) nIc_2 (by decide) (by decide) rfl ?_
    refine J_icmp_ge 41 (pc' := 14) dX7_weightOf_11 (by decide) rfl (fun h_11 => ?_) (fun h_11 => absurd (by rw [hM]; exact nI_le (by omega) (by omega)) h_11)
    refine J_iload_n (pc' := 42) dX7_weightOf_41 rfl rfl ?_
    obtain rfl : j = sM (abM (w.1 69)) := by omega
    exact J_iret dX7_weightOf_42  ⟨rfl, rfl⟩
  | succ n ih =>
    intro j hj 
    have h8 : j < 8 := by omega
    have hb := zbit S hS j h8
    refine J_iload_n (pc' := 5) dX7_weightOf_4 rfl rfl ?_
    refine J_aload_n (pc' := 6) dX7_weightOf_5 rfl rfl ?_
    refine J_getR (pc' := 9) dX7_weightOf_6 fl_7_9 (ly_68) (l84_68) rfl rfl ?_
    refine J_iconst (v := 2) (pc' := 10) dX7_weightOf_9 (by decide) rfl ?_
    refine J_iald 2 (pc' := 11) dX7_weightOf_10 (ly_69) (l84_69) nIc_2 (by decide) (by decide) rfl ?_
    refine J_icmp_ge 41 (pc' := 14) dX7_weightOf_11 (by decide) rfl (fun h_11 => absurd h_11 (by rw [hM]; exact nI_ge (by omega) (by omega))) (fun h_11 => ?_)
    refine J_iload_n (pc' := 15) dX7_weightOf_14 rfl rfl ?_
    refine J_iload_n (pc' := 16) dX7_weightOf_15 rfl rfl ?_
    refine J_iload_n (pc' := 17) dX7_weightOf_16 rfl rfl ?_
    refine J_ishr (pc' := 18) dX7_weightOf_17 rfl ?_
    refine J_iconst (v := 1) (pc' := 19) dX7_weightOf_18 (by decide) rfl ?_
    refine J_iand (pc' := 20) dX7_weightOf_19 rfl ?_
    refine J_iconst (v := 1) (pc' := 21) dX7_weightOf_20 (by decide) rfl ?_
    refine J_icmp_ne 32 (pc' := 24) dX7_weightOf_21 (by decide) rfl (fun h_21 => ?_) (fun h_21 => ?_)
    · refine J_iconst (v := 0) (pc' := 33) dX7_weightOf_32 (by decide) rfl ?_
      refine J_iadd (pc' := 34) dX7_weightOf_33 rfl ?_
      refine J_istore_n (pc' := 35) dX7_weightOf_34 (Nat.le_of_ble_eq_true rfl) (jst2 rfl rfl) rfl ?_
      refine J_iinc (pc' := 38) dX7_weightOf_35 rfl (Nat.le_of_ble_eq_true rfl) (jst3 rfl rfl) rfl ?_
      refine J_goto (pc' := 0) 4 dX7_weightOf_38 (by decide) ?_
      have e : sWAll (abM (w.1 69)) S (j + 1) = sWAll (abM (w.1 69)) S j + 0 := by rw [sWAll, if_neg (fun q => h_21 (hb.mpr q))]
      have h2 := ih (j + 1) (by omega)
      rw [e, ← z1 j] at h2
      exact h2
    · refine J_aload_n (pc' := 25) dX7_weightOf_24 rfl rfl ?_
      refine J_iload_n (pc' := 26) dX7_weightOf_25 rfl rfl ?_
      refine J_V1v (pc' := 29) dX7_weightOf_26 lk_7_90 cd_X7_weight (k_mwt hI hT (by omega)) (ly_68) (l84_68) rfl rfl (jroom_of rfl) (Nat.le_of_ble_eq_true rfl) rfl ?_
      refine J_goto (pc' := 0) 33 dX7_weightOf_29 (by decide) ?_
      refine J_iadd (pc' := 34) dX7_weightOf_33 rfl ?_
      refine J_istore_n (pc' := 35) dX7_weightOf_34 (Nat.le_of_ble_eq_true rfl) (jst2 rfl rfl) rfl ?_
      refine J_iinc (pc' := 38) dX7_weightOf_35 rfl (Nat.le_of_ble_eq_true rfl) (jst3 rfl rfl) rfl ?_
      refine J_goto (pc' := 0) 4 dX7_weightOf_38 (by decide) ?_
      have e : sWAll (abM (w.1 69)) S (j + 1) = sWAll (abM (w.1 69)) S j + sW (abM (w.1 69)) j := by rw [sWAll, if_pos (hb.mp (by first | exact h_21 | exact Decidable.not_not.mp h_21))]
      have h2 := ih (j + 1) (by omega)
      rw [e, ← z1 j] at h2
      exact h2
set_option maxHeartbeats 4000000 in
set_option maxRecDepth 100000 in
theorem k_mwo {G : jG} {w : jWd} (hI : sInv (abM (w.1 69))) (hT : mT (w.1 69)) {S : Nat} (hS : S < 256) : jKd G 5 yX7_weightOf cX7_weightOf 4 (some .int) [.ref 68, .int (nI S)] w (some (.int (sWAll (abM (w.1 69)) S (sM (abM (w.1 69)))))) w := by
  refine jK_of (own := RX7) [some (.ref 68), some (.int (nI S)), none, none] pn7 rfl (Nat.le_of_ble_eq_true rfl) rfl ?_
  refine J_iconst (v := 0) (pc' := 1) dX7_weightOf_0 (by decide) rfl ?_
  refine J_istore_n (pc' := 2) dX7_weightOf_1 (Nat.le_of_ble_eq_true rfl) (jst2 rfl rfl) rfl ?_
  refine J_iconst (v := 0) (pc' := 3) dX7_weightOf_2 (by decide) rfl ?_
  refine J_istore_n (pc' := 4) dX7_weightOf_3 (Nat.le_of_ble_eq_true rfl) (jst3 rfl rfl) rfl ?_
  exact l_mwo hI hT hS (sM (abM (w.1 69))) 0 (by omega)
/-- one set more, against the best yet -/
def mSt (σ : sg) (S b : Nat) : Nat := if ((nI S &&& (nI (sSet σ) ^^^ (-1))) = 0 ∧ sBn S 8 ≤ sBn b 8 ∧ sTied σ S = 2 ^ sP σ - 1) ∧ (sBn S 8 < sBn b 8 ∨ sWAll σ b (sM σ) ≤ sWAll σ S (sM σ)) then S else b
/-- the sets from S down to 1 less, n of them, are done -/
def mSp (σ : sg) : Nat → Nat
  | 0 => sSet σ
  | n + 1 => mSt σ (sSet σ - n) (mSp σ n)
theorem mSp_lt {σ : sg} (hI : sInv σ) : ∀ n, mSp σ n < 256
  | 0 => sSet_lt2 hI
  | n + 1 => by
    have h1 := sSet_lt2 hI
    rw [mSp]
    unfold mSt
    split
    · omega
    · exact mSp_lt hI n
set_option maxHeartbeats 4000000 in
set_option maxRecDepth 100000 in
theorem l_msp {G : jG} {w : jWd} (hI : sInv (abM (w.1 69))) (hT : mT (w.1 69)) : ∀ n j : Nat, j + n = sSet (abM (w.1 69)) + 1 → ∀ (Q : Option Value → jWd → Prop) (_ : Q (some (.int (nI (mSp (abM (w.1 69)) (sSet (abM (w.1 69)) + 1))))) w), J G (jM G 6 RX7 cX7_spine 5 (some .int) (Q)) w 24 [some (.ref 68), some (.int (nI (sSet (abM (w.1 69))))), some (.int (nI (mSp (abM (w.1 69)) j))), some (.int (nI n - 1)), none] [] := by
  have hS := sSet_lt2 hI
  intro n
  induction n with
  | zero =>
    intro j hj Q hQ
    refine J_iload_n (pc' := 25) dX7_spine_24 rfl rfl ?_
    refine J_if_lt 103 (pc' := 28) dX7_spine_25 (by decide) rfl (fun h_25 => ?_) (fun h_25 => absurd (by decide) h_25)
    refine J_iload_n (pc' := 104) dX7_spine_103 rfl rfl ?_
    obtain rfl : j = sSet (abM (w.1 69)) + 1 := by omega
    exact J_iret dX7_spine_104  hQ
  | succ n ih =>
    intro j hj Q hQ
    have hval : nI (n + 1) - 1 = nI (sSet (abM (w.1 69)) - j) := by rw [show (sSet (abM (w.1 69)) - j) = n by omega]; exact nI_pred n
    have hS1 : (sSet (abM (w.1 69)) - j) < 256 := by omega
    have hB := mSp_lt hI j
    have hb1 := sBn_le (sSet (abM (w.1 69)) - j) 8
    have hb2 := sBn_le (mSp (abM (w.1 69)) j) 8
    have hdn : nI (sSet (abM (w.1 69)) - j) + Int32.ofInt (-1) = nI n - 1 := by rw [show (sSet (abM (w.1 69)) - j) = n by omega]; exact (Int32.sub_eq_add_neg (nI n) 1).symm
    rw [hval]
    refine J_iload_n (pc' := 25) dX7_spine_24 rfl rfl ?_
    refine J_if_lt 103 (pc' := 28) dX7_spine_25 (by decide) rfl (fun h_25 => absurd h_25 (nI_pos (by omega))) (fun h_25 => ?_)
    refine J_iload_n (pc' := 29) dX7_spine_28 rfl rfl ?_
    refine J_iload_n (pc' := 30) dX7_spine_29 rfl rfl ?_
    refine J_iconst (v := -1) (pc' := 31) dX7_spine_30 (by decide) rfl ?_
    refine J_ixor (pc' := 32) dX7_spine_31 rfl ?_
    refine J_iand (pc' := 33) dX7_spine_32 rfl ?_
    refine J_if_ne 59 (pc' := 36) dX7_spine_33 (by decide) rfl (fun h_33 => ?_) (fun h_33 => ?_)
    · refine J_iconst (v := 0) (pc' := 60) dX7_spine_59 (by decide) rfl ?_
      refine J_istore (pc' := 62) dX7_spine_60 (Nat.le_of_ble_eq_true rfl) (jst4 rfl rfl) rfl ?_
      refine J_iload (pc' := 64) dX7_spine_62 rfl rfl ?_
      refine J_if_eq 95 (pc' := 67) dX7_spine_64 (by decide) rfl (fun h_64 => ?_) (fun h_64 => absurd rfl h_64)
      refine J_iload_n (pc' := 96) dX7_spine_95 rfl rfl ?_
      refine J_istore_n (pc' := 97) dX7_spine_96 (Nat.le_of_ble_eq_true rfl) (jst2 rfl rfl) rfl ?_
      refine J_iinc (pc' := 100) dX7_spine_97 rfl (Nat.le_of_ble_eq_true rfl) (jst3 rfl rfl) rfl ?_
      refine J_goto (pc' := 0) 24 dX7_spine_100 (by decide) ?_
      have e : mSp (abM (w.1 69)) (j + 1) = (mSp (abM (w.1 69)) j) := if_neg (show ¬ (((nI (sSet (abM (w.1 69)) - j) &&& (nI (sSet (abM (w.1 69))) ^^^ (-1))) = 0 ∧ sBn (sSet (abM (w.1 69)) - j) 8 ≤ sBn (mSp (abM (w.1 69)) j) 8 ∧ sTied (abM (w.1 69)) (sSet (abM (w.1 69)) - j) = 2 ^ sP (abM (w.1 69)) - 1) ∧ (sBn (sSet (abM (w.1 69)) - j) 8 < sBn (mSp (abM (w.1 69)) j) 8 ∨ sWAll (abM (w.1 69)) (mSp (abM (w.1 69)) j) (sM (abM (w.1 69))) ≤ sWAll (abM (w.1 69)) (sSet (abM (w.1 69)) - j) (sM (abM (w.1 69))))) from fun q => by first | exact h_33 q.1.1 | exact absurd h_44 (Int32.not_lt.mpr ((nI_leI (by omega) (by omega)).mpr q.1.2.1)) | exact jb_0.mp h_52 q.1.2.2 | exact q.2.elim (fun r => h_75 ((nI_ltI (by omega) (by omega)).mpr r)) (fun r => absurd h_88 (Int32.not_lt.mpr r)))
      have h2 := ih (j + 1) (by omega) Q hQ
      rw [e] at h2
      rw [hdn]
      exact J_mask [true, true, true, true, false] h2
    · refine J_iload_n (pc' := 37) dX7_spine_36 rfl rfl ?_
      refine J_S1v (pc' := 40) dX7_spine_37 lk_7_218 cd_X7_bits (k_mbits hS1) (jroom_of rfl) (Nat.le_of_ble_eq_true rfl) rfl ?_
      refine J_iload_n (pc' := 41) dX7_spine_40 rfl rfl ?_
      refine J_S1v (pc' := 44) dX7_spine_41 lk_7_218 cd_X7_bits (k_mbits hB) (jroom_of rfl) (Nat.le_of_ble_eq_true rfl) rfl ?_
      refine J_icmp_gt 59 (pc' := 47) dX7_spine_44 (by decide) rfl (fun h_44 => ?_) (fun h_44 => ?_)
      · refine J_iconst (v := 0) (pc' := 60) dX7_spine_59 (by decide) rfl ?_
        refine J_istore (pc' := 62) dX7_spine_60 (Nat.le_of_ble_eq_true rfl) (jst4 rfl rfl) rfl ?_
        refine J_iload (pc' := 64) dX7_spine_62 rfl rfl ?_
        refine J_if_eq 95 (pc' := 67) dX7_spine_64 (by decide) rfl (fun h_64 => ?_) (fun h_64 => absurd rfl h_64)
        refine J_iload_n (pc' := 96) dX7_spine_95 rfl rfl ?_
        refine J_istore_n (pc' := 97) dX7_spine_96 (Nat.le_of_ble_eq_true rfl) (jst2 rfl rfl) rfl ?_
        refine J_iinc (pc' := 100) dX7_spine_97 rfl (Nat.le_of_ble_eq_true rfl) (jst3 rfl rfl) rfl ?_
        refine J_goto (pc' := 0) 24 dX7_spine_100 (by decide) ?_
        have e : mSp (abM (w.1 69)) (j + 1) = (mSp (abM (w.1 69)) j) := if_neg (show ¬ (((nI (sSet (abM (w.1 69)) - j) &&& (nI (sSet (abM (w.1 69))) ^^^ (-1))) = 0 ∧ sBn (sSet (abM (w.1 69)) - j) 8 ≤ sBn (mSp (abM (w.1 69)) j) 8 ∧ sTied (abM (w.1 69)) (sSet (abM (w.1 69)) - j) = 2 ^ sP (abM (w.1 69)) - 1) ∧ (sBn (sSet (abM (w.1 69)) - j) 8 < sBn (mSp (abM (w.1 69)) j) 8 ∨ sWAll (abM (w.1 69)) (mSp (abM (w.1 69)) j) (sM (abM (w.1 69))) ≤ sWAll (abM (w.1 69)) (sSet (abM (w.1 69)) - j) (sM (abM (w.1 69))))) from fun q => by first | exact h_33 q.1.1 | exact absurd h_44 (Int32.not_lt.mpr ((nI_leI (by omega) (by omega)).mpr q.1.2.1)) | exact jb_0.mp h_52 q.1.2.2 | exact q.2.elim (fun r => h_75 ((nI_ltI (by omega) (by omega)).mpr r)) (fun r => absurd h_88 (Int32.not_lt.mpr r)))
        have h2 := ih (j + 1) (by omega) Q hQ
        rw [e] at h2
        rw [hdn]
        exact J_mask [true, true, true, true, false] h2
      · refine J_aload_n (pc' := 48) dX7_spine_47 rfl rfl ?_
        refine J_iload_n (pc' := 49) dX7_spine_48 rfl rfl ?_
        refine J_V1v (pc' := 52) dX7_spine_49 lk_7_100 cd_X7_doesHold (k_mhold hI hS1) (ly_68) (l84_68) rfl rfl (jroom_of rfl) (Nat.le_of_ble_eq_true rfl) rfl ?_
        refine J_if_eq 59 (pc' := 55) dX7_spine_52 (by decide) rfl (fun h_52 => ?_) (fun h_52 => ?_)
        · refine J_iconst (v := 0) (pc' := 60) dX7_spine_59 (by decide) rfl ?_
          refine J_istore (pc' := 62) dX7_spine_60 (Nat.le_of_ble_eq_true rfl) (jst4 rfl rfl) rfl ?_
          refine J_iload (pc' := 64) dX7_spine_62 rfl rfl ?_
          refine J_if_eq 95 (pc' := 67) dX7_spine_64 (by decide) rfl (fun h_64 => ?_) (fun h_64 => absurd rfl h_64)
          refine J_iload_n (pc' := 96) dX7_spine_95 rfl rfl ?_
          refine J_istore_n (pc' := 97) dX7_spine_96 (Nat.le_of_ble_eq_true rfl) (jst2 rfl rfl) rfl ?_
          refine J_iinc (pc' := 100) dX7_spine_97 rfl (Nat.le_of_ble_eq_true rfl) (jst3 rfl rfl) rfl ?_
          refine J_goto (pc' := 0) 24 dX7_spine_100 (by decide) ?_
          have e : mSp (abM (w.1 69)) (j + 1) = (mSp (abM (w.1 69)) j) := if_neg (show ¬ (((nI (sSet (abM (w.1 69)) - j) &&& (nI (sSet (abM (w.1 69))) ^^^ (-1))) = 0 ∧ sBn (sSet (abM (w.1 69)) - j) 8 ≤ sBn (mSp (abM (w.1 69)) j) 8 ∧ sTied (abM (w.1 69)) (sSet (abM (w.1 69)) - j) = 2 ^ sP (abM (w.1 69)) - 1) ∧ (sBn (sSet (abM (w.1 69)) - j) 8 < sBn (mSp (abM (w.1 69)) j) 8 ∨ sWAll (abM (w.1 69)) (mSp (abM (w.1 69)) j) (sM (abM (w.1 69))) ≤ sWAll (abM (w.1 69)) (sSet (abM (w.1 69)) - j) (sM (abM (w.1 69))))) from fun q => by first | exact h_33 q.1.1 | exact absurd h_44 (Int32.not_lt.mpr ((nI_leI (by omega) (by omega)).mpr q.1.2.1)) | exact jb_0.mp h_52 q.1.2.2 | exact q.2.elim (fun r => h_75 ((nI_ltI (by omega) (by omega)).mpr r)) (fun r => absurd h_88 (Int32.not_lt.mpr r)))
          have h2 := ih (j + 1) (by omega) Q hQ
          rw [e] at h2
          rw [hdn]
          exact J_mask [true, true, true, true, false] h2
        · refine J_iconst (v := 1) (pc' := 56) dX7_spine_55 (by decide) rfl ?_
          refine J_goto (pc' := 0) 60 dX7_spine_56 (by decide) ?_
          refine J_istore (pc' := 62) dX7_spine_60 (Nat.le_of_ble_eq_true rfl) (jst4 rfl rfl) rfl ?_
          refine J_iload (pc' := 64) dX7_spine_62 rfl rfl ?_
          refine J_if_eq 95 (pc' := 67) dX7_spine_64 (by decide) rfl (fun h_64 => absurd h_64 (by decide)) (fun h_64 => ?_)
          refine J_iload_n (pc' := 68) dX7_spine_67 rfl rfl ?_
          refine J_S1v (pc' := 71) dX7_spine_68 lk_7_218 cd_X7_bits (k_mbits hS1) (jroom_of rfl) (Nat.le_of_ble_eq_true rfl) rfl ?_
          refine J_iload_n (pc' := 72) dX7_spine_71 rfl rfl ?_
          refine J_S1v (pc' := 75) dX7_spine_72 lk_7_218 cd_X7_bits (k_mbits hB) (jroom_of rfl) (Nat.le_of_ble_eq_true rfl) rfl ?_
          refine J_icmp_lt 91 (pc' := 78) dX7_spine_75 (by decide) rfl (fun h_75 => ?_) (fun h_75 => ?_)
          · refine J_iload_n (pc' := 92) dX7_spine_91 rfl rfl ?_
            refine J_goto (pc' := 0) 96 dX7_spine_92 (by decide) ?_
            refine J_istore_n (pc' := 97) dX7_spine_96 (Nat.le_of_ble_eq_true rfl) (jst2 rfl rfl) rfl ?_
            refine J_iinc (pc' := 100) dX7_spine_97 rfl (Nat.le_of_ble_eq_true rfl) (jst3 rfl rfl) rfl ?_
            refine J_goto (pc' := 0) 24 dX7_spine_100 (by decide) ?_
            have e : mSp (abM (w.1 69)) (j + 1) = (sSet (abM (w.1 69)) - j) := if_pos (show ((nI (sSet (abM (w.1 69)) - j) &&& (nI (sSet (abM (w.1 69))) ^^^ (-1))) = 0 ∧ sBn (sSet (abM (w.1 69)) - j) 8 ≤ sBn (mSp (abM (w.1 69)) j) 8 ∧ sTied (abM (w.1 69)) (sSet (abM (w.1 69)) - j) = 2 ^ sP (abM (w.1 69)) - 1) ∧ (sBn (sSet (abM (w.1 69)) - j) 8 < sBn (mSp (abM (w.1 69)) j) 8 ∨ sWAll (abM (w.1 69)) (mSp (abM (w.1 69)) j) (sM (abM (w.1 69))) ≤ sWAll (abM (w.1 69)) (sSet (abM (w.1 69)) - j) (sM (abM (w.1 69)))) from ⟨⟨by first | exact h_33 | exact Decidable.not_not.mp h_33, (nI_leI (by omega) (by omega)).mp (by first | exact h_44 | exact Int32.not_lt.mp h_44), jb_n h_52⟩, by first | exact Or.inl ((nI_ltI (by omega) (by omega)).mp h_75) | exact Or.inr (Int32.not_lt.mp h_88)⟩)
            have h2 := ih (j + 1) (by omega) Q hQ
            rw [e] at h2
            rw [hdn]
            exact J_mask [true, true, true, true, false] h2
          · refine J_aload_n (pc' := 79) dX7_spine_78 rfl rfl ?_
            refine J_iload_n (pc' := 80) dX7_spine_79 rfl rfl ?_
            refine J_V1v (pc' := 83) dX7_spine_80 lk_7_239 cd_X7_weightOf (k_mwo hI hT hS1) (ly_68) (l84_68) rfl rfl (jroom_of rfl) (Nat.le_of_ble_eq_true rfl) rfl ?_
            refine J_aload_n (pc' := 84) dX7_spine_83 rfl rfl ?_
            refine J_iload_n (pc' := 85) dX7_spine_84 rfl rfl ?_
            refine J_V1v (pc' := 88) dX7_spine_85 lk_7_239 cd_X7_weightOf (k_mwo hI hT hB) (ly_68) (l84_68) rfl rfl (jroom_of rfl) (Nat.le_of_ble_eq_true rfl) rfl ?_
            refine J_icmp_lt 95 (pc' := 91) dX7_spine_88 (by decide) rfl (fun h_88 => ?_) (fun h_88 => ?_)
            · refine J_iload_n (pc' := 96) dX7_spine_95 rfl rfl ?_
              refine J_istore_n (pc' := 97) dX7_spine_96 (Nat.le_of_ble_eq_true rfl) (jst2 rfl rfl) rfl ?_
              refine J_iinc (pc' := 100) dX7_spine_97 rfl (Nat.le_of_ble_eq_true rfl) (jst3 rfl rfl) rfl ?_
              refine J_goto (pc' := 0) 24 dX7_spine_100 (by decide) ?_
              have e : mSp (abM (w.1 69)) (j + 1) = (mSp (abM (w.1 69)) j) := if_neg (show ¬ (((nI (sSet (abM (w.1 69)) - j) &&& (nI (sSet (abM (w.1 69))) ^^^ (-1))) = 0 ∧ sBn (sSet (abM (w.1 69)) - j) 8 ≤ sBn (mSp (abM (w.1 69)) j) 8 ∧ sTied (abM (w.1 69)) (sSet (abM (w.1 69)) - j) = 2 ^ sP (abM (w.1 69)) - 1) ∧ (sBn (sSet (abM (w.1 69)) - j) 8 < sBn (mSp (abM (w.1 69)) j) 8 ∨ sWAll (abM (w.1 69)) (mSp (abM (w.1 69)) j) (sM (abM (w.1 69))) ≤ sWAll (abM (w.1 69)) (sSet (abM (w.1 69)) - j) (sM (abM (w.1 69))))) from fun q => by first | exact h_33 q.1.1 | exact absurd h_44 (Int32.not_lt.mpr ((nI_leI (by omega) (by omega)).mpr q.1.2.1)) | exact jb_0.mp h_52 q.1.2.2 | exact q.2.elim (fun r => h_75 ((nI_ltI (by omega) (by omega)).mpr r)) (fun r => absurd h_88 (Int32.not_lt.mpr r)))
              have h2 := ih (j + 1) (by omega) Q hQ
              rw [e] at h2
              rw [hdn]
              exact J_mask [true, true, true, true, false] h2
            · refine J_iload_n (pc' := 92) dX7_spine_91 rfl rfl ?_
              refine J_goto (pc' := 0) 96 dX7_spine_92 (by decide) ?_
              refine J_istore_n (pc' := 97) dX7_spine_96 (Nat.le_of_ble_eq_true rfl) (jst2 rfl rfl) rfl ?_
              refine J_iinc (pc' := 100) dX7_spine_97 rfl (Nat.le_of_ble_eq_true rfl) (jst3 rfl rfl) rfl ?_
              refine J_goto (pc' := 0) 24 dX7_spine_100 (by decide) ?_
              have e : mSp (abM (w.1 69)) (j + 1) = (sSet (abM (w.1 69)) - j) := if_pos (show ((nI (sSet (abM (w.1 69)) - j) &&& (nI (sSet (abM (w.1 69))) ^^^ (-1))) = 0 ∧ sBn (sSet (abM (w.1 69)) - j) 8 ≤ sBn (mSp (abM (w.1 69)) j) 8 ∧ sTied (abM (w.1 69)) (sSet (abM (w.1 69)) - j) = 2 ^ sP (abM (w.1 69)) - 1) ∧ (sBn (sSet (abM (w.1 69)) - j) 8 < sBn (mSp (abM (w.1 69)) j) 8 ∨ sWAll (abM (w.1 69)) (mSp (abM (w.1 69)) j) (sM (abM (w.1 69))) ≤ sWAll (abM (w.1 69)) (sSet (abM (w.1 69)) - j) (sM (abM (w.1 69)))) from ⟨⟨by first | exact h_33 | exact Decidable.not_not.mp h_33, (nI_leI (by omega) (by omega)).mp (by first | exact h_44 | exact Int32.not_lt.mp h_44), jb_n h_52⟩, by first | exact Or.inl ((nI_ltI (by omega) (by omega)).mp h_75) | exact Or.inr (Int32.not_lt.mp h_88)⟩)
              have h2 := ih (j + 1) (by omega) Q hQ
              rw [e] at h2
              rw [hdn]
              exact J_mask [true, true, true, true, false] h2
def sm_spine (s k r : sg)  : sQI := if sTied s (sSet s) = 2 ^ sP s - 1 then (nI (mSp s (sSet s + 1)), s, k, r) else (sErr 3, s, k, sEr r 3)
set_option maxHeartbeats 4000000 in
set_option maxRecDepth 100000 in
theorem b_X7_spine {G : jG} {w : jWd} (hV : MInv w) (hI : sInv (abM (w.1 69))) : jKp G 6 yX7_spine cX7_spine 5 (some .int) [.ref 68] w (some (.int (sm_spine (abM (w.1 69)) (abM (w.1 70)) (restM w)).1)) (fun w' => RQ w w' (sm_spine (abM (w.1 69)) (abM (w.1 70)) (restM w)).2) := by
  have hT := hV.1
  refine jK_of (own := RX7) [some (.ref 68), none, none, none, none] pn7 rfl (Nat.le_of_ble_eq_true rfl) rfl ?_
  refine J_aload_n (pc' := 1) dX7_spine_0 rfl rfl ?_
  refine J_V0v (pc' := 4) dX7_spine_1 lk_7_96 cd_X7_onOnes (k_mon hI) (ly_68) (l84_68) rfl rfl (jroom_of rfl) (Nat.le_of_ble_eq_true rfl) rfl ?_
  refine J_istore_n (pc' := 5) dX7_spine_4 (Nat.le_of_ble_eq_true rfl) (jst1 rfl rfl) rfl ?_
  refine J_aload_n (pc' := 6) dX7_spine_5 rfl rfl ?_
  refine J_iload_n (pc' := 7) dX7_spine_6 rfl rfl ?_
  refine J_V1v (pc' := 10) dX7_spine_7 lk_7_100 cd_X7_doesHold (k_mhold hI (sSet_lt2 hI)) (ly_68) (l84_68) rfl rfl (jroom_of rfl) (Nat.le_of_ble_eq_true rfl) rfl ?_
  refine J_if_ne 20 (pc' := 13) dX7_spine_10 (by decide) rfl (fun h_10 => ?_) (fun h_10 => ?_)
  · refine J_iload_n (pc' := 21) dX7_spine_20 rfl rfl ?_
    refine J_istore_n (pc' := 22) dX7_spine_21 (Nat.le_of_ble_eq_true rfl) (jst2 rfl rfl) rfl ?_
    refine J_iload_n (pc' := 23) dX7_spine_22 rfl rfl ?_
    refine J_istore_n (pc' := 24) dX7_spine_23 (Nat.le_of_ble_eq_true rfl) (jst3 rfl rfl) rfl ?_
    have h2 := fun (Q : Option Value → jWd → Prop) hQ => l_msp hI hT (G := G) (sSet (abM (w.1 69)) + 1) 0 (by omega) Q hQ
    rw [nI_pred] at h2
    refine h2 _ ?_
    unfold sm_spine
    rw [if_pos (show sTied (abM (w.1 69)) (sSet (abM (w.1 69))) = 2 ^ sP (abM (w.1 69)) - 1 from jb_n h_10)]
    exact ⟨rfl, mq_rf hV⟩
  · refine J_aload_n (pc' := 14) dX7_spine_13 rfl rfl ?_
    refine J_ldc (pc' := 16) dX7_spine_14 kc_7_141 rfl ?_
    refine J_V1v (pc' := 19) dX7_spine_16 lk_7_126 cd_X7_error (k_merr (k := 3) (by decide) (by decide)) (ly_68) (l84_68) rfl rfl (jroom_of rfl) (Nat.le_of_ble_eq_true rfl) rfl ?_
    exact J_iret dX7_spine_19  (by unfold sm_spine; rw [if_neg (show ¬ sTied (abM (w.1 69)) (sSet (abM (w.1 69))) = 2 ^ sP (abM (w.1 69)) - 1 from jb_0.mp (by first | exact h_10 | exact Decidable.not_not.mp h_10))]; exact ⟨rfl, mq_err hV (by decide)⟩)
