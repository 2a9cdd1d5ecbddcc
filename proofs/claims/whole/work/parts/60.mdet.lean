/-! ===== the reference: determinants ===== -/
/-! ===== the reference: determinants ===== -/
theorem lcmpE {x y : Int64} : lg_cmp x y = 0 ↔ x = y := by
  unfold lg_cmp
  by_cases h : x > y
  · rw [if_pos h]
    exact ⟨fun q => absurd q (by decide), fun q => by rw [q] at h; exact (Int64.lt_irrefl h).elim⟩
  · rw [if_neg h]
    by_cases h2 : x < y
    · first
        | rw [if_pos h2]; exact ⟨fun q => absurd q (by decide), fun q => by rw [q] at h2; exact (Int64.lt_irrefl h2).elim⟩
        | (have h3 : ¬ x = y := fun q => by rw [q] at h2; exact (Int64.lt_irrefl h2).elim
           rw [if_neg h3]; exact ⟨fun q => absurd q (by decide), fun q => absurd q h3⟩)
    · have h3 : x = y := Int64.le_antisymm (Int64.not_lt.mp h) (Int64.not_lt.mp h2)
      first
        | rw [if_neg h2]; exact ⟨fun _ => h3, fun _ => rfl⟩
        | rw [if_pos h3]; exact ⟨fun _ => h3, fun _ => rfl⟩
/-- one row's sum, over the first c columns; the sign that comes next -/
def mDl (sq rt : Nat → Int64) (col : Int32) (fr used : Nat) (rec : Nat → Int64) : Nat → Int64 × Int64
  | 0 => (0, 1)
  | c + 1 => if used.testBit c = true then mDl sq rt col fr used rec c
    else ((mDl sq rt col fr used rec c).1 + (if (if nI c = col then rt fr else sq (4 * fr + c)) = 0 then 0 else (mDl sq rt col fr used rec c).2 * (if nI c = col then rt fr else sq (4 * fr + c)) * rec (used ||| 2 ^ c)), -(mDl sq rt col fr used rec c).2)
/-- the determinant of the last k rows, without the used columns -/
def mDet (sq rt : Nat → Int64) (col : Int32) (P : Nat) : Nat → Nat → Int64
  | 0, _ => 1
  | k + 1, used => (mDl sq rt col (P - (k + 1)) used (mDet sq rt col P k) P).1
theorem zuse : ∀ u, u < 16 → ∀ c, c < 4 → ((nI u ||| ((1 : Int32) <<< (nI c &&& 31))) = nI (u ||| 2 ^ c)) ∧ u ||| 2 ^ c < 16 := by decide +kernel
theorem zub : ∀ u, u < 16 → ∀ c, c < 4 → (((nI u >>> (nI c &&& 31)) &&& 1 = 0) ↔ ¬ u.testBit c = true) := by decide +kernel
set_option maxHeartbeats 4000000 in
set_option maxRecDepth 100000 in
theorem k_mdet0 {G : jG} {w : jWd} (hI : sInv (abM (w.1 69))) {sq rt : Nat → Int64} (hs : ∀ k, k < 16 → w.2 76 k = sq k) (hr : ∀ j, j < 4 → w.2 77 j = rt j) {col : Int32} {u : Nat} : jKd G 0 yX7_det cX7_det 12 (some .long) [.ref 68, .int (nI (sP (abM (w.1 69)))), .int (nI u), .int col] w (some (.long 1)) w := by
  have hP := (sIP hI).1
  have hP2 : w.1 69 3 = nI (sP (abM (w.1 69))) := hP
  have hP4 := (sIP hI).2
  refine jK_of (own := RX7) [some (.ref 68), some (.int (nI (sP (abM (w.1 69))))), some (.int (nI u)), some (.int col), none, none, none, none, none, none, none, none] pn7 rfl (Nat.le_of_ble_eq_true rfl) rfl ?_
  refine J_aload_n (pc' := 1) dX7_det_0 rfl rfl ?_
  refine J_getR (pc' := 4) dX7_det_1 fl_7_9 (ly_68) (l84_68) rfl rfl ?_
  refine J_iconst (v := 3) (pc' := 5) dX7_det_4 (by decide) rfl ?_
  refine J_iald 3 (pc' := 6) dX7_det_5 (ly_69) (l84_69) nIc_3 (by decide) (by decide) rfl ?_
  rw [hP2]
  refine J_istore (pc' := 8) dX7_det_6 (Nat.le_of_ble_eq_true rfl) (jst4 rfl rfl) rfl ?_
  refine J_iload_n (pc' := 9) dX7_det_8 rfl rfl ?_
  refine J_iload (pc' := 11) dX7_det_9 rfl rfl ?_
  refine J_icmp_ne 16 (pc' := 14) dX7_det_11 (by decide) rfl (fun h_11 => absurd rfl h_11) (fun h_11 => ?_)
  refine J_lconst (v := 1) (pc' := 15) dX7_det_14 (by decide) rfl ?_
  exact J_lret dX7_det_15  ⟨rfl, rfl⟩
def mDC (G : jG) (w : jWd) (sq rt : Nat → Int64) (col : Int32) (P k : Nat) : Prop := ∀ u, u < 16 → jKd G k yX7_det cX7_det 12 (some .long) [.ref 68, .int (nI (P - k)), .int (nI u), .int col] w (some (.long (mDet sq rt col P k u))) w
set_option maxHeartbeats 4000000 in
set_option maxRecDepth 100000 in
theorem l_mdet {G : jG} {w : jWd} (hI : sInv (abM (w.1 69))) {sq rt : Nat → Int64} (hs : ∀ k, k < 16 → w.2 76 k = sq k) (hr : ∀ j, j < 4 → w.2 77 j = rt j) {col : Int32} {k : Nat} (hk : k + 1 ≤ (sP (abM (w.1 69)))) (ih : mDC G w sq rt col (sP (abM (w.1 69))) k) {u : Nat} (hu : u < 16) : ∀ n j : Nat, j + n = (sP (abM (w.1 69))) → J G (jM G (k + 1) RX7 cX7_det 12 (some .long) ((fun r' w' => r' = some (.long (mDl sq rt col ((sP (abM (w.1 69))) - (k + 1)) u (mDet sq rt col (sP (abM (w.1 69))) k) (sP (abM (w.1 69)))).1) ∧ w' = w))) w 25 [some (.ref 68), some (.int (nI ((sP (abM (w.1 69))) - (k + 1)))), some (.int (nI u)), some (.int col), some (.int (nI (sP (abM (w.1 69))))), some (.long (mDl sq rt col ((sP (abM (w.1 69))) - (k + 1)) u (mDet sq rt col (sP (abM (w.1 69))) k) j).1), none, some (.long (mDl sq rt col ((sP (abM (w.1 69))) - (k + 1)) u (mDet sq rt col (sP (abM (w.1 69))) k) j).2), none, some (.int (nI j)), none, none] [] := by
  have hP := (sIP hI).1
  have hP2 : w.1 69 3 = nI (sP (abM (w.1 69))) := hP
  have hP4 := (sIP hI).2
  intro n
  induction n with
  | zero =>
    intro j hj 
    refine J_iload (pc' := 27) dX7_det_25 rfl rfl ?_
    refine J_iload (pc' := 29) dX7_det_27 rfl rfl ?_
    refine J_icmp_ge 116 (pc' := 32) dX7_det_29 (by decide) rfl (fun h_29 => ?_) (fun h_29 => absurd (nI_le (by omega) (by omega)) h_29)
    refine J_lload (pc' := 118) dX7_det_116 rfl rfl ?_
    obtain rfl : j = (sP (abM (w.1 69))) := by omega
    exact J_lret dX7_det_118  ⟨rfl, rfl⟩
  | succ n ih2 =>
    intro j hj 
    have hb := zub u hu j (by omega)
    have hz := zuse u hu j (by omega)
    refine J_iload (pc' := 27) dX7_det_25 rfl rfl ?_
    refine J_iload (pc' := 29) dX7_det_27 rfl rfl ?_
    refine J_icmp_ge 116 (pc' := 32) dX7_det_29 (by decide) rfl (fun h_29 => absurd h_29 (nI_ge (by omega) (by omega))) (fun h_29 => ?_)
    refine J_iload_n (pc' := 33) dX7_det_32 rfl rfl ?_
    refine J_iload (pc' := 35) dX7_det_33 rfl rfl ?_
    refine J_ishr (pc' := 36) dX7_det_35 rfl ?_
    refine J_iconst (v := 1) (pc' := 37) dX7_det_36 (by decide) rfl ?_
    refine J_iand (pc' := 38) dX7_det_37 rfl ?_
    refine J_if_ne 110 (pc' := 41) dX7_det_38 (by decide) rfl (fun h_38 => ?_) (fun h_38 => ?_)
    · refine J_iinc (pc' := 113) dX7_det_110 rfl (Nat.le_of_ble_eq_true rfl) (jst9 rfl rfl) rfl ?_
      refine J_goto (pc' := 0) 25 dX7_det_113 (by decide) ?_
      have e : mDl sq rt col ((sP (abM (w.1 69))) - (k + 1)) u (mDet sq rt col (sP (abM (w.1 69))) k) (j + 1) = mDl sq rt col ((sP (abM (w.1 69))) - (k + 1)) u (mDet sq rt col (sP (abM (w.1 69))) k) j := if_pos (by by_cases q : u.testBit j = true; exact q; exact absurd (hb.mpr q) h_38)
      have h2 := ih2 (j + 1) (by omega)
      rw [e, ← z1 j] at h2
      exact J_mask [true, true, true, true, true, true, true, true, true, true, false, false] h2
    · refine J_iload (pc' := 43) dX7_det_41 rfl rfl ?_
      refine J_iload_n (pc' := 44) dX7_det_43 rfl rfl ?_
      refine J_icmp_ne 56 (pc' := 47) dX7_det_44 (by decide) rfl (fun h_44 => ?_) (fun h_44 => ?_)
      · refine J_aload_n (pc' := 57) dX7_det_56 rfl rfl ?_
        refine J_getR (pc' := 60) dX7_det_57 fl_7_31 (ly_68) (l84_68) rfl rfl ?_
        refine J_iconst (v := 4) (pc' := 61) dX7_det_60 (by decide) rfl ?_
        refine J_iload_n (pc' := 62) dX7_det_61 rfl rfl ?_
        refine J_imul (pc' := 63) dX7_det_62 rfl ?_
        refine J_iload (pc' := 65) dX7_det_63 rfl rfl ?_
        refine J_iadd (pc' := 66) dX7_det_65 rfl ?_
        refine J_lald (4 * ((sP (abM (w.1 69))) - (k + 1)) + j) (pc' := 67) dX7_det_66 (ly_76) (l84_76) (jadd (jmul nIc_4 rfl) rfl) (by omega) (by decide) rfl ?_
        rw [hs _ (by omega)]
        refine J_lstore (pc' := 69) dX7_det_67 (Nat.le_of_ble_eq_true rfl) (jstL10 rfl) rfl ?_
        have hv : (if nI j = col then rt ((sP (abM (w.1 69))) - (k + 1)) else sq (4 * ((sP (abM (w.1 69))) - (k + 1)) + j)) = sq (4 * ((sP (abM (w.1 69))) - (k + 1)) + j) := if_neg h_44
        refine J_lload (pc' := 71) dX7_det_69 rfl rfl ?_
        refine J_lload (pc' := 73) dX7_det_71 rfl rfl ?_
        refine J_lconst (v := 0) (pc' := 74) dX7_det_73 (by decide) rfl ?_
        refine J_lcmp (pc' := 75) dX7_det_74 rfl ?_
        refine J_if_ne 82 (pc' := 78) dX7_det_75 (by decide) rfl (fun h_75 => ?_) (fun h_75 => ?_)
        · refine J_lload (pc' := 84) dX7_det_82 rfl rfl ?_
          refine J_lload (pc' := 86) dX7_det_84 rfl rfl ?_
          refine J_lmul (pc' := 87) dX7_det_86 rfl ?_
          refine J_aload_n (pc' := 88) dX7_det_87 rfl rfl ?_
          refine J_iload_n (pc' := 89) dX7_det_88 rfl rfl ?_
          refine J_iconst (v := 1) (pc' := 90) dX7_det_89 (by decide) rfl ?_
          refine J_iadd (pc' := 91) dX7_det_90 rfl ?_
          rw [nI_1, show ((sP (abM (w.1 69))) - (k + 1)) + 1 = (sP (abM (w.1 69))) - k by omega]
          refine J_iload_n (pc' := 92) dX7_det_91 rfl rfl ?_
          refine J_iconst (v := 1) (pc' := 93) dX7_det_92 (by decide) rfl ?_
          refine J_iload (pc' := 95) dX7_det_93 rfl rfl ?_
          refine J_ishl (pc' := 96) dX7_det_95 rfl ?_
          refine J_ior (pc' := 97) dX7_det_96 rfl ?_
          rw [hz.1]
          refine J_iload_n (pc' := 98) dX7_det_97 rfl rfl ?_
          refine J_V3v (pc' := 101) dX7_det_98 lk_7_86 cd_X7_det (ih _ hz.2) (ly_68) (l84_68) rfl rfl ⟨⟨by show k + 1 ≤ (k + 1); omega, by show 8 + (12 + 11) + 40 * k ≤ 40 * (k + 1); omega⟩, Nat.le_refl _, Nat.le_refl _⟩ (Nat.le_of_ble_eq_true rfl) rfl ?_
          refine J_lmul (pc' := 102) dX7_det_101 rfl ?_
          refine J_ladd (pc' := 103) dX7_det_102 rfl ?_
          refine J_lstore (pc' := 105) dX7_det_103 (Nat.le_of_ble_eq_true rfl) (jstL5 rfl) rfl ?_
          refine J_lload (pc' := 107) dX7_det_105 rfl rfl ?_
          refine J_lneg (pc' := 108) dX7_det_107 rfl ?_
          refine J_lstore (pc' := 110) dX7_det_108 (Nat.le_of_ble_eq_true rfl) (jstL7 rfl) rfl ?_
          refine J_iinc (pc' := 113) dX7_det_110 rfl (Nat.le_of_ble_eq_true rfl) (jst9 rfl rfl) rfl ?_
          refine J_goto (pc' := 0) 25 dX7_det_113 (by decide) ?_
          have hu0 : ¬ u.testBit j = true := hb.mp (by first | exact h_38 | exact Decidable.not_not.mp h_38)
          have e0 : mDl sq rt col ((sP (abM (w.1 69))) - (k + 1)) u (mDet sq rt col (sP (abM (w.1 69))) k) (j + 1) = ((mDl sq rt col ((sP (abM (w.1 69))) - (k + 1)) u (mDet sq rt col (sP (abM (w.1 69))) k) j).1 + (if (if nI j = col then rt ((sP (abM (w.1 69))) - (k + 1)) else sq (4 * ((sP (abM (w.1 69))) - (k + 1)) + j)) = 0 then 0 else (mDl sq rt col ((sP (abM (w.1 69))) - (k + 1)) u (mDet sq rt col (sP (abM (w.1 69))) k) j).2 * (if nI j = col then rt ((sP (abM (w.1 69))) - (k + 1)) else sq (4 * ((sP (abM (w.1 69))) - (k + 1)) + j)) * (mDet sq rt col (sP (abM (w.1 69))) k) (u ||| 2 ^ j)), -(mDl sq rt col ((sP (abM (w.1 69))) - (k + 1)) u (mDet sq rt col (sP (abM (w.1 69))) k) j).2) := if_neg hu0
          rw [if_neg (show ¬ (if nI j = col then rt ((sP (abM (w.1 69))) - (k + 1)) else sq (4 * ((sP (abM (w.1 69))) - (k + 1)) + j)) = 0 from by rw [hv]; exact fun q => h_75 (lcmpE.mpr q))] at e0
          rw [hv] at e0
          have h2 := ih2 (j + 1) (by omega)
          rw [e0, ← z1 j] at h2
          exact J_mask [true, true, true, true, true, true, true, true, true, true, false, false] h2
        · refine J_lconst (v := 0) (pc' := 79) dX7_det_78 (by decide) rfl ?_
          refine J_goto (pc' := 0) 102 dX7_det_79 (by decide) ?_
          refine J_ladd (pc' := 103) dX7_det_102 rfl ?_
          refine J_lstore (pc' := 105) dX7_det_103 (Nat.le_of_ble_eq_true rfl) (jstL5 rfl) rfl ?_
          refine J_lload (pc' := 107) dX7_det_105 rfl rfl ?_
          refine J_lneg (pc' := 108) dX7_det_107 rfl ?_
          refine J_lstore (pc' := 110) dX7_det_108 (Nat.le_of_ble_eq_true rfl) (jstL7 rfl) rfl ?_
          refine J_iinc (pc' := 113) dX7_det_110 rfl (Nat.le_of_ble_eq_true rfl) (jst9 rfl rfl) rfl ?_
          refine J_goto (pc' := 0) 25 dX7_det_113 (by decide) ?_
          have hu0 : ¬ u.testBit j = true := hb.mp (by first | exact h_38 | exact Decidable.not_not.mp h_38)
          have e0 : mDl sq rt col ((sP (abM (w.1 69))) - (k + 1)) u (mDet sq rt col (sP (abM (w.1 69))) k) (j + 1) = ((mDl sq rt col ((sP (abM (w.1 69))) - (k + 1)) u (mDet sq rt col (sP (abM (w.1 69))) k) j).1 + (if (if nI j = col then rt ((sP (abM (w.1 69))) - (k + 1)) else sq (4 * ((sP (abM (w.1 69))) - (k + 1)) + j)) = 0 then 0 else (mDl sq rt col ((sP (abM (w.1 69))) - (k + 1)) u (mDet sq rt col (sP (abM (w.1 69))) k) j).2 * (if nI j = col then rt ((sP (abM (w.1 69))) - (k + 1)) else sq (4 * ((sP (abM (w.1 69))) - (k + 1)) + j)) * (mDet sq rt col (sP (abM (w.1 69))) k) (u ||| 2 ^ j)), -(mDl sq rt col ((sP (abM (w.1 69))) - (k + 1)) u (mDet sq rt col (sP (abM (w.1 69))) k) j).2) := if_neg hu0
          rw [if_pos (show (if nI j = col then rt ((sP (abM (w.1 69))) - (k + 1)) else sq (4 * ((sP (abM (w.1 69))) - (k + 1)) + j)) = 0 from by rw [hv]; exact lcmpE.mp (by first | exact h_75 | exact Decidable.not_not.mp h_75))] at e0
          have h2 := ih2 (j + 1) (by omega)
          rw [e0, ← z1 j] at h2
          exact J_mask [true, true, true, true, true, true, true, true, true, true, false, false] h2
      · refine J_aload_n (pc' := 48) dX7_det_47 rfl rfl ?_
        refine J_getR (pc' := 51) dX7_det_48 fl_7_35 (ly_68) (l84_68) rfl rfl ?_
        refine J_iload_n (pc' := 52) dX7_det_51 rfl rfl ?_
        refine J_lald (((sP (abM (w.1 69))) - (k + 1))) (pc' := 53) dX7_det_52 (ly_77) (l84_77) rfl (by omega) (by decide) rfl ?_
        rw [hr _ (by omega)]
        refine J_goto (pc' := 0) 67 dX7_det_53 (by decide) ?_
        refine J_lstore (pc' := 69) dX7_det_67 (Nat.le_of_ble_eq_true rfl) (jstL10 rfl) rfl ?_
        have hv : (if nI j = col then rt ((sP (abM (w.1 69))) - (k + 1)) else sq (4 * ((sP (abM (w.1 69))) - (k + 1)) + j)) = rt ((sP (abM (w.1 69))) - (k + 1)) := if_pos (by first | exact h_44 | exact Decidable.not_not.mp h_44)
        refine J_lload (pc' := 71) dX7_det_69 rfl rfl ?_
        refine J_lload (pc' := 73) dX7_det_71 rfl rfl ?_
        refine J_lconst (v := 0) (pc' := 74) dX7_det_73 (by decide) rfl ?_
        refine J_lcmp (pc' := 75) dX7_det_74 rfl ?_
        refine J_if_ne 82 (pc' := 78) dX7_det_75 (by decide) rfl (fun h_75 => ?_) (fun h_75 => ?_)
        · refine J_lload (pc' := 84) dX7_det_82 rfl rfl ?_
          refine J_lload (pc' := 86) dX7_det_84 rfl rfl ?_
          refine J_lmul (pc' := 87) dX7_det_86 rfl ?_
          refine J_aload_n (pc' := 88) dX7_det_87 rfl rfl ?_
          refine J_iload_n (pc' := 89) dX7_det_88 rfl rfl ?_
          refine J_iconst (v := 1) (pc' := 90) dX7_det_89 (by decide) rfl ?_
          refine J_iadd (pc' := 91) dX7_det_90 rfl ?_
          rw [nI_1, show ((sP (abM (w.1 69))) - (k + 1)) + 1 = (sP (abM (w.1 69))) - k by omega]
          refine J_iload_n (pc' := 92) dX7_det_91 rfl rfl ?_
          refine J_iconst (v := 1) (pc' := 93) dX7_det_92 (by decide) rfl ?_
          refine J_iload (pc' := 95) dX7_det_93 rfl rfl ?_
          refine J_ishl (pc' := 96) dX7_det_95 rfl ?_
          refine J_ior (pc' := 97) dX7_det_96 rfl ?_
          rw [hz.1]
          refine J_iload_n (pc' := 98) dX7_det_97 rfl rfl ?_
          refine J_V3v (pc' := 101) dX7_det_98 lk_7_86 cd_X7_det (ih _ hz.2) (ly_68) (l84_68) rfl rfl ⟨⟨by show k + 1 ≤ (k + 1); omega, by show 8 + (12 + 11) + 40 * k ≤ 40 * (k + 1); omega⟩, Nat.le_refl _, Nat.le_refl _⟩ (Nat.le_of_ble_eq_true rfl) rfl ?_
          refine J_lmul (pc' := 102) dX7_det_101 rfl ?_
          refine J_ladd (pc' := 103) dX7_det_102 rfl ?_
          refine J_lstore (pc' := 105) dX7_det_103 (Nat.le_of_ble_eq_true rfl) (jstL5 rfl) rfl ?_
          refine J_lload (pc' := 107) dX7_det_105 rfl rfl ?_
          refine J_lneg (pc' := 108) dX7_det_107 rfl ?_
          refine J_lstore (pc' := 110) dX7_det_108 (Nat.le_of_ble_eq_true rfl) (jstL7 rfl) rfl ?_
          refine J_iinc (pc' := 113) dX7_det_110 rfl (Nat.le_of_ble_eq_true rfl) (jst9 rfl rfl) rfl ?_
          refine J_goto (pc' := 0) 25 dX7_det_113 (by decide) ?_
          have hu0 : ¬ u.testBit j = true := hb.mp (by first | exact h_38 | exact Decidable.not_not.mp h_38)
          have e0 : mDl sq rt col ((sP (abM (w.1 69))) - (k + 1)) u (mDet sq rt col (sP (abM (w.1 69))) k) (j + 1) = ((mDl sq rt col ((sP (abM (w.1 69))) - (k + 1)) u (mDet sq rt col (sP (abM (w.1 69))) k) j).1 + (if (if nI j = col then rt ((sP (abM (w.1 69))) - (k + 1)) else sq (4 * ((sP (abM (w.1 69))) - (k + 1)) + j)) = 0 then 0 else (mDl sq rt col ((sP (abM (w.1 69))) - (k + 1)) u (mDet sq rt col (sP (abM (w.1 69))) k) j).2 * (if nI j = col then rt ((sP (abM (w.1 69))) - (k + 1)) else sq (4 * ((sP (abM (w.1 69))) - (k + 1)) + j)) * (mDet sq rt col (sP (abM (w.1 69))) k) (u ||| 2 ^ j)), -(mDl sq rt col ((sP (abM (w.1 69))) - (k + 1)) u (mDet sq rt col (sP (abM (w.1 69))) k) j).2) := if_neg hu0
          rw [if_neg (show ¬ (if nI j = col then rt ((sP (abM (w.1 69))) - (k + 1)) else sq (4 * ((sP (abM (w.1 69))) - (k + 1)) + j)) = 0 from by rw [hv]; exact fun q => h_75 (lcmpE.mpr q))] at e0
          rw [hv] at e0
          have h2 := ih2 (j + 1) (by omega)
          rw [e0, ← z1 j] at h2
          exact J_mask [true, true, true, true, true, true, true, true, true, true, false, false] h2
        · refine J_lconst (v := 0) (pc' := 79) dX7_det_78 (by decide) rfl ?_
          refine J_goto (pc' := 0) 102 dX7_det_79 (by decide) ?_
          refine J_ladd (pc' := 103) dX7_det_102 rfl ?_
          refine J_lstore (pc' := 105) dX7_det_103 (Nat.le_of_ble_eq_true rfl) (jstL5 rfl) rfl ?_
          refine J_lload (pc' := 107) dX7_det_105 rfl rfl ?_
          refine J_lneg (pc' := 108) dX7_det_107 rfl ?_
          refine J_lstore (pc' := 110) dX7_det_108 (Nat.le_of_ble_eq_true rfl) (jstL7 rfl) rfl ?_
          refine J_iinc (pc' := 113) dX7_det_110 rfl (Nat.le_of_ble_eq_true rfl) (jst9 rfl rfl) rfl ?_
          refine J_goto (pc' := 0) 25 dX7_det_113 (by decide) ?_
          have hu0 : ¬ u.testBit j = true := hb.mp (by first | exact h_38 | exact Decidable.not_not.mp h_38)
          have e0 : mDl sq rt col ((sP (abM (w.1 69))) - (k + 1)) u (mDet sq rt col (sP (abM (w.1 69))) k) (j + 1) = ((mDl sq rt col ((sP (abM (w.1 69))) - (k + 1)) u (mDet sq rt col (sP (abM (w.1 69))) k) j).1 + (if (if nI j = col then rt ((sP (abM (w.1 69))) - (k + 1)) else sq (4 * ((sP (abM (w.1 69))) - (k + 1)) + j)) = 0 then 0 else (mDl sq rt col ((sP (abM (w.1 69))) - (k + 1)) u (mDet sq rt col (sP (abM (w.1 69))) k) j).2 * (if nI j = col then rt ((sP (abM (w.1 69))) - (k + 1)) else sq (4 * ((sP (abM (w.1 69))) - (k + 1)) + j)) * (mDet sq rt col (sP (abM (w.1 69))) k) (u ||| 2 ^ j)), -(mDl sq rt col ((sP (abM (w.1 69))) - (k + 1)) u (mDet sq rt col (sP (abM (w.1 69))) k) j).2) := if_neg hu0
          rw [if_pos (show (if nI j = col then rt ((sP (abM (w.1 69))) - (k + 1)) else sq (4 * ((sP (abM (w.1 69))) - (k + 1)) + j)) = 0 from by rw [hv]; exact lcmpE.mp (by first | exact h_75 | exact Decidable.not_not.mp h_75))] at e0
          have h2 := ih2 (j + 1) (by omega)
          rw [e0, ← z1 j] at h2
          exact J_mask [true, true, true, true, true, true, true, true, true, true, false, false] h2
set_option maxHeartbeats 4000000 in
set_option maxRecDepth 100000 in
theorem k_mdetS {G : jG} {w : jWd} (hI : sInv (abM (w.1 69))) {sq rt : Nat → Int64} (hs : ∀ k, k < 16 → w.2 76 k = sq k) (hr : ∀ j, j < 4 → w.2 77 j = rt j) {col : Int32} {k : Nat} (hk : k + 1 ≤ (sP (abM (w.1 69)))) (ih : mDC G w sq rt col (sP (abM (w.1 69))) k) {u : Nat} (hu : u < 16) : jKd G (k + 1) yX7_det cX7_det 12 (some .long) [.ref 68, .int (nI ((sP (abM (w.1 69))) - (k + 1))), .int (nI u), .int col] w (some (.long (mDet sq rt col (sP (abM (w.1 69))) (k + 1) u))) w := by
  have hP := (sIP hI).1
  have hP2 : w.1 69 3 = nI (sP (abM (w.1 69))) := hP
  have hP4 := (sIP hI).2
  refine jK_of (own := RX7) [some (.ref 68), some (.int (nI ((sP (abM (w.1 69))) - (k + 1)))), some (.int (nI u)), some (.int col), none, none, none, none, none, none, none, none] pn7 rfl (Nat.le_of_ble_eq_true rfl) rfl ?_
  refine J_aload_n (pc' := 1) dX7_det_0 rfl rfl ?_
  refine J_getR (pc' := 4) dX7_det_1 fl_7_9 (ly_68) (l84_68) rfl rfl ?_
  refine J_iconst (v := 3) (pc' := 5) dX7_det_4 (by decide) rfl ?_
  refine J_iald 3 (pc' := 6) dX7_det_5 (ly_69) (l84_69) nIc_3 (by decide) (by decide) rfl ?_
  rw [hP2]
  refine J_istore (pc' := 8) dX7_det_6 (Nat.le_of_ble_eq_true rfl) (jst4 rfl rfl) rfl ?_
  refine J_iload_n (pc' := 9) dX7_det_8 rfl rfl ?_
  refine J_iload (pc' := 11) dX7_det_9 rfl rfl ?_
  refine J_icmp_ne 16 (pc' := 14) dX7_det_11 (by decide) rfl (fun h_11 => ?_) (fun h_11 => absurd h_11 (fun q => by have := (nI_eq (by omega) (by omega)).mp q; omega))
  refine J_lconst (v := 0) (pc' := 17) dX7_det_16 (by decide) rfl ?_
  refine J_lstore (pc' := 19) dX7_det_17 (Nat.le_of_ble_eq_true rfl) (jstL5 rfl) rfl ?_
  refine J_lconst (v := 1) (pc' := 20) dX7_det_19 (by decide) rfl ?_
  refine J_lstore (pc' := 22) dX7_det_20 (Nat.le_of_ble_eq_true rfl) (jstL7 rfl) rfl ?_
  refine J_iconst (v := 0) (pc' := 23) dX7_det_22 (by decide) rfl ?_
  refine J_istore (pc' := 25) dX7_det_23 (Nat.le_of_ble_eq_true rfl) (jst9 rfl rfl) rfl ?_
  exact J_mask [true, true, true, true, true, true, true, true, true, true, true, true] (l_mdet hI hs hr hk ih hu (sP (abM (w.1 69))) 0 (by omega))
theorem k_mdet {G : jG} {w : jWd} (hI : sInv (abM (w.1 69))) {sq rt : Nat → Int64} (hs : ∀ k, k < 16 → w.2 76 k = sq k) (hr : ∀ j, j < 4 → w.2 77 j = rt j) {col : Int32} : ∀ k, k ≤ (sP (abM (w.1 69))) → mDC G w sq rt col (sP (abM (w.1 69))) k
  | 0, _ => fun u _ => k_mdet0 hI hs hr
  | k + 1, h => fun u hu => k_mdetS hI hs hr h (k_mdet hI hs hr k (by omega)) hu
