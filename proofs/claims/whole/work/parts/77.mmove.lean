/-! ===== the reference: move ===== -/
/-! ===== the reference: move ===== -/
/-- a row with some places taken from others -/
def mvR (f : Nat → Int32) (a b lo hi : Nat) : Nat → Int32 := fun i => if b + lo ≤ i ∧ i < b + hi then f (a + (i - b)) else f i
def mvP (w0 w : jWd) (a b lo hi : Nat) : Prop := (∀ x, x ≠ 75 → w.1 x = w0.1 x) ∧ w.2 = w0.2 ∧ ∀ i, w.1 75 i = mvR (w0.1 75) a b lo hi i
theorem mvP.up {w0 w : jWd} {a b lo hi : Nat} (h : mvP w0 w a b lo hi) (hlo : lo ≤ hi) (hsrc : ¬ (b + lo ≤ a + hi ∧ a + hi < b + hi)) : mvP w0 (jset w 75 (b + hi) (w.1 75 (a + hi))) a b lo (hi + 1) := by
  refine ⟨fun x q => (jset_off q).trans (h.1 x q), h.2.1, fun i => ?_⟩
  rw [jset_1, if_pos rfl, h.2.2 (a + hi)]
  unfold mvR
  rw [if_neg hsrc]
  by_cases e : i = b + hi
  · rw [if_pos e, if_pos (by omega), e, show b + hi - b = hi by omega]
  · rw [if_neg e, h.2.2 i]
    unfold mvR
    by_cases e2 : b + lo ≤ i ∧ i < b + hi
    · rw [if_pos e2, if_pos (by omega)]
    · rw [if_neg e2, if_neg (by omega)]
theorem mvP.dn {w0 w : jWd} {a b lo hi : Nat} (h : mvP w0 w a b (lo + 1) hi) (hlo : lo < hi) (hsrc : ¬ (b + (lo + 1) ≤ a + lo ∧ a + lo < b + hi)) : mvP w0 (jset w 75 (b + lo) (w.1 75 (a + lo))) a b lo hi := by
  refine ⟨fun x q => (jset_off q).trans (h.1 x q), h.2.1, fun i => ?_⟩
  rw [jset_1, if_pos rfl, h.2.2 (a + lo)]
  unfold mvR
  rw [if_neg hsrc]
  by_cases e : i = b + lo
  · rw [if_pos e, if_pos (by omega), e, show b + lo - b = lo by omega]
  · rw [if_neg e, h.2.2 i]
    unfold mvR
    by_cases e2 : b + (lo + 1) ≤ i ∧ i < b + hi
    · rw [if_pos e2, if_pos (by omega)]
    · rw [if_neg e2, if_neg (by omega)]
theorem rm_mov {w w2 : jWd} {s p u q n : Nat} (hs : s < 4) (hu : u < 4) (hp : p + n ≤ 24) (hq : q + n ≤ 24) (h : mvP w w2 (24 * s + p) (24 * u + q) 0 n) : restM w2 = sMov (restM w) s p u q n := by
  refine rm_ext (fun a e => h.1 a (by omega)) (fun v hv => ?_) (fun v hv => ?_) (fun v j hv hj => ?_) (fun f j e => ?_)
  · rw [h.1 73 (by decide)]; exact (rm_6 hv).trans (if_neg (by omega)).symm
  · rw [h.1 74 (by decide)]; exact (rm_7 hv).trans (if_neg (by omega)).symm
  · rw [h.2.2]
    unfold mvR sMov
    by_cases e : v = u ∧ q ≤ j ∧ j < q + n
    · rw [if_pos (by omega), if_pos (by omega), show 24 * s + p + (24 * v + j - (24 * u + q)) = 24 * s + (p + (j - q)) by omega]
      exact rm_c hs (by omega)
    · rw [if_neg (by omega), if_neg (by omega)]
      exact rm_c hv hj
  · exact if_neg (by omega)
def nMv (r : sg) (x p z q n : Int32) : Int32 := if (0 ≤ x ∧ x ≤ 3) ∧ (0 ≤ z ∧ z ≤ 3) then (if r 6 (nn x) = 0 ∨ r 6 (nn z) = 0 then sErr 2 else if r 6 (nn x) ≠ r 6 (nn z) then sErr 5 else if 0 ≤ n ∧ 0 ≤ p ∧ 0 ≤ q ∧ n ≤ r 7 (nn x) - p ∧ n ≤ r 7 (nn z) - q then 0 else sErr 1) else sErr 1
set_option maxHeartbeats 4000000 in
set_option maxRecDepth 100000 in
theorem k_mnm {G : jG} {w : jWd} {x p z q n : Int32} : jKd G 2 yX7_notMoved cX7_notMoved 7 (some .int) [.ref 68, .int x, .int p, .int z, .int q, .int n] w (some (.int (nMv (restM w) x p z q n))) w := by
  refine jK_of (own := RX7) [some (.ref 68), some (.int x), some (.int p), some (.int z), some (.int q), some (.int n), none] pn7 rfl (Nat.le_of_ble_eq_true rfl) rfl ?_
  refine J_iload_n (pc' := 1) dX7_notMoved_0 rfl rfl ?_
  refine J_S1v (pc' := 4) dX7_notMoved_1 lk_7_256 cd_X7_isSheet (k_X7_isSheet) (jroom_of rfl) (Nat.le_of_ble_eq_true rfl) rfl ?_
  refine J_if_eq 14 (pc' := 7) dX7_notMoved_4 (by decide) rfl (fun h_4 => ?_) (fun h_4 => ?_)
  · refine J_ldc (pc' := 16) dX7_notMoved_14 kc_7_125 rfl ?_
    exact J_iret dX7_notMoved_16  (by unfold nMv; rw [if_neg (show ¬ ((0 ≤ x ∧ x ≤ 3) ∧ (0 ≤ z ∧ z ≤ 3)) from fun q => by first | exact jb_0.mp h_4 q.1 | exact jb_0.mp (by first | exact h_11 | exact Decidable.not_not.mp h_11) q.2)]; exact ⟨jv sE1, rfl⟩)
  · refine J_iload_n (pc' := 8) dX7_notMoved_7 rfl rfl ?_
    refine J_S1v (pc' := 11) dX7_notMoved_8 lk_7_256 cd_X7_isSheet (k_X7_isSheet) (jroom_of rfl) (Nat.le_of_ble_eq_true rfl) rfl ?_
    refine J_if_ne 17 (pc' := 14) dX7_notMoved_11 (by decide) rfl (fun h_11 => ?_) (fun h_11 => ?_)
    · obtain ⟨s0, hs0, rfl⟩ := rng0_ex (n := 3) (by omega) (show 0 ≤ x ∧ x ≤ nI 3 from jb_n h_4)
      have s04 : s0 < 4 := by omega
      obtain ⟨u0, hu0, rfl⟩ := rng0_ex (n := 3) (by omega) (show 0 ≤ z ∧ z ≤ nI 3 from jb_n h_11)
      have u04 : u0 < 4 := by omega
      have b6 := rm_6 (w := w) s04
      have c6 := rm_6 (w := w) u04
      have b7 := rm_7 (w := w) s04
      have c7 := rm_7 (w := w) u04
      have hx : (0 ≤ nI s0 ∧ nI s0 ≤ 3) ∧ (0 ≤ nI u0 ∧ nI u0 ≤ 3) := ⟨jb_n h_4, jb_n h_11⟩
      refine J_aload_n (pc' := 18) dX7_notMoved_17 rfl rfl ?_
      refine J_getR (pc' := 21) dX7_notMoved_18 fl_7_22 (ly_68) (l84_68) rfl rfl ?_
      refine J_iload_n (pc' := 22) dX7_notMoved_21 rfl rfl ?_
      refine J_iald s0 (pc' := 23) dX7_notMoved_22 (ly_73) (l84_73) rfl s04 (by decide) rfl ?_
      rw [b6]
      refine J_if_eq 35 (pc' := 26) dX7_notMoved_23 (by decide) rfl (fun h_23 => ?_) (fun h_23 => ?_)
      · refine J_ldc (pc' := 37) dX7_notMoved_35 kc_7_248 rfl ?_
        exact J_iret dX7_notMoved_37  (by unfold nMv; rw [if_pos hx, nn_nI (by omega), nn_nI (by omega), if_pos (show restM w 6 s0 = 0 ∨ restM w 6 u0 = 0 from by first | exact Or.inl (by first | exact h_23 | exact Decidable.not_not.mp h_23) | exact Or.inr (by first | exact h_32 | exact Decidable.not_not.mp h_32))]; exact ⟨jv sE2, rfl⟩)
      · refine J_aload_n (pc' := 27) dX7_notMoved_26 rfl rfl ?_
        refine J_getR (pc' := 30) dX7_notMoved_27 fl_7_22 (ly_68) (l84_68) rfl rfl ?_
        refine J_iload_n (pc' := 31) dX7_notMoved_30 rfl rfl ?_
        refine J_iald u0 (pc' := 32) dX7_notMoved_31 (ly_73) (l84_73) rfl u04 (by decide) rfl ?_
        rw [c6]
        refine J_if_ne 38 (pc' := 35) dX7_notMoved_32 (by decide) rfl (fun h_32 => ?_) (fun h_32 => ?_)
        · refine J_aload_n (pc' := 39) dX7_notMoved_38 rfl rfl ?_
          refine J_getR (pc' := 42) dX7_notMoved_39 fl_7_22 (ly_68) (l84_68) rfl rfl ?_
          refine J_iload_n (pc' := 43) dX7_notMoved_42 rfl rfl ?_
          refine J_iald s0 (pc' := 44) dX7_notMoved_43 (ly_73) (l84_73) rfl s04 (by decide) rfl ?_
          rw [b6]
          refine J_aload_n (pc' := 45) dX7_notMoved_44 rfl rfl ?_
          refine J_getR (pc' := 48) dX7_notMoved_45 fl_7_22 (ly_68) (l84_68) rfl rfl ?_
          refine J_iload_n (pc' := 49) dX7_notMoved_48 rfl rfl ?_
          refine J_iald u0 (pc' := 50) dX7_notMoved_49 (ly_73) (l84_73) rfl u04 (by decide) rfl ?_
          rw [c6]
          refine J_icmp_eq 56 (pc' := 53) dX7_notMoved_50 (by decide) rfl (fun h_50 => ?_) (fun h_50 => ?_)
          · refine J_iload (pc' := 58) dX7_notMoved_56 rfl rfl ?_
            refine J_if_lt 101 (pc' := 61) dX7_notMoved_58 (by decide) rfl (fun h_58 => ?_) (fun h_58 => ?_)
            · refine J_iconst (v := 0) (pc' := 102) dX7_notMoved_101 (by decide) rfl ?_
              refine J_istore (pc' := 104) dX7_notMoved_102 (Nat.le_of_ble_eq_true rfl) (jst6 rfl rfl) rfl ?_
              refine J_iload (pc' := 106) dX7_notMoved_104 rfl rfl ?_
              refine J_if_eq 113 (pc' := 109) dX7_notMoved_106 (by decide) rfl (fun h_106 => ?_) (fun h_106 => absurd rfl h_106)
              refine J_ldc (pc' := 115) dX7_notMoved_113 kc_7_125 rfl ?_
              exact J_iret dX7_notMoved_115  (by unfold nMv; rw [if_pos hx, nn_nI (by omega), nn_nI (by omega), if_neg (show ¬ (restM w 6 s0 = 0 ∨ restM w 6 u0 = 0) from fun q => q.elim h_23 h_32), if_neg (show ¬ (restM w 6 s0 ≠ restM w 6 u0) from fun q => q (by first | exact h_50 | exact Decidable.not_not.mp h_50)), if_neg (show ¬ (0 ≤ n ∧ 0 ≤ p ∧ 0 ≤ q ∧ n ≤ restM w 7 s0 - p ∧ n ≤ restM w 7 u0 - q) from fun q => by first | exact absurd h_58 (Int32.not_lt.mpr q.1) | exact absurd h_62 (Int32.not_lt.mpr q.2.1) | exact absurd h_67 (Int32.not_lt.mpr q.2.2.1) | exact absurd h_80 (Int32.not_lt.mpr q.2.2.2.1) | exact absurd h_94 (Int32.not_lt.mpr q.2.2.2.2))]; exact ⟨jv sE1, rfl⟩)
            · refine J_iload_n (pc' := 62) dX7_notMoved_61 rfl rfl ?_
              refine J_if_lt 101 (pc' := 65) dX7_notMoved_62 (by decide) rfl (fun h_62 => ?_) (fun h_62 => ?_)
              · refine J_iconst (v := 0) (pc' := 102) dX7_notMoved_101 (by decide) rfl ?_
                refine J_istore (pc' := 104) dX7_notMoved_102 (Nat.le_of_ble_eq_true rfl) (jst6 rfl rfl) rfl ?_
                refine J_iload (pc' := 106) dX7_notMoved_104 rfl rfl ?_
                refine J_if_eq 113 (pc' := 109) dX7_notMoved_106 (by decide) rfl (fun h_106 => ?_) (fun h_106 => absurd rfl h_106)
                refine J_ldc (pc' := 115) dX7_notMoved_113 kc_7_125 rfl ?_
                exact J_iret dX7_notMoved_115  (by unfold nMv; rw [if_pos hx, nn_nI (by omega), nn_nI (by omega), if_neg (show ¬ (restM w 6 s0 = 0 ∨ restM w 6 u0 = 0) from fun q => q.elim h_23 h_32), if_neg (show ¬ (restM w 6 s0 ≠ restM w 6 u0) from fun q => q (by first | exact h_50 | exact Decidable.not_not.mp h_50)), if_neg (show ¬ (0 ≤ n ∧ 0 ≤ p ∧ 0 ≤ q ∧ n ≤ restM w 7 s0 - p ∧ n ≤ restM w 7 u0 - q) from fun q => by first | exact absurd h_58 (Int32.not_lt.mpr q.1) | exact absurd h_62 (Int32.not_lt.mpr q.2.1) | exact absurd h_67 (Int32.not_lt.mpr q.2.2.1) | exact absurd h_80 (Int32.not_lt.mpr q.2.2.2.1) | exact absurd h_94 (Int32.not_lt.mpr q.2.2.2.2))]; exact ⟨jv sE1, rfl⟩)
              · refine J_iload (pc' := 67) dX7_notMoved_65 rfl rfl ?_
                refine J_if_lt 101 (pc' := 70) dX7_notMoved_67 (by decide) rfl (fun h_67 => ?_) (fun h_67 => ?_)
                · refine J_iconst (v := 0) (pc' := 102) dX7_notMoved_101 (by decide) rfl ?_
                  refine J_istore (pc' := 104) dX7_notMoved_102 (Nat.le_of_ble_eq_true rfl) (jst6 rfl rfl) rfl ?_
                  refine J_iload (pc' := 106) dX7_notMoved_104 rfl rfl ?_
                  refine J_if_eq 113 (pc' := 109) dX7_notMoved_106 (by decide) rfl (fun h_106 => ?_) (fun h_106 => absurd rfl h_106)
                  refine J_ldc (pc' := 115) dX7_notMoved_113 kc_7_125 rfl ?_
                  exact J_iret dX7_notMoved_115  (by unfold nMv; rw [if_pos hx, nn_nI (by omega), nn_nI (by omega), if_neg (show ¬ (restM w 6 s0 = 0 ∨ restM w 6 u0 = 0) from fun q => q.elim h_23 h_32), if_neg (show ¬ (restM w 6 s0 ≠ restM w 6 u0) from fun q => q (by first | exact h_50 | exact Decidable.not_not.mp h_50)), if_neg (show ¬ (0 ≤ n ∧ 0 ≤ p ∧ 0 ≤ q ∧ n ≤ restM w 7 s0 - p ∧ n ≤ restM w 7 u0 - q) from fun q => by first | exact absurd h_58 (Int32.not_lt.mpr q.1) | exact absurd h_62 (Int32.not_lt.mpr q.2.1) | exact absurd h_67 (Int32.not_lt.mpr q.2.2.1) | exact absurd h_80 (Int32.not_lt.mpr q.2.2.2.1) | exact absurd h_94 (Int32.not_lt.mpr q.2.2.2.2))]; exact ⟨jv sE1, rfl⟩)
                · refine J_iload (pc' := 72) dX7_notMoved_70 rfl rfl ?_
                  refine J_aload_n (pc' := 73) dX7_notMoved_72 rfl rfl ?_
                  refine J_getR (pc' := 76) dX7_notMoved_73 fl_7_25 (ly_68) (l84_68) rfl rfl ?_
                  refine J_iload_n (pc' := 77) dX7_notMoved_76 rfl rfl ?_
                  refine J_iald s0 (pc' := 78) dX7_notMoved_77 (ly_74) (l84_74) rfl s04 (by decide) rfl ?_
                  rw [b7]
                  refine J_iload_n (pc' := 79) dX7_notMoved_78 rfl rfl ?_
                  refine J_isub (pc' := 80) dX7_notMoved_79 rfl ?_
                  refine J_icmp_gt 101 (pc' := 83) dX7_notMoved_80 (by decide) rfl (fun h_80 => ?_) (fun h_80 => ?_)
                  · refine J_iconst (v := 0) (pc' := 102) dX7_notMoved_101 (by decide) rfl ?_
                    refine J_istore (pc' := 104) dX7_notMoved_102 (Nat.le_of_ble_eq_true rfl) (jst6 rfl rfl) rfl ?_
                    refine J_iload (pc' := 106) dX7_notMoved_104 rfl rfl ?_
                    refine J_if_eq 113 (pc' := 109) dX7_notMoved_106 (by decide) rfl (fun h_106 => ?_) (fun h_106 => absurd rfl h_106)
                    refine J_ldc (pc' := 115) dX7_notMoved_113 kc_7_125 rfl ?_
                    exact J_iret dX7_notMoved_115  (by unfold nMv; rw [if_pos hx, nn_nI (by omega), nn_nI (by omega), if_neg (show ¬ (restM w 6 s0 = 0 ∨ restM w 6 u0 = 0) from fun q => q.elim h_23 h_32), if_neg (show ¬ (restM w 6 s0 ≠ restM w 6 u0) from fun q => q (by first | exact h_50 | exact Decidable.not_not.mp h_50)), if_neg (show ¬ (0 ≤ n ∧ 0 ≤ p ∧ 0 ≤ q ∧ n ≤ restM w 7 s0 - p ∧ n ≤ restM w 7 u0 - q) from fun q => by first | exact absurd h_58 (Int32.not_lt.mpr q.1) | exact absurd h_62 (Int32.not_lt.mpr q.2.1) | exact absurd h_67 (Int32.not_lt.mpr q.2.2.1) | exact absurd h_80 (Int32.not_lt.mpr q.2.2.2.1) | exact absurd h_94 (Int32.not_lt.mpr q.2.2.2.2))]; exact ⟨jv sE1, rfl⟩)
                  · refine J_iload (pc' := 85) dX7_notMoved_83 rfl rfl ?_
                    refine J_aload_n (pc' := 86) dX7_notMoved_85 rfl rfl ?_
                    refine J_getR (pc' := 89) dX7_notMoved_86 fl_7_25 (ly_68) (l84_68) rfl rfl ?_
                    refine J_iload_n (pc' := 90) dX7_notMoved_89 rfl rfl ?_
                    refine J_iald u0 (pc' := 91) dX7_notMoved_90 (ly_74) (l84_74) rfl u04 (by decide) rfl ?_
                    rw [c7]
                    refine J_iload (pc' := 93) dX7_notMoved_91 rfl rfl ?_
                    refine J_isub (pc' := 94) dX7_notMoved_93 rfl ?_
                    refine J_icmp_gt 101 (pc' := 97) dX7_notMoved_94 (by decide) rfl (fun h_94 => ?_) (fun h_94 => ?_)
                    · refine J_iconst (v := 0) (pc' := 102) dX7_notMoved_101 (by decide) rfl ?_
                      refine J_istore (pc' := 104) dX7_notMoved_102 (Nat.le_of_ble_eq_true rfl) (jst6 rfl rfl) rfl ?_
                      refine J_iload (pc' := 106) dX7_notMoved_104 rfl rfl ?_
                      refine J_if_eq 113 (pc' := 109) dX7_notMoved_106 (by decide) rfl (fun h_106 => ?_) (fun h_106 => absurd rfl h_106)
                      refine J_ldc (pc' := 115) dX7_notMoved_113 kc_7_125 rfl ?_
                      exact J_iret dX7_notMoved_115  (by unfold nMv; rw [if_pos hx, nn_nI (by omega), nn_nI (by omega), if_neg (show ¬ (restM w 6 s0 = 0 ∨ restM w 6 u0 = 0) from fun q => q.elim h_23 h_32), if_neg (show ¬ (restM w 6 s0 ≠ restM w 6 u0) from fun q => q (by first | exact h_50 | exact Decidable.not_not.mp h_50)), if_neg (show ¬ (0 ≤ n ∧ 0 ≤ p ∧ 0 ≤ q ∧ n ≤ restM w 7 s0 - p ∧ n ≤ restM w 7 u0 - q) from fun q => by first | exact absurd h_58 (Int32.not_lt.mpr q.1) | exact absurd h_62 (Int32.not_lt.mpr q.2.1) | exact absurd h_67 (Int32.not_lt.mpr q.2.2.1) | exact absurd h_80 (Int32.not_lt.mpr q.2.2.2.1) | exact absurd h_94 (Int32.not_lt.mpr q.2.2.2.2))]; exact ⟨jv sE1, rfl⟩)
                    · refine J_iconst (v := 1) (pc' := 98) dX7_notMoved_97 (by decide) rfl ?_
                      refine J_goto (pc' := 0) 102 dX7_notMoved_98 (by decide) ?_
                      refine J_istore (pc' := 104) dX7_notMoved_102 (Nat.le_of_ble_eq_true rfl) (jst6 rfl rfl) rfl ?_
                      refine J_iload (pc' := 106) dX7_notMoved_104 rfl rfl ?_
                      refine J_if_eq 113 (pc' := 109) dX7_notMoved_106 (by decide) rfl (fun h_106 => absurd h_106 (by decide)) (fun h_106 => ?_)
                      refine J_iconst (v := 0) (pc' := 110) dX7_notMoved_109 (by decide) rfl ?_
                      refine J_goto (pc' := 0) 115 dX7_notMoved_110 (by decide) ?_
                      exact J_iret dX7_notMoved_115  (by unfold nMv; rw [if_pos hx, nn_nI (by omega), nn_nI (by omega), if_neg (show ¬ (restM w 6 s0 = 0 ∨ restM w 6 u0 = 0) from fun q => q.elim h_23 h_32), if_neg (show ¬ (restM w 6 s0 ≠ restM w 6 u0) from fun q => q (by first | exact h_50 | exact Decidable.not_not.mp h_50)), if_pos (show 0 ≤ n ∧ 0 ≤ p ∧ 0 ≤ q ∧ n ≤ restM w 7 s0 - p ∧ n ≤ restM w 7 u0 - q from ⟨by first | exact Int32.not_lt.mp h_58 | exact h_58, by first | exact Int32.not_lt.mp h_62 | exact h_62, by first | exact Int32.not_lt.mp h_67 | exact h_67, by first | exact Int32.not_lt.mp h_80 | exact h_80, by first | exact Int32.not_lt.mp h_94 | exact h_94⟩)]; exact ⟨rfl, rfl⟩)
          · refine J_ldc (pc' := 55) dX7_notMoved_53 kc_7_140 rfl ?_
            exact J_iret dX7_notMoved_55  (by unfold nMv; rw [if_pos hx, nn_nI (by omega), nn_nI (by omega), if_neg (show ¬ (restM w 6 s0 = 0 ∨ restM w 6 u0 = 0) from fun q => q.elim h_23 h_32), if_pos (show restM w 6 s0 ≠ restM w 6 u0 from h_50)]; exact ⟨jv sE5, rfl⟩)
        · refine J_ldc (pc' := 37) dX7_notMoved_35 kc_7_248 rfl ?_
          exact J_iret dX7_notMoved_37  (by unfold nMv; rw [if_pos hx, nn_nI (by omega), nn_nI (by omega), if_pos (show restM w 6 s0 = 0 ∨ restM w 6 u0 = 0 from by first | exact Or.inl (by first | exact h_23 | exact Decidable.not_not.mp h_23) | exact Or.inr (by first | exact h_32 | exact Decidable.not_not.mp h_32))]; exact ⟨jv sE2, rfl⟩)
    · refine J_ldc (pc' := 16) dX7_notMoved_14 kc_7_125 rfl ?_
      exact J_iret dX7_notMoved_16  (by unfold nMv; rw [if_neg (show ¬ ((0 ≤ x ∧ x ≤ 3) ∧ (0 ≤ z ∧ z ≤ 3)) from fun q => by first | exact jb_0.mp h_4 q.1 | exact jb_0.mp (by first | exact h_11 | exact Decidable.not_not.mp h_11) q.2)]; exact ⟨jv sE1, rfl⟩)
set_option maxHeartbeats 4000000 in
set_option maxRecDepth 100000 in
theorem l_mvu {G : jG} {w : jWd} {s0 u0 p0 q0 n0 : Nat} (hs : s0 < 4) (hu : u0 < 4) (hp : p0 + n0 ≤ 24) (hq : q0 + n0 ≤ 24) (hc : q0 ≤ p0) {Q : Option Value → jWd → Prop} (hQ : ∀ w2, mvP w w2 (24 * s0 + p0) (24 * u0 + q0) 0 n0 → Q (some (.int (nI n0))) w2) : ∀ n j : Nat, j + n = n0 → ∀ (w2 : jWd) (_ : mvP w w2 (24 * s0 + p0) (24 * u0 + q0) 0 j), J G (jM G 3 RX7 cX7_move 9 (some .int) (Q)) w2 28 [some (.ref 68), some (.int (nI s0)), some (.int (nI p0)), some (.int (nI u0)), some (.int (nI q0)), some (.int (nI n0)), none, some (.int (nI j)), none] [] := by
  intro n
  induction n with
  | zero =>
    intro j hj w2 hm
    refine J_iload (pc' := 30) dX7_move_28 rfl rfl ?_
    refine J_iload (pc' := 32) dX7_move_30 rfl rfl ?_
    refine J_icmp_ge 90 (pc' := 35) dX7_move_32 (by decide) rfl (fun h_32 => ?_) (fun h_32 => absurd (nI_le (by omega) (by omega)) h_32)
    refine J_iload (pc' := 92) dX7_move_90 rfl rfl ?_
    obtain rfl : j = n0 := by omega
    exact J_iret dX7_move_92  (hQ w2 (hm))
  | succ n ih =>
    intro j hj w2 hm
    refine J_iload (pc' := 30) dX7_move_28 rfl rfl ?_
    refine J_iload (pc' := 32) dX7_move_30 rfl rfl ?_
    refine J_icmp_ge 90 (pc' := 35) dX7_move_32 (by decide) rfl (fun h_32 => absurd h_32 (nI_ge (by omega) (by omega))) (fun h_32 => ?_)
    refine J_iload_n (pc' := 36) dX7_move_35 rfl rfl ?_
    refine J_iload (pc' := 38) dX7_move_36 rfl rfl ?_
    refine J_icmp_ge 51 (pc' := 41) dX7_move_38 (by decide) rfl (fun h_38 => ?_) (fun h_38 => absurd (nI_le (by omega) (by omega)) h_38)
    refine J_iload (pc' := 53) dX7_move_51 rfl rfl ?_
    refine J_istore (pc' := 55) dX7_move_53 (Nat.le_of_ble_eq_true rfl) (jst8 rfl rfl) rfl ?_
    refine J_aload_n (pc' := 56) dX7_move_55 rfl rfl ?_
    refine J_getR (pc' := 59) dX7_move_56 fl_7_28 (ly_68) (l84_68) rfl rfl ?_
    refine J_bipush (v := 24) (pc' := 61) dX7_move_59 (by decide) rfl ?_
    refine J_iload_n (pc' := 62) dX7_move_61 rfl rfl ?_
    refine J_imul (pc' := 63) dX7_move_62 rfl ?_
    refine J_iload (pc' := 65) dX7_move_63 rfl rfl ?_
    refine J_iadd (pc' := 66) dX7_move_65 rfl ?_
    refine J_iload (pc' := 68) dX7_move_66 rfl rfl ?_
    refine J_iadd (pc' := 69) dX7_move_68 rfl ?_
    refine J_aload_n (pc' := 70) dX7_move_69 rfl rfl ?_
    refine J_getR (pc' := 73) dX7_move_70 fl_7_28 (ly_68) (l84_68) rfl rfl ?_
    refine J_bipush (v := 24) (pc' := 75) dX7_move_73 (by decide) rfl ?_
    refine J_iload_n (pc' := 76) dX7_move_75 rfl rfl ?_
    refine J_imul (pc' := 77) dX7_move_76 rfl ?_
    refine J_iload_n (pc' := 78) dX7_move_77 rfl rfl ?_
    refine J_iadd (pc' := 79) dX7_move_78 rfl ?_
    refine J_iload (pc' := 81) dX7_move_79 rfl rfl ?_
    refine J_iadd (pc' := 82) dX7_move_81 rfl ?_
    refine J_iald (24 * s0 + p0 + j) (pc' := 83) dX7_move_82 (ly_75) (l84_75) (jadd (jadd (jmul nIc_24 rfl) rfl) rfl) (by omega) (by decide) rfl ?_
    refine J_iast (24 * u0 + q0 + j) (pc' := 84) dX7_move_83 (ly_75) (l84_75) (jadd (jadd (jmul nIc_24 rfl) rfl) rfl) (by omega) (by decide) rfl ?_
    refine J_iinc (pc' := 87) dX7_move_84 rfl (Nat.le_of_ble_eq_true rfl) (jst7 rfl rfl) rfl ?_
    refine J_goto (pc' := 0) 28 dX7_move_87 (by decide) ?_
    have h2 := ih (j + 1) (by omega) _ (hm.up (by omega) (by omega))
    rw [← z1 j] at h2
    exact J_mask [true, true, true, true, true, true, false, true, false] h2
set_option maxHeartbeats 4000000 in
set_option maxRecDepth 100000 in
theorem l_mvd {G : jG} {w : jWd} {s0 u0 p0 q0 n0 : Nat} (hs : s0 < 4) (hu : u0 < 4) (hp : p0 + n0 ≤ 24) (hq : q0 + n0 ≤ 24) (hc : p0 < q0) {Q : Option Value → jWd → Prop} (hQ : ∀ w2, mvP w w2 (24 * s0 + p0) (24 * u0 + q0) 0 n0 → Q (some (.int (nI n0))) w2) : ∀ n j : Nat, j + n = n0 → ∀ (w2 : jWd) (_ : mvP w w2 (24 * s0 + p0) (24 * u0 + q0) (n0 - j) n0), J G (jM G 3 RX7 cX7_move 9 (some .int) (Q)) w2 28 [some (.ref 68), some (.int (nI s0)), some (.int (nI p0)), some (.int (nI u0)), some (.int (nI q0)), some (.int (nI n0)), none, some (.int (nI j)), none] [] := by
  intro n
  induction n with
  | zero =>
    intro j hj w2 hm
    refine J_iload (pc' := 30) dX7_move_28 rfl rfl ?_
    refine J_iload (pc' := 32) dX7_move_30 rfl rfl ?_
    refine J_icmp_ge 90 (pc' := 35) dX7_move_32 (by decide) rfl (fun h_32 => ?_) (fun h_32 => absurd (nI_le (by omega) (by omega)) h_32)
    refine J_iload (pc' := 92) dX7_move_90 rfl rfl ?_
    obtain rfl : j = n0 := by omega
    exact J_iret dX7_move_92  (hQ w2 (by rw [Nat.sub_self] at hm; exact hm))
  | succ n ih =>
    intro j hj w2 hm
    have hen : nI n0 - 1 - nI j = nI (n0 - 1 - j) := jsub (jsub rfl nIc_1 (by omega)) rfl (by omega)
    refine J_iload (pc' := 30) dX7_move_28 rfl rfl ?_
    refine J_iload (pc' := 32) dX7_move_30 rfl rfl ?_
    refine J_icmp_ge 90 (pc' := 35) dX7_move_32 (by decide) rfl (fun h_32 => absurd h_32 (nI_ge (by omega) (by omega))) (fun h_32 => ?_)
    refine J_iload_n (pc' := 36) dX7_move_35 rfl rfl ?_
    refine J_iload (pc' := 38) dX7_move_36 rfl rfl ?_
    refine J_icmp_ge 51 (pc' := 41) dX7_move_38 (by decide) rfl (fun h_38 => absurd h_38 (nI_ge (by omega) (by omega))) (fun h_38 => ?_)
    refine J_iload (pc' := 43) dX7_move_41 rfl rfl ?_
    refine J_iconst (v := 1) (pc' := 44) dX7_move_43 (by decide) rfl ?_
    refine J_isub (pc' := 45) dX7_move_44 rfl ?_
    refine J_iload (pc' := 47) dX7_move_45 rfl rfl ?_
    refine J_isub (pc' := 48) dX7_move_47 rfl ?_
    refine J_goto (pc' := 0) 53 dX7_move_48 (by decide) ?_
    refine J_istore (pc' := 55) dX7_move_53 (Nat.le_of_ble_eq_true rfl) (jst8 rfl rfl) rfl ?_
    refine J_aload_n (pc' := 56) dX7_move_55 rfl rfl ?_
    refine J_getR (pc' := 59) dX7_move_56 fl_7_28 (ly_68) (l84_68) rfl rfl ?_
    refine J_bipush (v := 24) (pc' := 61) dX7_move_59 (by decide) rfl ?_
    refine J_iload_n (pc' := 62) dX7_move_61 rfl rfl ?_
    refine J_imul (pc' := 63) dX7_move_62 rfl ?_
    refine J_iload (pc' := 65) dX7_move_63 rfl rfl ?_
    refine J_iadd (pc' := 66) dX7_move_65 rfl ?_
    refine J_iload (pc' := 68) dX7_move_66 rfl rfl ?_
    refine J_iadd (pc' := 69) dX7_move_68 rfl ?_
    refine J_aload_n (pc' := 70) dX7_move_69 rfl rfl ?_
    refine J_getR (pc' := 73) dX7_move_70 fl_7_28 (ly_68) (l84_68) rfl rfl ?_
    refine J_bipush (v := 24) (pc' := 75) dX7_move_73 (by decide) rfl ?_
    refine J_iload_n (pc' := 76) dX7_move_75 rfl rfl ?_
    refine J_imul (pc' := 77) dX7_move_76 rfl ?_
    refine J_iload_n (pc' := 78) dX7_move_77 rfl rfl ?_
    refine J_iadd (pc' := 79) dX7_move_78 rfl ?_
    refine J_iload (pc' := 81) dX7_move_79 rfl rfl ?_
    refine J_iadd (pc' := 82) dX7_move_81 rfl ?_
    refine J_iald (24 * s0 + p0 + (n0 - 1 - j)) (pc' := 83) dX7_move_82 (ly_75) (l84_75) (jadd (jadd (jmul nIc_24 rfl) rfl) hen) (by omega) (by decide) rfl ?_
    refine J_iast (24 * u0 + q0 + (n0 - 1 - j)) (pc' := 84) dX7_move_83 (ly_75) (l84_75) (jadd (jadd (jmul nIc_24 rfl) rfl) hen) (by omega) (by decide) rfl ?_
    refine J_iinc (pc' := 87) dX7_move_84 rfl (Nat.le_of_ble_eq_true rfl) (jst7 rfl rfl) rfl ?_
    refine J_goto (pc' := 0) 28 dX7_move_87 (by decide) ?_
    have h2 := ih (j + 1) (by omega) _ (by rw [show n0 - (j + 1) = n0 - 1 - j by omega]; exact mvP.dn (by rw [show n0 - 1 - j + 1 = n0 - j by omega]; exact hm) (by omega) (by omega))
    rw [← z1 j] at h2
    exact J_mask [true, true, true, true, true, true, false, true, false] h2
theorem fit_ex {T : Nat} (hT : T ≤ 24) {n p : Int32} (h0 : 0 ≤ n) (h1 : 0 ≤ p) (h2 : n ≤ nI T - p) : ∃ n0 p0 : Nat, n = nI n0 ∧ p = nI p0 ∧ p0 + n0 ≤ T := by
  have q0 := Int32.le_iff_toInt_le.mp h0
  have q1 := Int32.le_iff_toInt_le.mp h1
  have q2 := Int32.le_iff_toInt_le.mp h2
  rw [show (0 : Int32).toInt = 0 from by decide] at q0 q1
  have hp := Int32.toInt_lt p
  rw [Int32.toInt_sub, nI_toInt (by omega), Int.bmod_eq_of_le (by omega) (by omega)] at q2
  refine ⟨n.toInt.toNat, p.toInt.toNat, Int32.toInt_inj.mp ?_, Int32.toInt_inj.mp ?_, by omega⟩
  · rw [nI_toInt (by omega)]; omega
  · rw [nI_toInt (by omega)]; omega
set_option maxHeartbeats 4000000 in
set_option maxRecDepth 100000 in
theorem b_X7_move {G : jG} {w : jWd} (hV : MInv w) (hI : sInv (abM (w.1 69))) (hRI : rInv (restM w)) {x : Int32} {p : Int32} {y : Int32} {q : Int32} {n : Int32} : jKp G 3 yX7_move cX7_move 9 (some .int) [.ref 68, .int x, .int p, .int y, .int q, .int n] w (some (.int (sq_move (abM (w.1 69)) (abM (w.1 70)) (restM w) x p y q n).1)) (fun w' => RQ w w' (sq_move (abM (w.1 69)) (abM (w.1 70)) (restM w) x p y q n).2) := by
  have hT := hV.1
  refine jK_of (own := RX7) [some (.ref 68), some (.int x), some (.int p), some (.int y), some (.int q), some (.int n), none, none, none] pn7 rfl (Nat.le_of_ble_eq_true rfl) rfl ?_
  refine J_aload_n (pc' := 1) dX7_move_0 rfl rfl ?_
  refine J_iload_n (pc' := 2) dX7_move_1 rfl rfl ?_
  refine J_iload_n (pc' := 3) dX7_move_2 rfl rfl ?_
  refine J_iload_n (pc' := 4) dX7_move_3 rfl rfl ?_
  refine J_iload (pc' := 6) dX7_move_4 rfl rfl ?_
  refine J_iload (pc' := 8) dX7_move_6 rfl rfl ?_
  refine J_V5v (pc' := 11) dX7_move_8 lk_7_305 cd_X7_notMoved (k_mnm) (ly_68) (l84_68) rfl rfl (jroom_of rfl) (Nat.le_of_ble_eq_true rfl) rfl ?_
  refine J_istore (pc' := 13) dX7_move_11 (Nat.le_of_ble_eq_true rfl) (jst6 rfl rfl) rfl ?_
  by_cases hx : (0 ≤ x ∧ x ≤ 3) ∧ (0 ≤ y ∧ y ≤ 3)
  · obtain ⟨s0, hs0, rfl⟩ := rng0_ex (n := 3) (by omega) (show 0 ≤ x ∧ x ≤ nI 3 from hx.1)
    obtain ⟨u0, hu0, rfl⟩ := rng0_ex (n := 3) (by omega) (show 0 ≤ y ∧ y ≤ nI 3 from hx.2)
    have hn1 : nn (nI s0) = s0 := nn_nI (by omega)
    have hn2 : nn (nI u0) = u0 := nn_nI (by omega)
    have hM0 : nMv (restM w) (nI s0) p (nI u0) q n = (if restM w 6 s0 = 0 ∨ restM w 6 u0 = 0 then sErr 2 else if restM w 6 s0 ≠ restM w 6 u0 then sErr 5 else if 0 ≤ n ∧ 0 ≤ p ∧ 0 ≤ q ∧ n ≤ restM w 7 s0 - p ∧ n ≤ restM w 7 u0 - q then 0 else sErr 1) := by unfold nMv; rw [if_pos hx, hn1, hn2]
    rw [hM0]
    by_cases c2 : restM w 6 s0 = 0 ∨ restM w 6 u0 = 0
    · rw [if_pos c2]
      refine J_iload (pc' := 15) dX7_move_13 rfl rfl ?_
      refine J_if_eq 25 (pc' := 18) dX7_move_15 (by decide) rfl (fun h_15 => absurd h_15 (by decide)) (fun h_15 => ?_)
      refine J_aload_n (pc' := 19) dX7_move_18 rfl rfl ?_
      refine J_iload (pc' := 21) dX7_move_19 rfl rfl ?_
      refine J_V1v (pc' := 24) dX7_move_21 lk_7_126 cd_X7_error (k_merr (k := 2) (by decide) (by decide)) (ly_68) (l84_68) rfl rfl (jroom_of rfl) (Nat.le_of_ble_eq_true rfl) rfl ?_
      exact J_iret dX7_move_24  (by unfold sq_move; rw [if_pos hx, hn1, hn2, if_pos c2]; exact ⟨rfl, mq_err hV (by decide)⟩)
    · by_cases c5 : restM w 6 s0 ≠ restM w 6 u0
      · rw [if_neg c2, if_pos c5]
        refine J_iload (pc' := 15) dX7_move_13 rfl rfl ?_
        refine J_if_eq 25 (pc' := 18) dX7_move_15 (by decide) rfl (fun h_15 => absurd h_15 (by decide)) (fun h_15 => ?_)
        refine J_aload_n (pc' := 19) dX7_move_18 rfl rfl ?_
        refine J_iload (pc' := 21) dX7_move_19 rfl rfl ?_
        refine J_V1v (pc' := 24) dX7_move_21 lk_7_126 cd_X7_error (k_merr (k := 5) (by decide) (by decide)) (ly_68) (l84_68) rfl rfl (jroom_of rfl) (Nat.le_of_ble_eq_true rfl) rfl ?_
        exact J_iret dX7_move_24  (by unfold sq_move; rw [if_pos hx, hn1, hn2, if_neg c2, if_pos c5]; exact ⟨rfl, mq_err hV (by decide)⟩)
      · by_cases c0 : 0 ≤ n ∧ 0 ≤ p ∧ 0 ≤ q ∧ n ≤ restM w 7 s0 - p ∧ n ≤ restM w 7 u0 - q
        · rw [if_neg c2, if_neg c5, if_pos c0]
          refine J_iload (pc' := 15) dX7_move_13 rfl rfl ?_
          refine J_if_eq 25 (pc' := 18) dX7_move_15 (by decide) rfl (fun h_15 => ?_) (fun h_15 => absurd rfl h_15)
          refine J_iconst (v := 0) (pc' := 26) dX7_move_25 (by decide) rfl ?_
          refine J_istore (pc' := 28) dX7_move_26 (Nat.le_of_ble_eq_true rfl) (jst7 rfl rfl) rfl ?_
          obtain ⟨T, hsz, hT24⟩ := (hRI.2 s0 (by omega)).1
          obtain ⟨T2, hsz2, hT242⟩ := (hRI.2 u0 (by omega)).1
          obtain ⟨c1, c3, c4, c6, c7⟩ := c0
          rw [hsz] at c6
          rw [hsz2] at c7
          obtain ⟨n0, p0, rfl, rfl, hpn⟩ := fit_ex hT24 c1 c3 c6
          obtain ⟨n1, q0, en, rfl, hqn⟩ := fit_ex hT242 c1 c4 c7
          have en2 : n0 = n1 := (nI_eq (by omega) (by omega)).mp en
          subst en2
          have hcl : (0 ≤ nI p0 ∧ nI p0 ≤ restM w 7 s0 ∧ 0 ≤ nI n0 ∧ nI n0 ≤ restM w 7 s0 - nI p0) ∧ (0 ≤ nI q0 ∧ nI q0 ≤ restM w 7 u0 ∧ 0 ≤ nI n0 ∧ nI n0 ≤ restM w 7 u0 - nI q0) := by rw [hsz, hsz2]; exact ⟨⟨c3, nI_le (by omega) (by omega), c1, c6⟩, c4, nI_le (by omega) (by omega), c1, c7⟩
          have fin : ∀ w2, mvP w w2 (24 * s0 + p0) (24 * u0 + q0) 0 n0 → (some (Value.int (nI n0)) = some (.int (sq_move (abM (w.1 69)) (abM (w.1 70)) (restM w) (nI s0) (nI p0) (nI u0) (nI q0) (nI n0)).1) ∧ RQ w w2 (sq_move (abM (w.1 69)) (abM (w.1 70)) (restM w) (nI s0) (nI p0) (nI u0) (nI q0) (nI n0)).2) := by
            intro w2 hm
            unfold sq_move
            rw [if_pos hx, hn1, hn2, if_neg c2, if_neg c5, if_pos hcl, nn_nI (by omega), nn_nI (by omega), nn_nI (by omega)]
            exact ⟨rfl, mq_any hV (hm.1 69 (by decide)) (hm.1 70 (by decide)) (fun a e => ⟨hm.1 a (by omega), by rw [hm.2.1]⟩) (rm_mov (by omega) (by omega) (by omega) (by omega) hm)⟩
          rcases Nat.lt_or_ge p0 q0 with hc | hc
          · exact J_mask [true, true, true, true, true, true, false, true, false] (l_mvd (by omega) (by omega) (by omega) (by omega) hc fin n0 0 (by omega) w ⟨fun _ _ => rfl, rfl, fun i => (if_neg (by omega)).symm⟩)
          · exact J_mask [true, true, true, true, true, true, false, true, false] (l_mvu (by omega) (by omega) (by omega) (by omega) hc fin n0 0 (by omega) w ⟨fun _ _ => rfl, rfl, fun i => (if_neg (by omega)).symm⟩)
        · rw [if_neg c2, if_neg c5, if_neg c0]
          refine J_iload (pc' := 15) dX7_move_13 rfl rfl ?_
          refine J_if_eq 25 (pc' := 18) dX7_move_15 (by decide) rfl (fun h_15 => absurd h_15 (by decide)) (fun h_15 => ?_)
          refine J_aload_n (pc' := 19) dX7_move_18 rfl rfl ?_
          refine J_iload (pc' := 21) dX7_move_19 rfl rfl ?_
          refine J_V1v (pc' := 24) dX7_move_21 lk_7_126 cd_X7_error (k_merr (k := 1) (by decide) (by decide)) (ly_68) (l84_68) rfl rfl (jroom_of rfl) (Nat.le_of_ble_eq_true rfl) rfl ?_
          exact J_iret dX7_move_24  (by unfold sq_move; rw [if_pos hx, hn1, hn2, if_neg c2, if_neg c5, if_neg (show ¬ ((0 ≤ p ∧ p ≤ restM w 7 s0 ∧ 0 ≤ n ∧ n ≤ restM w 7 s0 - p) ∧ (0 ≤ q ∧ q ≤ restM w 7 u0 ∧ 0 ≤ n ∧ n ≤ restM w 7 u0 - q)) from fun e => c0 ⟨e.1.2.2.1, e.1.1, e.2.1, e.1.2.2.2, e.2.2.2.2⟩)]; exact ⟨rfl, mq_err hV (by decide)⟩)
  · rw [show nMv (restM w) x p y q n = sErr 1 from if_neg hx]
    refine J_iload (pc' := 15) dX7_move_13 rfl rfl ?_
    refine J_if_eq 25 (pc' := 18) dX7_move_15 (by decide) rfl (fun h_15 => absurd h_15 (by decide)) (fun h_15 => ?_)
    refine J_aload_n (pc' := 19) dX7_move_18 rfl rfl ?_
    refine J_iload (pc' := 21) dX7_move_19 rfl rfl ?_
    refine J_V1v (pc' := 24) dX7_move_21 lk_7_126 cd_X7_error (k_merr (k := 1) (by decide) (by decide)) (ly_68) (l84_68) rfl rfl (jroom_of rfl) (Nat.le_of_ble_eq_true rfl) rfl ?_
    exact J_iret dX7_move_24  (by unfold sq_move; rw [if_neg hx]; exact ⟨rfl, mq_err hV (by decide)⟩)
