/-! ===== the reference: sheets ===== -/
/-! ===== the reference: sheets ===== -/
/-- what a step changes of the sheets -/
def frC (w w2 : jWd) : Prop := (∀ a, (a < 73 ∨ 75 < a) → w2.1 a = w.1 a) ∧ w2.2 = w.2
theorem frC.rf (w : jWd) : frC w w := ⟨fun _ _ => rfl, rfl⟩
theorem frC.set {w w2 : jWd} (h : frC w w2) {a k : Nat} {v : Int32} (h1 : 73 ≤ a) (h2 : a ≤ 75) : frC w (jset w2 a k v) := ⟨fun x hx => by rw [jset_off (by omega)]; exact h.1 x hx, h.2⟩
theorem mq_sh {w w2 : jWd} {r : sg} (hV : MInv w) (h : frC w w2) (hr : restM w2 = r) : RQ w w2 (abM (w.1 69), abM (w.1 70), r) := mq_any hV (h.1 69 (by omega)) (h.1 70 (by omega)) (fun a q => ⟨h.1 a (by omega), by rw [h.2]⟩) hr
theorem rm_6 {w : jWd} {s : Nat} (hs : s < 4) : w.1 73 s = restM w 6 s := (if_pos hs).symm
theorem rm_7 {w : jWd} {s : Nat} (hs : s < 4) : w.1 74 s = restM w 7 s := (if_pos hs).symm
theorem rm_c {w : jWd} {s k : Nat} (hs : s < 4) (hk : k < 24) : w.1 75 (24 * s + k) = restM w (2 + s) k := by
  obtain rfl | rfl | rfl | rfl : s = 0 ∨ s = 1 ∨ s = 2 ∨ s = 3 := by omega
  · rw [Nat.mul_zero, Nat.zero_add]; exact (if_pos hk).symm
  · exact (if_pos hk).symm
  · exact (if_pos hk).symm
  · exact (if_pos hk).symm
/-- what is left of the rest, field by field -/
theorem rmq_0 (w : jWd) (k : Nat) : restM w 0 k = if k < 7 then w.1 72 k else 0 := rfl
theorem rmq_1 (w : jWd) (k : Nat) : restM w 1 k = if k = 0 then w.1 68 3 else 0 := rfl
theorem rmq_2 (w : jWd) (k : Nat) : restM w 2 k = if k < 24 then w.1 75 k else 0 := rfl
theorem rmq_3 (w : jWd) (k : Nat) : restM w 3 k = if k < 24 then w.1 75 (24 + k) else 0 := rfl
theorem rmq_4 (w : jWd) (k : Nat) : restM w 4 k = if k < 24 then w.1 75 (48 + k) else 0 := rfl
theorem rmq_5 (w : jWd) (k : Nat) : restM w 5 k = if k < 24 then w.1 75 (72 + k) else 0 := rfl
theorem rmq_6 (w : jWd) (k : Nat) : restM w 6 k = if k < 4 then w.1 73 k else 0 := rfl
theorem rmq_7 (w : jWd) (k : Nat) : restM w 7 k = if k < 4 then w.1 74 k else 0 := rfl
theorem rmq_8 (w : jWd) (k : Nat) : restM w 8 k = if k < nn (w.1 68 22) then w.1 83 k else 0 := rfl
theorem rmq_9 (w : jWd) (k : Nat) : restM w 9 k = if k = 0 then w.1 68 22 else 0 := rfl
theorem rmq_10 (w : jWd) (n k : Nat) : restM w (n + 10) k = 0 := rfl
theorem rm_ext {w w2 : jWd} {r : sg} (h : ∀ a, a < 73 ∨ 75 < a → w2.1 a = w.1 a) (h6 : ∀ s, s < 4 → w2.1 73 s = r 6 s) (h7 : ∀ s, s < 4 → w2.1 74 s = r 7 s) (hc : ∀ s k, s < 4 → k < 24 → w2.1 75 (24 * s + k) = r (2 + s) k) (ho : ∀ f k, (f < 2 ∨ 7 < f ∨ (f < 6 ∧ 24 ≤ k) ∨ ((f = 6 ∨ f = 7) ∧ 4 ≤ k)) → r f k = restM w f k) : restM w2 = r := by
  have e68 := h 68 (by omega)
  have e72 := h 72 (by omega)
  have e83 := h 83 (by omega)
  have c0 : ∀ k, k < 24 → w2.1 75 k = r 2 k := fun k e => by have := hc 0 k (by omega) e; rw [Nat.mul_zero, Nat.zero_add] at this; exact this
  have c1 : ∀ k, k < 24 → w2.1 75 (24 + k) = r 3 k := fun k e => hc 1 k (by omega) e
  have c2 : ∀ k, k < 24 → w2.1 75 (48 + k) = r 4 k := fun k e => hc 2 k (by omega) e
  have c3 : ∀ k, k < 24 → w2.1 75 (72 + k) = r 5 k := fun k e => hc 3 k (by omega) e
  funext f k
  rcases (show f = 0 ∨ f = 1 ∨ f = 2 ∨ f = 3 ∨ f = 4 ∨ f = 5 ∨ f = 6 ∨ f = 7 ∨ f = 8 ∨ f = 9 ∨ 10 ≤ f by omega) with rfl | rfl | rfl | rfl | rfl | rfl | rfl | rfl | rfl | rfl | hf
  · rw [ho 0 k (by omega), rmq_0, rmq_0, e72]
  · rw [ho 1 k (by omega), rmq_1, rmq_1, e68]
  · rw [rmq_2]
    by_cases e : k < 24
    · rw [if_pos e, c0 k e]
    · rw [if_neg e, ho 2 k (by omega), rmq_2, if_neg e]
  · rw [rmq_3]
    by_cases e : k < 24
    · rw [if_pos e, c1 k e]
    · rw [if_neg e, ho 3 k (by omega), rmq_3, if_neg e]
  · rw [rmq_4]
    by_cases e : k < 24
    · rw [if_pos e, c2 k e]
    · rw [if_neg e, ho 4 k (by omega), rmq_4, if_neg e]
  · rw [rmq_5]
    by_cases e : k < 24
    · rw [if_pos e, c3 k e]
    · rw [if_neg e, ho 5 k (by omega), rmq_5, if_neg e]
  · rw [rmq_6]
    by_cases e : k < 4
    · rw [if_pos e, h6 k e]
    · rw [if_neg e, ho 6 k (by omega), rmq_6, if_neg e]
  · rw [rmq_7]
    by_cases e : k < 4
    · rw [if_pos e, h7 k e]
    · rw [if_neg e, ho 7 k (by omega), rmq_7, if_neg e]
  · rw [ho 8 k (by omega), rmq_8, rmq_8, e68, e83]
  · rw [ho 9 k (by omega), rmq_9, rmq_9, e68]
  · obtain ⟨m, rfl⟩ : ∃ m, f = m + 10 := ⟨f - 10, by omega⟩
    rw [ho (m + 10) k (by omega), rmq_10, rmq_10]
theorem rm_row {w : jWd} {s k : Nat} {v : Int32} (hs : s < 4) (hk : k < 24) : restM (jset w 75 (24 * s + k) v) = sg1 (restM w) (2 + s) k v := by
  refine rm_ext (fun a q => jset_off (by omega)) (fun u hu => ?_) (fun u hu => ?_) (fun u j hu hj => ?_) (fun f j q => ?_)
  · rw [jset_off (by decide), sg1_f (by omega)]; exact rm_6 hu
  · rw [jset_off (by decide), sg1_f (by omega)]; exact rm_7 hu
  · rw [jset_1, if_pos rfl]
    by_cases e : u = s ∧ j = k
    · rw [if_pos (by rw [e.1, e.2]), e.1, e.2, sg1_at]
    · rw [if_neg (by omega), rm_c hu hj]; exact (if_neg (by omega)).symm
  · exact if_neg (by omega)
theorem rm_73 {w : jWd} {s : Nat} {v : Int32} (hs : s < 4) : restM (jset w 73 s v) = sg1 (restM w) 6 s v := by
  refine rm_ext (fun a q => jset_off (by omega)) (fun u hu => ?_) (fun u hu => ?_) (fun u j hu hj => ?_) (fun f j q => ?_)
  · rw [jset_1, if_pos rfl]
    by_cases e : u = s
    · rw [if_pos e, e, sg1_at]
    · rw [if_neg e, sg1_k e]; exact rm_6 hu
  · rw [jset_off (by decide), sg1_f (by omega)]; exact rm_7 hu
  · rw [jset_off (by decide), sg1_f (by omega)]; exact rm_c hu hj
  · exact if_neg (by omega)
theorem rm_74 {w : jWd} {s : Nat} {v : Int32} (hs : s < 4) : restM (jset w 74 s v) = sg1 (restM w) 7 s v := by
  refine rm_ext (fun a q => jset_off (by omega)) (fun u hu => ?_) (fun u hu => ?_) (fun u j hu hj => ?_) (fun f j q => ?_)
  · rw [jset_off (by decide), sg1_f (by omega)]; exact rm_6 hu
  · rw [jset_1, if_pos rfl]
    by_cases e : u = s
    · rw [if_pos e, e, sg1_at]
    · rw [if_neg e, sg1_k e]; exact rm_7 hu
  · rw [jset_off (by decide), sg1_f (by omega)]; exact rm_c hu hj
  · exact if_neg (by omega)
theorem sBit_p {b : Int32} (h : sBit b) : (0 < b ↔ b ≠ 0) := by
  unfold sBit at h
  rcases h with e | e | e | e <;> subst e <;> decide
set_option maxHeartbeats 4000000 in
set_option maxRecDepth 100000 in
theorem l_msh {G : jG} {w : jWd} {s0 : Nat} (s04 : s0 < 4) {b len ln : Int32} {Q : Option Value → jWd → Prop} (hQ : ∀ w2, frC w w2 → restM w2 = sLay (restM w) s0 b ln 24 → Q (some (.int 1)) w2) : ∀ n j : Nat, j + n = 24 → ∀ (w2 : jWd) (_ : frC w w2) (_ : restM w2 = sLay (restM w) s0 b ln j), J G (jM G 2 RX7 cX7_sheet 5 (some .int) (Q)) w2 93 [some (.ref 68), some (.int (nI s0)), some (.int b), some (.int len), some (.int (nI j))] [] := by
  intro n
  induction n with
  | zero =>
    intro j hj w2 fr hr
    refine J_iload (pc' := 95) dX7_sheet_93 rfl rfl ?_
    refine J_bipush (v := 24) (pc' := 97) dX7_sheet_95 (by decide) rfl ?_
    refine J_icmp_ge 119 (pc' := 100) dX7_sheet_97 (by decide) rfl (fun h_97 => ?_) (fun h_97 => absurd (by rw [nIc_24]; exact nI_le (by omega) (by omega)) h_97)
    refine J_iconst (v := 1) (pc' := 120) dX7_sheet_119 (by decide) rfl ?_
    obtain rfl : j = 24 := by omega
    exact J_iret dX7_sheet_120  (hQ w2 fr hr)
  | succ n ih =>
    intro j hj w2 fr hr
    refine J_iload (pc' := 95) dX7_sheet_93 rfl rfl ?_
    refine J_bipush (v := 24) (pc' := 97) dX7_sheet_95 (by decide) rfl ?_
    refine J_icmp_ge 119 (pc' := 100) dX7_sheet_97 (by decide) rfl (fun h_97 => absurd h_97 (by rw [nIc_24]; exact nI_ge (by omega) (by omega))) (fun h_97 => ?_)
    refine J_aload_n (pc' := 101) dX7_sheet_100 rfl rfl ?_
    refine J_getR (pc' := 104) dX7_sheet_101 fl_7_28 (ly_68) (l84_68) rfl rfl ?_
    refine J_bipush (v := 24) (pc' := 106) dX7_sheet_104 (by decide) rfl ?_
    refine J_iload_n (pc' := 107) dX7_sheet_106 rfl rfl ?_
    refine J_imul (pc' := 108) dX7_sheet_107 rfl ?_
    refine J_iload (pc' := 110) dX7_sheet_108 rfl rfl ?_
    refine J_iadd (pc' := 111) dX7_sheet_110 rfl ?_
    refine J_iconst (v := 0) (pc' := 112) dX7_sheet_111 (by decide) rfl ?_
    refine J_iast (24 * s0 + j) (pc' := 113) dX7_sheet_112 (ly_75) (l84_75) (jadd (jmul nIc_24 rfl) rfl) (by omega) (by decide) rfl ?_
    refine J_iinc (pc' := 116) dX7_sheet_113 rfl (Nat.le_of_ble_eq_true rfl) (jst4 rfl rfl) rfl ?_
    refine J_goto (pc' := 0) 93 dX7_sheet_116 (by decide) ?_
    have h2 := ih (j + 1) (by omega) _ (fr.set (a := 75) (k := 24 * s0 + j) (v := 0) (by decide) (by decide)) (by rw [rm_row s04 (by omega), hr]; rfl)
    rw [← z1 j] at h2
    exact h2
set_option maxHeartbeats 4000000 in
set_option maxRecDepth 100000 in
theorem b_X7_sheet {G : jG} {w : jWd} (hV : MInv w) (hI : sInv (abM (w.1 69))) {x : Int32} {b : Int32} {len : Int32} : jKp G 2 yX7_sheet cX7_sheet 5 (some .int) [.ref 68, .int x, .int b, .int len] w (some (.int (sq_sheet (abM (w.1 69)) (abM (w.1 70)) (restM w) x b len).1)) (fun w' => RQ w w' (sq_sheet (abM (w.1 69)) (abM (w.1 70)) (restM w) x b len).2) := by
  have hT := hV.1
  refine jK_of (own := RX7) [some (.ref 68), some (.int x), some (.int b), some (.int len), none] pn7 rfl (Nat.le_of_ble_eq_true rfl) rfl ?_
  refine J_iload_n (pc' := 1) dX7_sheet_0 rfl rfl ?_
  refine J_S1v (pc' := 4) dX7_sheet_1 lk_7_256 cd_X7_isSheet (k_X7_isSheet) (jroom_of rfl) (Nat.le_of_ble_eq_true rfl) rfl ?_
  refine J_if_eq 29 (pc' := 7) dX7_sheet_4 (by decide) rfl (fun h_4 => ?_) (fun h_4 => ?_)
  · refine J_aload_n (pc' := 30) dX7_sheet_29 rfl rfl ?_
    refine J_ldc (pc' := 32) dX7_sheet_30 kc_7_125 rfl ?_
    refine J_V1v (pc' := 35) dX7_sheet_32 lk_7_126 cd_X7_error (k_merr (k := 1) (by decide) (by decide)) (ly_68) (l84_68) rfl rfl (jroom_of rfl) (Nat.le_of_ble_eq_true rfl) rfl ?_
    first | exact J_iret dX7_sheet_35  (by unfold sq_sheet; rw [if_neg (show ¬ ((0 ≤ x ∧ x ≤ 3) ∧ sBit b) from fun q => jb_0.mp h_4 q.1)]; exact ⟨rfl, mq_err hV (by decide)⟩) | exact J_iret dX7_sheet_35  (by unfold sq_sheet; rw [if_neg (show ¬ ((0 ≤ x ∧ x ≤ 3) ∧ sBit b) from fun q => by rcases q.2 with e | e | e | e; exact h_8 e; exact h_14 e; exact h_20 e; exact h_26 e)]; exact ⟨rfl, mq_err hV (by decide)⟩)
  · refine J_iload_n (pc' := 8) dX7_sheet_7 rfl rfl ?_
    refine J_if_eq 36 (pc' := 11) dX7_sheet_8 (by decide) rfl (fun h_8 => ?_) (fun h_8 => ?_)
    · obtain ⟨s0, hs0, rfl⟩ := rng0_ex (n := 3) (by omega) (show 0 ≤ x ∧ x ≤ nI 3 from jb_n h_4)
      have s04 : s0 < 4 := by omega
      have hbit : sBit b := by first | exact Or.inl (by first | exact h_8 | exact Decidable.not_not.mp h_8) | exact Or.inr (Or.inl h_14) | exact Or.inr (Or.inr (Or.inl h_20)) | exact Or.inr (Or.inr (Or.inr h_26))
      have hb0 := sBit_p hbit
      have hC0 : (0 ≤ nI s0 ∧ nI s0 ≤ 3) ∧ sBit b := ⟨jb_n h_4, hbit⟩
      refine J_iload_n (pc' := 37) dX7_sheet_36 rfl rfl ?_
      refine J_if_le 51 (pc' := 40) dX7_sheet_37 (by decide) rfl (fun h_37 => ?_) (fun h_37 => ?_)
      · refine J_iload_n (pc' := 52) dX7_sheet_51 rfl rfl ?_
        refine J_if_le 68 (pc' := 55) dX7_sheet_52 (by decide) rfl (fun h_52 => ?_) (fun h_52 => ?_)
        · refine J_aload_n (pc' := 69) dX7_sheet_68 rfl rfl ?_
          refine J_getR (pc' := 72) dX7_sheet_69 fl_7_22 (ly_68) (l84_68) rfl rfl ?_
          refine J_iload_n (pc' := 73) dX7_sheet_72 rfl rfl ?_
          refine J_iload_n (pc' := 74) dX7_sheet_73 rfl rfl ?_
          refine J_iast s0 (pc' := 75) dX7_sheet_74 (ly_73) (l84_73) rfl s04 (by decide) rfl ?_
          refine J_aload_n (pc' := 76) dX7_sheet_75 rfl rfl ?_
          refine J_getR (pc' := 79) dX7_sheet_76 fl_7_25 (ly_68) (l84_68) rfl rfl ?_
          refine J_iload_n (pc' := 80) dX7_sheet_79 rfl rfl ?_
          refine J_iload_n (pc' := 81) dX7_sheet_80 rfl rfl ?_
          refine J_if_ne 88 (pc' := 84) dX7_sheet_81 (by decide) rfl (fun h_81 => ?_) (fun h_81 => ?_)
          · refine J_iload_n (pc' := 89) dX7_sheet_88 rfl rfl ?_
            refine J_iast s0 (pc' := 90) dX7_sheet_89 (ly_74) (l84_74) rfl s04 (by decide) rfl ?_
            refine J_iconst (v := 0) (pc' := 91) dX7_sheet_90 (by decide) rfl ?_
            refine J_istore (pc' := 93) dX7_sheet_91 (Nat.le_of_ble_eq_true rfl) (jst4 rfl rfl) rfl ?_
            have nA : ¬ (b ≠ 0 ∧ len < 0) := fun q => by first | exact absurd h_37 (Int32.not_le.mpr (hb0.mpr q.1)) | exact absurd q.2 (by first | exact Int32.not_lt.mpr h_41 | exact h_41)
            have nB : ¬ (b ≠ 0 ∧ 24 < len) := fun q => by first | exact absurd h_52 (Int32.not_le.mpr (hb0.mpr q.1)) | exact absurd q.2 (by first | exact Int32.not_lt.mpr h_58 | exact h_58)
            refine l_msh s04 (ln := len) (fun w2 fr hr => ?_) 24 0 rfl _ (((frC.rf w).set (a := 73) (k := s0) (v := b) (by decide) (by decide)).set (a := 74) (k := s0) (v := len) (by decide) (by decide)) (by rw [rm_74 s04, rm_73 s04]; rfl)
            unfold sq_sheet
            rw [if_pos hC0, if_neg nA, if_neg nB, nn_nI (by omega), if_neg (show ¬ b = 0 from h_81)]
            exact ⟨rfl, mq_sh hV fr hr⟩
          · refine J_iconst (v := 0) (pc' := 85) dX7_sheet_84 (by decide) rfl ?_
            refine J_goto (pc' := 0) 89 dX7_sheet_85 (by decide) ?_
            refine J_iast s0 (pc' := 90) dX7_sheet_89 (ly_74) (l84_74) rfl s04 (by decide) rfl ?_
            refine J_iconst (v := 0) (pc' := 91) dX7_sheet_90 (by decide) rfl ?_
            refine J_istore (pc' := 93) dX7_sheet_91 (Nat.le_of_ble_eq_true rfl) (jst4 rfl rfl) rfl ?_
            have nA : ¬ (b ≠ 0 ∧ len < 0) := fun q => by first | exact absurd h_37 (Int32.not_le.mpr (hb0.mpr q.1)) | exact absurd q.2 (by first | exact Int32.not_lt.mpr h_41 | exact h_41)
            have nB : ¬ (b ≠ 0 ∧ 24 < len) := fun q => by first | exact absurd h_52 (Int32.not_le.mpr (hb0.mpr q.1)) | exact absurd q.2 (by first | exact Int32.not_lt.mpr h_58 | exact h_58)
            refine l_msh s04 (ln := 0) (fun w2 fr hr => ?_) 24 0 rfl _ (((frC.rf w).set (a := 73) (k := s0) (v := b) (by decide) (by decide)).set (a := 74) (k := s0) (v := 0) (by decide) (by decide)) (by rw [rm_74 s04, rm_73 s04]; rfl)
            unfold sq_sheet
            rw [if_pos hC0, if_neg nA, if_neg nB, nn_nI (by omega), if_pos (show b = 0 from by first | exact h_81 | exact Decidable.not_not.mp h_81)]
            exact ⟨rfl, mq_sh hV fr hr⟩
        · refine J_iload_n (pc' := 56) dX7_sheet_55 rfl rfl ?_
          refine J_bipush (v := 24) (pc' := 58) dX7_sheet_56 (by decide) rfl ?_
          refine J_icmp_le 68 (pc' := 61) dX7_sheet_58 (by decide) rfl (fun h_58 => ?_) (fun h_58 => ?_)
          · refine J_aload_n (pc' := 69) dX7_sheet_68 rfl rfl ?_
            refine J_getR (pc' := 72) dX7_sheet_69 fl_7_22 (ly_68) (l84_68) rfl rfl ?_
            refine J_iload_n (pc' := 73) dX7_sheet_72 rfl rfl ?_
            refine J_iload_n (pc' := 74) dX7_sheet_73 rfl rfl ?_
            refine J_iast s0 (pc' := 75) dX7_sheet_74 (ly_73) (l84_73) rfl s04 (by decide) rfl ?_
            refine J_aload_n (pc' := 76) dX7_sheet_75 rfl rfl ?_
            refine J_getR (pc' := 79) dX7_sheet_76 fl_7_25 (ly_68) (l84_68) rfl rfl ?_
            refine J_iload_n (pc' := 80) dX7_sheet_79 rfl rfl ?_
            refine J_iload_n (pc' := 81) dX7_sheet_80 rfl rfl ?_
            refine J_if_ne 88 (pc' := 84) dX7_sheet_81 (by decide) rfl (fun h_81 => ?_) (fun h_81 => ?_)
            · refine J_iload_n (pc' := 89) dX7_sheet_88 rfl rfl ?_
              refine J_iast s0 (pc' := 90) dX7_sheet_89 (ly_74) (l84_74) rfl s04 (by decide) rfl ?_
              refine J_iconst (v := 0) (pc' := 91) dX7_sheet_90 (by decide) rfl ?_
              refine J_istore (pc' := 93) dX7_sheet_91 (Nat.le_of_ble_eq_true rfl) (jst4 rfl rfl) rfl ?_
              have nA : ¬ (b ≠ 0 ∧ len < 0) := fun q => by first | exact absurd h_37 (Int32.not_le.mpr (hb0.mpr q.1)) | exact absurd q.2 (by first | exact Int32.not_lt.mpr h_41 | exact h_41)
              have nB : ¬ (b ≠ 0 ∧ 24 < len) := fun q => by first | exact absurd h_52 (Int32.not_le.mpr (hb0.mpr q.1)) | exact absurd q.2 (by first | exact Int32.not_lt.mpr h_58 | exact h_58)
              refine l_msh s04 (ln := len) (fun w2 fr hr => ?_) 24 0 rfl _ (((frC.rf w).set (a := 73) (k := s0) (v := b) (by decide) (by decide)).set (a := 74) (k := s0) (v := len) (by decide) (by decide)) (by rw [rm_74 s04, rm_73 s04]; rfl)
              unfold sq_sheet
              rw [if_pos hC0, if_neg nA, if_neg nB, nn_nI (by omega), if_neg (show ¬ b = 0 from h_81)]
              exact ⟨rfl, mq_sh hV fr hr⟩
            · refine J_iconst (v := 0) (pc' := 85) dX7_sheet_84 (by decide) rfl ?_
              refine J_goto (pc' := 0) 89 dX7_sheet_85 (by decide) ?_
              refine J_iast s0 (pc' := 90) dX7_sheet_89 (ly_74) (l84_74) rfl s04 (by decide) rfl ?_
              refine J_iconst (v := 0) (pc' := 91) dX7_sheet_90 (by decide) rfl ?_
              refine J_istore (pc' := 93) dX7_sheet_91 (Nat.le_of_ble_eq_true rfl) (jst4 rfl rfl) rfl ?_
              have nA : ¬ (b ≠ 0 ∧ len < 0) := fun q => by first | exact absurd h_37 (Int32.not_le.mpr (hb0.mpr q.1)) | exact absurd q.2 (by first | exact Int32.not_lt.mpr h_41 | exact h_41)
              have nB : ¬ (b ≠ 0 ∧ 24 < len) := fun q => by first | exact absurd h_52 (Int32.not_le.mpr (hb0.mpr q.1)) | exact absurd q.2 (by first | exact Int32.not_lt.mpr h_58 | exact h_58)
              refine l_msh s04 (ln := 0) (fun w2 fr hr => ?_) 24 0 rfl _ (((frC.rf w).set (a := 73) (k := s0) (v := b) (by decide) (by decide)).set (a := 74) (k := s0) (v := 0) (by decide) (by decide)) (by rw [rm_74 s04, rm_73 s04]; rfl)
              unfold sq_sheet
              rw [if_pos hC0, if_neg nA, if_neg nB, nn_nI (by omega), if_pos (show b = 0 from by first | exact h_81 | exact Decidable.not_not.mp h_81)]
              exact ⟨rfl, mq_sh hV fr hr⟩
          · refine J_aload_n (pc' := 62) dX7_sheet_61 rfl rfl ?_
            refine J_ldc (pc' := 64) dX7_sheet_62 kc_7_125 rfl ?_
            refine J_V1v (pc' := 67) dX7_sheet_64 lk_7_126 cd_X7_error (k_merr (k := 1) (by decide) (by decide)) (ly_68) (l84_68) rfl rfl (jroom_of rfl) (Nat.le_of_ble_eq_true rfl) rfl ?_
            have nA : ¬ (b ≠ 0 ∧ len < 0) := fun q => by first | exact absurd h_37 (Int32.not_le.mpr (hb0.mpr q.1)) | exact absurd q.2 (by first | exact Int32.not_lt.mpr h_41 | exact h_41)
            exact J_iret dX7_sheet_67  (by unfold sq_sheet; rw [if_pos hC0, if_neg nA, if_pos (show b ≠ 0 ∧ 24 < len from ⟨by first | exact hb0.mp (Int32.not_le.mp h_52) | exact hb0.mp h_52, by first | exact Int32.not_le.mp h_58 | exact h_58⟩)]; exact ⟨rfl, mq_err hV (by decide)⟩)
      · refine J_iload_n (pc' := 41) dX7_sheet_40 rfl rfl ?_
        refine J_if_ge 51 (pc' := 44) dX7_sheet_41 (by decide) rfl (fun h_41 => ?_) (fun h_41 => ?_)
        · refine J_iload_n (pc' := 52) dX7_sheet_51 rfl rfl ?_
          refine J_if_le 68 (pc' := 55) dX7_sheet_52 (by decide) rfl (fun h_52 => ?_) (fun h_52 => ?_)
          · refine J_aload_n (pc' := 69) dX7_sheet_68 rfl rfl ?_
            refine J_getR (pc' := 72) dX7_sheet_69 fl_7_22 (ly_68) (l84_68) rfl rfl ?_
            refine J_iload_n (pc' := 73) dX7_sheet_72 rfl rfl ?_
            refine J_iload_n (pc' := 74) dX7_sheet_73 rfl rfl ?_
            refine J_iast s0 (pc' := 75) dX7_sheet_74 (ly_73) (l84_73) rfl s04 (by decide) rfl ?_
            refine J_aload_n (pc' := 76) dX7_sheet_75 rfl rfl ?_
            refine J_getR (pc' := 79) dX7_sheet_76 fl_7_25 (ly_68) (l84_68) rfl rfl ?_
            refine J_iload_n (pc' := 80) dX7_sheet_79 rfl rfl ?_
            refine J_iload_n (pc' := 81) dX7_sheet_80 rfl rfl ?_
            refine J_if_ne 88 (pc' := 84) dX7_sheet_81 (by decide) rfl (fun h_81 => ?_) (fun h_81 => ?_)
            · refine J_iload_n (pc' := 89) dX7_sheet_88 rfl rfl ?_
              refine J_iast s0 (pc' := 90) dX7_sheet_89 (ly_74) (l84_74) rfl s04 (by decide) rfl ?_
              refine J_iconst (v := 0) (pc' := 91) dX7_sheet_90 (by decide) rfl ?_
              refine J_istore (pc' := 93) dX7_sheet_91 (Nat.le_of_ble_eq_true rfl) (jst4 rfl rfl) rfl ?_
              have nA : ¬ (b ≠ 0 ∧ len < 0) := fun q => by first | exact absurd h_37 (Int32.not_le.mpr (hb0.mpr q.1)) | exact absurd q.2 (by first | exact Int32.not_lt.mpr h_41 | exact h_41)
              have nB : ¬ (b ≠ 0 ∧ 24 < len) := fun q => by first | exact absurd h_52 (Int32.not_le.mpr (hb0.mpr q.1)) | exact absurd q.2 (by first | exact Int32.not_lt.mpr h_58 | exact h_58)
              refine l_msh s04 (ln := len) (fun w2 fr hr => ?_) 24 0 rfl _ (((frC.rf w).set (a := 73) (k := s0) (v := b) (by decide) (by decide)).set (a := 74) (k := s0) (v := len) (by decide) (by decide)) (by rw [rm_74 s04, rm_73 s04]; rfl)
              unfold sq_sheet
              rw [if_pos hC0, if_neg nA, if_neg nB, nn_nI (by omega), if_neg (show ¬ b = 0 from h_81)]
              exact ⟨rfl, mq_sh hV fr hr⟩
            · refine J_iconst (v := 0) (pc' := 85) dX7_sheet_84 (by decide) rfl ?_
              refine J_goto (pc' := 0) 89 dX7_sheet_85 (by decide) ?_
              refine J_iast s0 (pc' := 90) dX7_sheet_89 (ly_74) (l84_74) rfl s04 (by decide) rfl ?_
              refine J_iconst (v := 0) (pc' := 91) dX7_sheet_90 (by decide) rfl ?_
              refine J_istore (pc' := 93) dX7_sheet_91 (Nat.le_of_ble_eq_true rfl) (jst4 rfl rfl) rfl ?_
              have nA : ¬ (b ≠ 0 ∧ len < 0) := fun q => by first | exact absurd h_37 (Int32.not_le.mpr (hb0.mpr q.1)) | exact absurd q.2 (by first | exact Int32.not_lt.mpr h_41 | exact h_41)
              have nB : ¬ (b ≠ 0 ∧ 24 < len) := fun q => by first | exact absurd h_52 (Int32.not_le.mpr (hb0.mpr q.1)) | exact absurd q.2 (by first | exact Int32.not_lt.mpr h_58 | exact h_58)
              refine l_msh s04 (ln := 0) (fun w2 fr hr => ?_) 24 0 rfl _ (((frC.rf w).set (a := 73) (k := s0) (v := b) (by decide) (by decide)).set (a := 74) (k := s0) (v := 0) (by decide) (by decide)) (by rw [rm_74 s04, rm_73 s04]; rfl)
              unfold sq_sheet
              rw [if_pos hC0, if_neg nA, if_neg nB, nn_nI (by omega), if_pos (show b = 0 from by first | exact h_81 | exact Decidable.not_not.mp h_81)]
              exact ⟨rfl, mq_sh hV fr hr⟩
          · refine J_iload_n (pc' := 56) dX7_sheet_55 rfl rfl ?_
            refine J_bipush (v := 24) (pc' := 58) dX7_sheet_56 (by decide) rfl ?_
            refine J_icmp_le 68 (pc' := 61) dX7_sheet_58 (by decide) rfl (fun h_58 => ?_) (fun h_58 => ?_)
            · refine J_aload_n (pc' := 69) dX7_sheet_68 rfl rfl ?_
              refine J_getR (pc' := 72) dX7_sheet_69 fl_7_22 (ly_68) (l84_68) rfl rfl ?_
              refine J_iload_n (pc' := 73) dX7_sheet_72 rfl rfl ?_
              refine J_iload_n (pc' := 74) dX7_sheet_73 rfl rfl ?_
              refine J_iast s0 (pc' := 75) dX7_sheet_74 (ly_73) (l84_73) rfl s04 (by decide) rfl ?_
              refine J_aload_n (pc' := 76) dX7_sheet_75 rfl rfl ?_
              refine J_getR (pc' := 79) dX7_sheet_76 fl_7_25 (ly_68) (l84_68) rfl rfl ?_
              refine J_iload_n (pc' := 80) dX7_sheet_79 rfl rfl ?_
              refine J_iload_n (pc' := 81) dX7_sheet_80 rfl rfl ?_
              refine J_if_ne 88 (pc' := 84) dX7_sheet_81 (by decide) rfl (fun h_81 => ?_) (fun h_81 => ?_)
              · refine J_iload_n (pc' := 89) dX7_sheet_88 rfl rfl ?_
                refine J_iast s0 (pc' := 90) dX7_sheet_89 (ly_74) (l84_74) rfl s04 (by decide) rfl ?_
                refine J_iconst (v := 0) (pc' := 91) dX7_sheet_90 (by decide) rfl ?_
                refine J_istore (pc' := 93) dX7_sheet_91 (Nat.le_of_ble_eq_true rfl) (jst4 rfl rfl) rfl ?_
                have nA : ¬ (b ≠ 0 ∧ len < 0) := fun q => by first | exact absurd h_37 (Int32.not_le.mpr (hb0.mpr q.1)) | exact absurd q.2 (by first | exact Int32.not_lt.mpr h_41 | exact h_41)
                have nB : ¬ (b ≠ 0 ∧ 24 < len) := fun q => by first | exact absurd h_52 (Int32.not_le.mpr (hb0.mpr q.1)) | exact absurd q.2 (by first | exact Int32.not_lt.mpr h_58 | exact h_58)
                refine l_msh s04 (ln := len) (fun w2 fr hr => ?_) 24 0 rfl _ (((frC.rf w).set (a := 73) (k := s0) (v := b) (by decide) (by decide)).set (a := 74) (k := s0) (v := len) (by decide) (by decide)) (by rw [rm_74 s04, rm_73 s04]; rfl)
                unfold sq_sheet
                rw [if_pos hC0, if_neg nA, if_neg nB, nn_nI (by omega), if_neg (show ¬ b = 0 from h_81)]
                exact ⟨rfl, mq_sh hV fr hr⟩
              · refine J_iconst (v := 0) (pc' := 85) dX7_sheet_84 (by decide) rfl ?_
                refine J_goto (pc' := 0) 89 dX7_sheet_85 (by decide) ?_
                refine J_iast s0 (pc' := 90) dX7_sheet_89 (ly_74) (l84_74) rfl s04 (by decide) rfl ?_
                refine J_iconst (v := 0) (pc' := 91) dX7_sheet_90 (by decide) rfl ?_
                refine J_istore (pc' := 93) dX7_sheet_91 (Nat.le_of_ble_eq_true rfl) (jst4 rfl rfl) rfl ?_
                have nA : ¬ (b ≠ 0 ∧ len < 0) := fun q => by first | exact absurd h_37 (Int32.not_le.mpr (hb0.mpr q.1)) | exact absurd q.2 (by first | exact Int32.not_lt.mpr h_41 | exact h_41)
                have nB : ¬ (b ≠ 0 ∧ 24 < len) := fun q => by first | exact absurd h_52 (Int32.not_le.mpr (hb0.mpr q.1)) | exact absurd q.2 (by first | exact Int32.not_lt.mpr h_58 | exact h_58)
                refine l_msh s04 (ln := 0) (fun w2 fr hr => ?_) 24 0 rfl _ (((frC.rf w).set (a := 73) (k := s0) (v := b) (by decide) (by decide)).set (a := 74) (k := s0) (v := 0) (by decide) (by decide)) (by rw [rm_74 s04, rm_73 s04]; rfl)
                unfold sq_sheet
                rw [if_pos hC0, if_neg nA, if_neg nB, nn_nI (by omega), if_pos (show b = 0 from by first | exact h_81 | exact Decidable.not_not.mp h_81)]
                exact ⟨rfl, mq_sh hV fr hr⟩
            · refine J_aload_n (pc' := 62) dX7_sheet_61 rfl rfl ?_
              refine J_ldc (pc' := 64) dX7_sheet_62 kc_7_125 rfl ?_
              refine J_V1v (pc' := 67) dX7_sheet_64 lk_7_126 cd_X7_error (k_merr (k := 1) (by decide) (by decide)) (ly_68) (l84_68) rfl rfl (jroom_of rfl) (Nat.le_of_ble_eq_true rfl) rfl ?_
              have nA : ¬ (b ≠ 0 ∧ len < 0) := fun q => by first | exact absurd h_37 (Int32.not_le.mpr (hb0.mpr q.1)) | exact absurd q.2 (by first | exact Int32.not_lt.mpr h_41 | exact h_41)
              exact J_iret dX7_sheet_67  (by unfold sq_sheet; rw [if_pos hC0, if_neg nA, if_pos (show b ≠ 0 ∧ 24 < len from ⟨by first | exact hb0.mp (Int32.not_le.mp h_52) | exact hb0.mp h_52, by first | exact Int32.not_le.mp h_58 | exact h_58⟩)]; exact ⟨rfl, mq_err hV (by decide)⟩)
        · refine J_aload_n (pc' := 45) dX7_sheet_44 rfl rfl ?_
          refine J_ldc (pc' := 47) dX7_sheet_45 kc_7_141 rfl ?_
          refine J_V1v (pc' := 50) dX7_sheet_47 lk_7_126 cd_X7_error (k_merr (k := 3) (by decide) (by decide)) (ly_68) (l84_68) rfl rfl (jroom_of rfl) (Nat.le_of_ble_eq_true rfl) rfl ?_
          exact J_iret dX7_sheet_50  (by unfold sq_sheet; rw [if_pos hC0, if_pos (show b ≠ 0 ∧ len < 0 from ⟨by first | exact hb0.mp (Int32.not_le.mp h_37) | exact hb0.mp h_37, by first | exact Int32.not_le.mp h_41 | exact h_41⟩)]; exact ⟨rfl, mq_err hV (by decide)⟩)
    · refine J_iload_n (pc' := 12) dX7_sheet_11 rfl rfl ?_
      refine J_bipush (v := 8) (pc' := 14) dX7_sheet_12 (by decide) rfl ?_
      refine J_icmp_eq 36 (pc' := 17) dX7_sheet_14 (by decide) rfl (fun h_14 => ?_) (fun h_14 => ?_)
      · obtain ⟨s0, hs0, rfl⟩ := rng0_ex (n := 3) (by omega) (show 0 ≤ x ∧ x ≤ nI 3 from jb_n h_4)
        have s04 : s0 < 4 := by omega
        have hbit : sBit b := by first | exact Or.inl (by first | exact h_8 | exact Decidable.not_not.mp h_8) | exact Or.inr (Or.inl h_14) | exact Or.inr (Or.inr (Or.inl h_20)) | exact Or.inr (Or.inr (Or.inr h_26))
        have hb0 := sBit_p hbit
        have hC0 : (0 ≤ nI s0 ∧ nI s0 ≤ 3) ∧ sBit b := ⟨jb_n h_4, hbit⟩
        refine J_iload_n (pc' := 37) dX7_sheet_36 rfl rfl ?_
        refine J_if_le 51 (pc' := 40) dX7_sheet_37 (by decide) rfl (fun h_37 => ?_) (fun h_37 => ?_)
        · refine J_iload_n (pc' := 52) dX7_sheet_51 rfl rfl ?_
          refine J_if_le 68 (pc' := 55) dX7_sheet_52 (by decide) rfl (fun h_52 => ?_) (fun h_52 => ?_)
          · refine J_aload_n (pc' := 69) dX7_sheet_68 rfl rfl ?_
            refine J_getR (pc' := 72) dX7_sheet_69 fl_7_22 (ly_68) (l84_68) rfl rfl ?_
            refine J_iload_n (pc' := 73) dX7_sheet_72 rfl rfl ?_
            refine J_iload_n (pc' := 74) dX7_sheet_73 rfl rfl ?_
            refine J_iast s0 (pc' := 75) dX7_sheet_74 (ly_73) (l84_73) rfl s04 (by decide) rfl ?_
            refine J_aload_n (pc' := 76) dX7_sheet_75 rfl rfl ?_
            refine J_getR (pc' := 79) dX7_sheet_76 fl_7_25 (ly_68) (l84_68) rfl rfl ?_
            refine J_iload_n (pc' := 80) dX7_sheet_79 rfl rfl ?_
            refine J_iload_n (pc' := 81) dX7_sheet_80 rfl rfl ?_
            refine J_if_ne 88 (pc' := 84) dX7_sheet_81 (by decide) rfl (fun h_81 => ?_) (fun h_81 => ?_)
            · refine J_iload_n (pc' := 89) dX7_sheet_88 rfl rfl ?_
              refine J_iast s0 (pc' := 90) dX7_sheet_89 (ly_74) (l84_74) rfl s04 (by decide) rfl ?_
              refine J_iconst (v := 0) (pc' := 91) dX7_sheet_90 (by decide) rfl ?_
              refine J_istore (pc' := 93) dX7_sheet_91 (Nat.le_of_ble_eq_true rfl) (jst4 rfl rfl) rfl ?_
              have nA : ¬ (b ≠ 0 ∧ len < 0) := fun q => by first | exact absurd h_37 (Int32.not_le.mpr (hb0.mpr q.1)) | exact absurd q.2 (by first | exact Int32.not_lt.mpr h_41 | exact h_41)
              have nB : ¬ (b ≠ 0 ∧ 24 < len) := fun q => by first | exact absurd h_52 (Int32.not_le.mpr (hb0.mpr q.1)) | exact absurd q.2 (by first | exact Int32.not_lt.mpr h_58 | exact h_58)
              refine l_msh s04 (ln := len) (fun w2 fr hr => ?_) 24 0 rfl _ (((frC.rf w).set (a := 73) (k := s0) (v := b) (by decide) (by decide)).set (a := 74) (k := s0) (v := len) (by decide) (by decide)) (by rw [rm_74 s04, rm_73 s04]; rfl)
              unfold sq_sheet
              rw [if_pos hC0, if_neg nA, if_neg nB, nn_nI (by omega), if_neg (show ¬ b = 0 from h_81)]
              exact ⟨rfl, mq_sh hV fr hr⟩
            · refine J_iconst (v := 0) (pc' := 85) dX7_sheet_84 (by decide) rfl ?_
              refine J_goto (pc' := 0) 89 dX7_sheet_85 (by decide) ?_
              refine J_iast s0 (pc' := 90) dX7_sheet_89 (ly_74) (l84_74) rfl s04 (by decide) rfl ?_
              refine J_iconst (v := 0) (pc' := 91) dX7_sheet_90 (by decide) rfl ?_
              refine J_istore (pc' := 93) dX7_sheet_91 (Nat.le_of_ble_eq_true rfl) (jst4 rfl rfl) rfl ?_
              have nA : ¬ (b ≠ 0 ∧ len < 0) := fun q => by first | exact absurd h_37 (Int32.not_le.mpr (hb0.mpr q.1)) | exact absurd q.2 (by first | exact Int32.not_lt.mpr h_41 | exact h_41)
              have nB : ¬ (b ≠ 0 ∧ 24 < len) := fun q => by first | exact absurd h_52 (Int32.not_le.mpr (hb0.mpr q.1)) | exact absurd q.2 (by first | exact Int32.not_lt.mpr h_58 | exact h_58)
              refine l_msh s04 (ln := 0) (fun w2 fr hr => ?_) 24 0 rfl _ (((frC.rf w).set (a := 73) (k := s0) (v := b) (by decide) (by decide)).set (a := 74) (k := s0) (v := 0) (by decide) (by decide)) (by rw [rm_74 s04, rm_73 s04]; rfl)
              unfold sq_sheet
              rw [if_pos hC0, if_neg nA, if_neg nB, nn_nI (by omega), if_pos (show b = 0 from by first | exact h_81 | exact Decidable.not_not.mp h_81)]
              exact ⟨rfl, mq_sh hV fr hr⟩
          · refine J_iload_n (pc' := 56) dX7_sheet_55 rfl rfl ?_
            refine J_bipush (v := 24) (pc' := 58) dX7_sheet_56 (by decide) rfl ?_
            refine J_icmp_le 68 (pc' := 61) dX7_sheet_58 (by decide) rfl (fun h_58 => ?_) (fun h_58 => ?_)
            · refine J_aload_n (pc' := 69) dX7_sheet_68 rfl rfl ?_
              refine J_getR (pc' := 72) dX7_sheet_69 fl_7_22 (ly_68) (l84_68) rfl rfl ?_
              refine J_iload_n (pc' := 73) dX7_sheet_72 rfl rfl ?_
              refine J_iload_n (pc' := 74) dX7_sheet_73 rfl rfl ?_
              refine J_iast s0 (pc' := 75) dX7_sheet_74 (ly_73) (l84_73) rfl s04 (by decide) rfl ?_
              refine J_aload_n (pc' := 76) dX7_sheet_75 rfl rfl ?_
              refine J_getR (pc' := 79) dX7_sheet_76 fl_7_25 (ly_68) (l84_68) rfl rfl ?_
              refine J_iload_n (pc' := 80) dX7_sheet_79 rfl rfl ?_
              refine J_iload_n (pc' := 81) dX7_sheet_80 rfl rfl ?_
              refine J_if_ne 88 (pc' := 84) dX7_sheet_81 (by decide) rfl (fun h_81 => ?_) (fun h_81 => ?_)
              · refine J_iload_n (pc' := 89) dX7_sheet_88 rfl rfl ?_
                refine J_iast s0 (pc' := 90) dX7_sheet_89 (ly_74) (l84_74) rfl s04 (by decide) rfl ?_
                refine J_iconst (v := 0) (pc' := 91) dX7_sheet_90 (by decide) rfl ?_
                refine J_istore (pc' := 93) dX7_sheet_91 (Nat.le_of_ble_eq_true rfl) (jst4 rfl rfl) rfl ?_
                have nA : ¬ (b ≠ 0 ∧ len < 0) := fun q => by first | exact absurd h_37 (Int32.not_le.mpr (hb0.mpr q.1)) | exact absurd q.2 (by first | exact Int32.not_lt.mpr h_41 | exact h_41)
                have nB : ¬ (b ≠ 0 ∧ 24 < len) := fun q => by first | exact absurd h_52 (Int32.not_le.mpr (hb0.mpr q.1)) | exact absurd q.2 (by first | exact Int32.not_lt.mpr h_58 | exact h_58)
                refine l_msh s04 (ln := len) (fun w2 fr hr => ?_) 24 0 rfl _ (((frC.rf w).set (a := 73) (k := s0) (v := b) (by decide) (by decide)).set (a := 74) (k := s0) (v := len) (by decide) (by decide)) (by rw [rm_74 s04, rm_73 s04]; rfl)
                unfold sq_sheet
                rw [if_pos hC0, if_neg nA, if_neg nB, nn_nI (by omega), if_neg (show ¬ b = 0 from h_81)]
                exact ⟨rfl, mq_sh hV fr hr⟩
              · refine J_iconst (v := 0) (pc' := 85) dX7_sheet_84 (by decide) rfl ?_
                refine J_goto (pc' := 0) 89 dX7_sheet_85 (by decide) ?_
                refine J_iast s0 (pc' := 90) dX7_sheet_89 (ly_74) (l84_74) rfl s04 (by decide) rfl ?_
                refine J_iconst (v := 0) (pc' := 91) dX7_sheet_90 (by decide) rfl ?_
                refine J_istore (pc' := 93) dX7_sheet_91 (Nat.le_of_ble_eq_true rfl) (jst4 rfl rfl) rfl ?_
                have nA : ¬ (b ≠ 0 ∧ len < 0) := fun q => by first | exact absurd h_37 (Int32.not_le.mpr (hb0.mpr q.1)) | exact absurd q.2 (by first | exact Int32.not_lt.mpr h_41 | exact h_41)
                have nB : ¬ (b ≠ 0 ∧ 24 < len) := fun q => by first | exact absurd h_52 (Int32.not_le.mpr (hb0.mpr q.1)) | exact absurd q.2 (by first | exact Int32.not_lt.mpr h_58 | exact h_58)
                refine l_msh s04 (ln := 0) (fun w2 fr hr => ?_) 24 0 rfl _ (((frC.rf w).set (a := 73) (k := s0) (v := b) (by decide) (by decide)).set (a := 74) (k := s0) (v := 0) (by decide) (by decide)) (by rw [rm_74 s04, rm_73 s04]; rfl)
                unfold sq_sheet
                rw [if_pos hC0, if_neg nA, if_neg nB, nn_nI (by omega), if_pos (show b = 0 from by first | exact h_81 | exact Decidable.not_not.mp h_81)]
                exact ⟨rfl, mq_sh hV fr hr⟩
            · refine J_aload_n (pc' := 62) dX7_sheet_61 rfl rfl ?_
              refine J_ldc (pc' := 64) dX7_sheet_62 kc_7_125 rfl ?_
              refine J_V1v (pc' := 67) dX7_sheet_64 lk_7_126 cd_X7_error (k_merr (k := 1) (by decide) (by decide)) (ly_68) (l84_68) rfl rfl (jroom_of rfl) (Nat.le_of_ble_eq_true rfl) rfl ?_
              have nA : ¬ (b ≠ 0 ∧ len < 0) := fun q => by first | exact absurd h_37 (Int32.not_le.mpr (hb0.mpr q.1)) | exact absurd q.2 (by first | exact Int32.not_lt.mpr h_41 | exact h_41)
              exact J_iret dX7_sheet_67  (by unfold sq_sheet; rw [if_pos hC0, if_neg nA, if_pos (show b ≠ 0 ∧ 24 < len from ⟨by first | exact hb0.mp (Int32.not_le.mp h_52) | exact hb0.mp h_52, by first | exact Int32.not_le.mp h_58 | exact h_58⟩)]; exact ⟨rfl, mq_err hV (by decide)⟩)
        · refine J_iload_n (pc' := 41) dX7_sheet_40 rfl rfl ?_
          refine J_if_ge 51 (pc' := 44) dX7_sheet_41 (by decide) rfl (fun h_41 => ?_) (fun h_41 => ?_)
          · refine J_iload_n (pc' := 52) dX7_sheet_51 rfl rfl ?_
            refine J_if_le 68 (pc' := 55) dX7_sheet_52 (by decide) rfl (fun h_52 => ?_) (fun h_52 => ?_)
            · refine J_aload_n (pc' := 69) dX7_sheet_68 rfl rfl ?_
              refine J_getR (pc' := 72) dX7_sheet_69 fl_7_22 (ly_68) (l84_68) rfl rfl ?_
              refine J_iload_n (pc' := 73) dX7_sheet_72 rfl rfl ?_
              refine J_iload_n (pc' := 74) dX7_sheet_73 rfl rfl ?_
              refine J_iast s0 (pc' := 75) dX7_sheet_74 (ly_73) (l84_73) rfl s04 (by decide) rfl ?_
              refine J_aload_n (pc' := 76) dX7_sheet_75 rfl rfl ?_
              refine J_getR (pc' := 79) dX7_sheet_76 fl_7_25 (ly_68) (l84_68) rfl rfl ?_
              refine J_iload_n (pc' := 80) dX7_sheet_79 rfl rfl ?_
              refine J_iload_n (pc' := 81) dX7_sheet_80 rfl rfl ?_
              refine J_if_ne 88 (pc' := 84) dX7_sheet_81 (by decide) rfl (fun h_81 => ?_) (fun h_81 => ?_)
              · refine J_iload_n (pc' := 89) dX7_sheet_88 rfl rfl ?_
                refine J_iast s0 (pc' := 90) dX7_sheet_89 (ly_74) (l84_74) rfl s04 (by decide) rfl ?_
                refine J_iconst (v := 0) (pc' := 91) dX7_sheet_90 (by decide) rfl ?_
                refine J_istore (pc' := 93) dX7_sheet_91 (Nat.le_of_ble_eq_true rfl) (jst4 rfl rfl) rfl ?_
                have nA : ¬ (b ≠ 0 ∧ len < 0) := fun q => by first | exact absurd h_37 (Int32.not_le.mpr (hb0.mpr q.1)) | exact absurd q.2 (by first | exact Int32.not_lt.mpr h_41 | exact h_41)
                have nB : ¬ (b ≠ 0 ∧ 24 < len) := fun q => by first | exact absurd h_52 (Int32.not_le.mpr (hb0.mpr q.1)) | exact absurd q.2 (by first | exact Int32.not_lt.mpr h_58 | exact h_58)
                refine l_msh s04 (ln := len) (fun w2 fr hr => ?_) 24 0 rfl _ (((frC.rf w).set (a := 73) (k := s0) (v := b) (by decide) (by decide)).set (a := 74) (k := s0) (v := len) (by decide) (by decide)) (by rw [rm_74 s04, rm_73 s04]; rfl)
                unfold sq_sheet
                rw [if_pos hC0, if_neg nA, if_neg nB, nn_nI (by omega), if_neg (show ¬ b = 0 from h_81)]
                exact ⟨rfl, mq_sh hV fr hr⟩
              · refine J_iconst (v := 0) (pc' := 85) dX7_sheet_84 (by decide) rfl ?_
                refine J_goto (pc' := 0) 89 dX7_sheet_85 (by decide) ?_
                refine J_iast s0 (pc' := 90) dX7_sheet_89 (ly_74) (l84_74) rfl s04 (by decide) rfl ?_
                refine J_iconst (v := 0) (pc' := 91) dX7_sheet_90 (by decide) rfl ?_
                refine J_istore (pc' := 93) dX7_sheet_91 (Nat.le_of_ble_eq_true rfl) (jst4 rfl rfl) rfl ?_
                have nA : ¬ (b ≠ 0 ∧ len < 0) := fun q => by first | exact absurd h_37 (Int32.not_le.mpr (hb0.mpr q.1)) | exact absurd q.2 (by first | exact Int32.not_lt.mpr h_41 | exact h_41)
                have nB : ¬ (b ≠ 0 ∧ 24 < len) := fun q => by first | exact absurd h_52 (Int32.not_le.mpr (hb0.mpr q.1)) | exact absurd q.2 (by first | exact Int32.not_lt.mpr h_58 | exact h_58)
                refine l_msh s04 (ln := 0) (fun w2 fr hr => ?_) 24 0 rfl _ (((frC.rf w).set (a := 73) (k := s0) (v := b) (by decide) (by decide)).set (a := 74) (k := s0) (v := 0) (by decide) (by decide)) (by rw [rm_74 s04, rm_73 s04]; rfl)
                unfold sq_sheet
                rw [if_pos hC0, if_neg nA, if_neg nB, nn_nI (by omega), if_pos (show b = 0 from by first | exact h_81 | exact Decidable.not_not.mp h_81)]
                exact ⟨rfl, mq_sh hV fr hr⟩
            · refine J_iload_n (pc' := 56) dX7_sheet_55 rfl rfl ?_
              refine J_bipush (v := 24) (pc' := 58) dX7_sheet_56 (by decide) rfl ?_
              refine J_icmp_le 68 (pc' := 61) dX7_sheet_58 (by decide) rfl (fun h_58 => ?_) (fun h_58 => ?_)
              · refine J_aload_n (pc' := 69) dX7_sheet_68 rfl rfl ?_
                refine J_getR (pc' := 72) dX7_sheet_69 fl_7_22 (ly_68) (l84_68) rfl rfl ?_
                refine J_iload_n (pc' := 73) dX7_sheet_72 rfl rfl ?_
                refine J_iload_n (pc' := 74) dX7_sheet_73 rfl rfl ?_
                refine J_iast s0 (pc' := 75) dX7_sheet_74 (ly_73) (l84_73) rfl s04 (by decide) rfl ?_
                refine J_aload_n (pc' := 76) dX7_sheet_75 rfl rfl ?_
                refine J_getR (pc' := 79) dX7_sheet_76 fl_7_25 (ly_68) (l84_68) rfl rfl ?_
                refine J_iload_n (pc' := 80) dX7_sheet_79 rfl rfl ?_
                refine J_iload_n (pc' := 81) dX7_sheet_80 rfl rfl ?_
                refine J_if_ne 88 (pc' := 84) dX7_sheet_81 (by decide) rfl (fun h_81 => ?_) (fun h_81 => ?_)
                · refine J_iload_n (pc' := 89) dX7_sheet_88 rfl rfl ?_
                  refine J_iast s0 (pc' := 90) dX7_sheet_89 (ly_74) (l84_74) rfl s04 (by decide) rfl ?_
                  refine J_iconst (v := 0) (pc' := 91) dX7_sheet_90 (by decide) rfl ?_
                  refine J_istore (pc' := 93) dX7_sheet_91 (Nat.le_of_ble_eq_true rfl) (jst4 rfl rfl) rfl ?_
                  have nA : ¬ (b ≠ 0 ∧ len < 0) := fun q => by first | exact absurd h_37 (Int32.not_le.mpr (hb0.mpr q.1)) | exact absurd q.2 (by first | exact Int32.not_lt.mpr h_41 | exact h_41)
                  have nB : ¬ (b ≠ 0 ∧ 24 < len) := fun q => by first | exact absurd h_52 (Int32.not_le.mpr (hb0.mpr q.1)) | exact absurd q.2 (by first | exact Int32.not_lt.mpr h_58 | exact h_58)
                  refine l_msh s04 (ln := len) (fun w2 fr hr => ?_) 24 0 rfl _ (((frC.rf w).set (a := 73) (k := s0) (v := b) (by decide) (by decide)).set (a := 74) (k := s0) (v := len) (by decide) (by decide)) (by rw [rm_74 s04, rm_73 s04]; rfl)
                  unfold sq_sheet
                  rw [if_pos hC0, if_neg nA, if_neg nB, nn_nI (by omega), if_neg (show ¬ b = 0 from h_81)]
                  exact ⟨rfl, mq_sh hV fr hr⟩
                · refine J_iconst (v := 0) (pc' := 85) dX7_sheet_84 (by decide) rfl ?_
                  refine J_goto (pc' := 0) 89 dX7_sheet_85 (by decide) ?_
                  refine J_iast s0 (pc' := 90) dX7_sheet_89 (ly_74) (l84_74) rfl s04 (by decide) rfl ?_
                  refine J_iconst (v := 0) (pc' := 91) dX7_sheet_90 (by decide) rfl ?_
                  refine J_istore (pc' := 93) dX7_sheet_91 (Nat.le_of_ble_eq_true rfl) (jst4 rfl rfl) rfl ?_
                  have nA : ¬ (b ≠ 0 ∧ len < 0) := fun q => by first | exact absurd h_37 (Int32.not_le.mpr (hb0.mpr q.1)) | exact absurd q.2 (by first | exact Int32.not_lt.mpr h_41 | exact h_41)
                  have nB : ¬ (b ≠ 0 ∧ 24 < len) := fun q => by first | exact absurd h_52 (Int32.not_le.mpr (hb0.mpr q.1)) | exact absurd q.2 (by first | exact Int32.not_lt.mpr h_58 | exact h_58)
                  refine l_msh s04 (ln := 0) (fun w2 fr hr => ?_) 24 0 rfl _ (((frC.rf w).set (a := 73) (k := s0) (v := b) (by decide) (by decide)).set (a := 74) (k := s0) (v := 0) (by decide) (by decide)) (by rw [rm_74 s04, rm_73 s04]; rfl)
                  unfold sq_sheet
                  rw [if_pos hC0, if_neg nA, if_neg nB, nn_nI (by omega), if_pos (show b = 0 from by first | exact h_81 | exact Decidable.not_not.mp h_81)]
                  exact ⟨rfl, mq_sh hV fr hr⟩
              · refine J_aload_n (pc' := 62) dX7_sheet_61 rfl rfl ?_
                refine J_ldc (pc' := 64) dX7_sheet_62 kc_7_125 rfl ?_
                refine J_V1v (pc' := 67) dX7_sheet_64 lk_7_126 cd_X7_error (k_merr (k := 1) (by decide) (by decide)) (ly_68) (l84_68) rfl rfl (jroom_of rfl) (Nat.le_of_ble_eq_true rfl) rfl ?_
                have nA : ¬ (b ≠ 0 ∧ len < 0) := fun q => by first | exact absurd h_37 (Int32.not_le.mpr (hb0.mpr q.1)) | exact absurd q.2 (by first | exact Int32.not_lt.mpr h_41 | exact h_41)
                exact J_iret dX7_sheet_67  (by unfold sq_sheet; rw [if_pos hC0, if_neg nA, if_pos (show b ≠ 0 ∧ 24 < len from ⟨by first | exact hb0.mp (Int32.not_le.mp h_52) | exact hb0.mp h_52, by first | exact Int32.not_le.mp h_58 | exact h_58⟩)]; exact ⟨rfl, mq_err hV (by decide)⟩)
          · refine J_aload_n (pc' := 45) dX7_sheet_44 rfl rfl ?_
            refine J_ldc (pc' := 47) dX7_sheet_45 kc_7_141 rfl ?_
            refine J_V1v (pc' := 50) dX7_sheet_47 lk_7_126 cd_X7_error (k_merr (k := 3) (by decide) (by decide)) (ly_68) (l84_68) rfl rfl (jroom_of rfl) (Nat.le_of_ble_eq_true rfl) rfl ?_
            exact J_iret dX7_sheet_50  (by unfold sq_sheet; rw [if_pos hC0, if_pos (show b ≠ 0 ∧ len < 0 from ⟨by first | exact hb0.mp (Int32.not_le.mp h_37) | exact hb0.mp h_37, by first | exact Int32.not_le.mp h_41 | exact h_41⟩)]; exact ⟨rfl, mq_err hV (by decide)⟩)
      · refine J_iload_n (pc' := 18) dX7_sheet_17 rfl rfl ?_
        refine J_bipush (v := 16) (pc' := 20) dX7_sheet_18 (by decide) rfl ?_
        refine J_icmp_eq 36 (pc' := 23) dX7_sheet_20 (by decide) rfl (fun h_20 => ?_) (fun h_20 => ?_)
        · obtain ⟨s0, hs0, rfl⟩ := rng0_ex (n := 3) (by omega) (show 0 ≤ x ∧ x ≤ nI 3 from jb_n h_4)
          have s04 : s0 < 4 := by omega
          have hbit : sBit b := by first | exact Or.inl (by first | exact h_8 | exact Decidable.not_not.mp h_8) | exact Or.inr (Or.inl h_14) | exact Or.inr (Or.inr (Or.inl h_20)) | exact Or.inr (Or.inr (Or.inr h_26))
          have hb0 := sBit_p hbit
          have hC0 : (0 ≤ nI s0 ∧ nI s0 ≤ 3) ∧ sBit b := ⟨jb_n h_4, hbit⟩
          refine J_iload_n (pc' := 37) dX7_sheet_36 rfl rfl ?_
          refine J_if_le 51 (pc' := 40) dX7_sheet_37 (by decide) rfl (fun h_37 => ?_) (fun h_37 => ?_)
          · refine J_iload_n (pc' := 52) dX7_sheet_51 rfl rfl ?_
            refine J_if_le 68 (pc' := 55) dX7_sheet_52 (by decide) rfl (fun h_52 => ?_) (fun h_52 => ?_)
            · refine J_aload_n (pc' := 69) dX7_sheet_68 rfl rfl ?_
              refine J_getR (pc' := 72) dX7_sheet_69 fl_7_22 (ly_68) (l84_68) rfl rfl ?_
              refine J_iload_n (pc' := 73) dX7_sheet_72 rfl rfl ?_
              refine J_iload_n (pc' := 74) dX7_sheet_73 rfl rfl ?_
              refine J_iast s0 (pc' := 75) dX7_sheet_74 (ly_73) (l84_73) rfl s04 (by decide) rfl ?_
              refine J_aload_n (pc' := 76) dX7_sheet_75 rfl rfl ?_
              refine J_getR (pc' := 79) dX7_sheet_76 fl_7_25 (ly_68) (l84_68) rfl rfl ?_
              refine J_iload_n (pc' := 80) dX7_sheet_79 rfl rfl ?_
              refine J_iload_n (pc' := 81) dX7_sheet_80 rfl rfl ?_
              refine J_if_ne 88 (pc' := 84) dX7_sheet_81 (by decide) rfl (fun h_81 => ?_) (fun h_81 => ?_)
              · refine J_iload_n (pc' := 89) dX7_sheet_88 rfl rfl ?_
                refine J_iast s0 (pc' := 90) dX7_sheet_89 (ly_74) (l84_74) rfl s04 (by decide) rfl ?_
                refine J_iconst (v := 0) (pc' := 91) dX7_sheet_90 (by decide) rfl ?_
                refine J_istore (pc' := 93) dX7_sheet_91 (Nat.le_of_ble_eq_true rfl) (jst4 rfl rfl) rfl ?_
                have nA : ¬ (b ≠ 0 ∧ len < 0) := fun q => by first | exact absurd h_37 (Int32.not_le.mpr (hb0.mpr q.1)) | exact absurd q.2 (by first | exact Int32.not_lt.mpr h_41 | exact h_41)
                have nB : ¬ (b ≠ 0 ∧ 24 < len) := fun q => by first | exact absurd h_52 (Int32.not_le.mpr (hb0.mpr q.1)) | exact absurd q.2 (by first | exact Int32.not_lt.mpr h_58 | exact h_58)
                refine l_msh s04 (ln := len) (fun w2 fr hr => ?_) 24 0 rfl _ (((frC.rf w).set (a := 73) (k := s0) (v := b) (by decide) (by decide)).set (a := 74) (k := s0) (v := len) (by decide) (by decide)) (by rw [rm_74 s04, rm_73 s04]; rfl)
                unfold sq_sheet
                rw [if_pos hC0, if_neg nA, if_neg nB, nn_nI (by omega), if_neg (show ¬ b = 0 from h_81)]
                exact ⟨rfl, mq_sh hV fr hr⟩
              · refine J_iconst (v := 0) (pc' := 85) dX7_sheet_84 (by decide) rfl ?_
                refine J_goto (pc' := 0) 89 dX7_sheet_85 (by decide) ?_
                refine J_iast s0 (pc' := 90) dX7_sheet_89 (ly_74) (l84_74) rfl s04 (by decide) rfl ?_
                refine J_iconst (v := 0) (pc' := 91) dX7_sheet_90 (by decide) rfl ?_
                refine J_istore (pc' := 93) dX7_sheet_91 (Nat.le_of_ble_eq_true rfl) (jst4 rfl rfl) rfl ?_
                have nA : ¬ (b ≠ 0 ∧ len < 0) := fun q => by first | exact absurd h_37 (Int32.not_le.mpr (hb0.mpr q.1)) | exact absurd q.2 (by first | exact Int32.not_lt.mpr h_41 | exact h_41)
                have nB : ¬ (b ≠ 0 ∧ 24 < len) := fun q => by first | exact absurd h_52 (Int32.not_le.mpr (hb0.mpr q.1)) | exact absurd q.2 (by first | exact Int32.not_lt.mpr h_58 | exact h_58)
                refine l_msh s04 (ln := 0) (fun w2 fr hr => ?_) 24 0 rfl _ (((frC.rf w).set (a := 73) (k := s0) (v := b) (by decide) (by decide)).set (a := 74) (k := s0) (v := 0) (by decide) (by decide)) (by rw [rm_74 s04, rm_73 s04]; rfl)
                unfold sq_sheet
                rw [if_pos hC0, if_neg nA, if_neg nB, nn_nI (by omega), if_pos (show b = 0 from by first | exact h_81 | exact Decidable.not_not.mp h_81)]
                exact ⟨rfl, mq_sh hV fr hr⟩
            · refine J_iload_n (pc' := 56) dX7_sheet_55 rfl rfl ?_
              refine J_bipush (v := 24) (pc' := 58) dX7_sheet_56 (by decide) rfl ?_
              refine J_icmp_le 68 (pc' := 61) dX7_sheet_58 (by decide) rfl (fun h_58 => ?_) (fun h_58 => ?_)
              · refine J_aload_n (pc' := 69) dX7_sheet_68 rfl rfl ?_
                refine J_getR (pc' := 72) dX7_sheet_69 fl_7_22 (ly_68) (l84_68) rfl rfl ?_
                refine J_iload_n (pc' := 73) dX7_sheet_72 rfl rfl ?_
                refine J_iload_n (pc' := 74) dX7_sheet_73 rfl rfl ?_
                refine J_iast s0 (pc' := 75) dX7_sheet_74 (ly_73) (l84_73) rfl s04 (by decide) rfl ?_
                refine J_aload_n (pc' := 76) dX7_sheet_75 rfl rfl ?_
                refine J_getR (pc' := 79) dX7_sheet_76 fl_7_25 (ly_68) (l84_68) rfl rfl ?_
                refine J_iload_n (pc' := 80) dX7_sheet_79 rfl rfl ?_
                refine J_iload_n (pc' := 81) dX7_sheet_80 rfl rfl ?_
                refine J_if_ne 88 (pc' := 84) dX7_sheet_81 (by decide) rfl (fun h_81 => ?_) (fun h_81 => ?_)
                · refine J_iload_n (pc' := 89) dX7_sheet_88 rfl rfl ?_
                  refine J_iast s0 (pc' := 90) dX7_sheet_89 (ly_74) (l84_74) rfl s04 (by decide) rfl ?_
                  refine J_iconst (v := 0) (pc' := 91) dX7_sheet_90 (by decide) rfl ?_
                  refine J_istore (pc' := 93) dX7_sheet_91 (Nat.le_of_ble_eq_true rfl) (jst4 rfl rfl) rfl ?_
                  have nA : ¬ (b ≠ 0 ∧ len < 0) := fun q => by first | exact absurd h_37 (Int32.not_le.mpr (hb0.mpr q.1)) | exact absurd q.2 (by first | exact Int32.not_lt.mpr h_41 | exact h_41)
                  have nB : ¬ (b ≠ 0 ∧ 24 < len) := fun q => by first | exact absurd h_52 (Int32.not_le.mpr (hb0.mpr q.1)) | exact absurd q.2 (by first | exact Int32.not_lt.mpr h_58 | exact h_58)
                  refine l_msh s04 (ln := len) (fun w2 fr hr => ?_) 24 0 rfl _ (((frC.rf w).set (a := 73) (k := s0) (v := b) (by decide) (by decide)).set (a := 74) (k := s0) (v := len) (by decide) (by decide)) (by rw [rm_74 s04, rm_73 s04]; rfl)
                  unfold sq_sheet
                  rw [if_pos hC0, if_neg nA, if_neg nB, nn_nI (by omega), if_neg (show ¬ b = 0 from h_81)]
                  exact ⟨rfl, mq_sh hV fr hr⟩
                · refine J_iconst (v := 0) (pc' := 85) dX7_sheet_84 (by decide) rfl ?_
                  refine J_goto (pc' := 0) 89 dX7_sheet_85 (by decide) ?_
                  refine J_iast s0 (pc' := 90) dX7_sheet_89 (ly_74) (l84_74) rfl s04 (by decide) rfl ?_
                  refine J_iconst (v := 0) (pc' := 91) dX7_sheet_90 (by decide) rfl ?_
                  refine J_istore (pc' := 93) dX7_sheet_91 (Nat.le_of_ble_eq_true rfl) (jst4 rfl rfl) rfl ?_
                  have nA : ¬ (b ≠ 0 ∧ len < 0) := fun q => by first | exact absurd h_37 (Int32.not_le.mpr (hb0.mpr q.1)) | exact absurd q.2 (by first | exact Int32.not_lt.mpr h_41 | exact h_41)
                  have nB : ¬ (b ≠ 0 ∧ 24 < len) := fun q => by first | exact absurd h_52 (Int32.not_le.mpr (hb0.mpr q.1)) | exact absurd q.2 (by first | exact Int32.not_lt.mpr h_58 | exact h_58)
                  refine l_msh s04 (ln := 0) (fun w2 fr hr => ?_) 24 0 rfl _ (((frC.rf w).set (a := 73) (k := s0) (v := b) (by decide) (by decide)).set (a := 74) (k := s0) (v := 0) (by decide) (by decide)) (by rw [rm_74 s04, rm_73 s04]; rfl)
                  unfold sq_sheet
                  rw [if_pos hC0, if_neg nA, if_neg nB, nn_nI (by omega), if_pos (show b = 0 from by first | exact h_81 | exact Decidable.not_not.mp h_81)]
                  exact ⟨rfl, mq_sh hV fr hr⟩
              · refine J_aload_n (pc' := 62) dX7_sheet_61 rfl rfl ?_
                refine J_ldc (pc' := 64) dX7_sheet_62 kc_7_125 rfl ?_
                refine J_V1v (pc' := 67) dX7_sheet_64 lk_7_126 cd_X7_error (k_merr (k := 1) (by decide) (by decide)) (ly_68) (l84_68) rfl rfl (jroom_of rfl) (Nat.le_of_ble_eq_true rfl) rfl ?_
                have nA : ¬ (b ≠ 0 ∧ len < 0) := fun q => by first | exact absurd h_37 (Int32.not_le.mpr (hb0.mpr q.1)) | exact absurd q.2 (by first | exact Int32.not_lt.mpr h_41 | exact h_41)
                exact J_iret dX7_sheet_67  (by unfold sq_sheet; rw [if_pos hC0, if_neg nA, if_pos (show b ≠ 0 ∧ 24 < len from ⟨by first | exact hb0.mp (Int32.not_le.mp h_52) | exact hb0.mp h_52, by first | exact Int32.not_le.mp h_58 | exact h_58⟩)]; exact ⟨rfl, mq_err hV (by decide)⟩)
          · refine J_iload_n (pc' := 41) dX7_sheet_40 rfl rfl ?_
            refine J_if_ge 51 (pc' := 44) dX7_sheet_41 (by decide) rfl (fun h_41 => ?_) (fun h_41 => ?_)
            · refine J_iload_n (pc' := 52) dX7_sheet_51 rfl rfl ?_
              refine J_if_le 68 (pc' := 55) dX7_sheet_52 (by decide) rfl (fun h_52 => ?_) (fun h_52 => ?_)
              · refine J_aload_n (pc' := 69) dX7_sheet_68 rfl rfl ?_
                refine J_getR (pc' := 72) dX7_sheet_69 fl_7_22 (ly_68) (l84_68) rfl rfl ?_
                refine J_iload_n (pc' := 73) dX7_sheet_72 rfl rfl ?_
                refine J_iload_n (pc' := 74) dX7_sheet_73 rfl rfl ?_
                refine J_iast s0 (pc' := 75) dX7_sheet_74 (ly_73) (l84_73) rfl s04 (by decide) rfl ?_
                refine J_aload_n (pc' := 76) dX7_sheet_75 rfl rfl ?_
                refine J_getR (pc' := 79) dX7_sheet_76 fl_7_25 (ly_68) (l84_68) rfl rfl ?_
                refine J_iload_n (pc' := 80) dX7_sheet_79 rfl rfl ?_
                refine J_iload_n (pc' := 81) dX7_sheet_80 rfl rfl ?_
                refine J_if_ne 88 (pc' := 84) dX7_sheet_81 (by decide) rfl (fun h_81 => ?_) (fun h_81 => ?_)
                · refine J_iload_n (pc' := 89) dX7_sheet_88 rfl rfl ?_
                  refine J_iast s0 (pc' := 90) dX7_sheet_89 (ly_74) (l84_74) rfl s04 (by decide) rfl ?_
                  refine J_iconst (v := 0) (pc' := 91) dX7_sheet_90 (by decide) rfl ?_
                  refine J_istore (pc' := 93) dX7_sheet_91 (Nat.le_of_ble_eq_true rfl) (jst4 rfl rfl) rfl ?_
                  have nA : ¬ (b ≠ 0 ∧ len < 0) := fun q => by first | exact absurd h_37 (Int32.not_le.mpr (hb0.mpr q.1)) | exact absurd q.2 (by first | exact Int32.not_lt.mpr h_41 | exact h_41)
                  have nB : ¬ (b ≠ 0 ∧ 24 < len) := fun q => by first | exact absurd h_52 (Int32.not_le.mpr (hb0.mpr q.1)) | exact absurd q.2 (by first | exact Int32.not_lt.mpr h_58 | exact h_58)
                  refine l_msh s04 (ln := len) (fun w2 fr hr => ?_) 24 0 rfl _ (((frC.rf w).set (a := 73) (k := s0) (v := b) (by decide) (by decide)).set (a := 74) (k := s0) (v := len) (by decide) (by decide)) (by rw [rm_74 s04, rm_73 s04]; rfl)
                  unfold sq_sheet
                  rw [if_pos hC0, if_neg nA, if_neg nB, nn_nI (by omega), if_neg (show ¬ b = 0 from h_81)]
                  exact ⟨rfl, mq_sh hV fr hr⟩
                · refine J_iconst (v := 0) (pc' := 85) dX7_sheet_84 (by decide) rfl ?_
                  refine J_goto (pc' := 0) 89 dX7_sheet_85 (by decide) ?_
                  refine J_iast s0 (pc' := 90) dX7_sheet_89 (ly_74) (l84_74) rfl s04 (by decide) rfl ?_
                  refine J_iconst (v := 0) (pc' := 91) dX7_sheet_90 (by decide) rfl ?_
                  refine J_istore (pc' := 93) dX7_sheet_91 (Nat.le_of_ble_eq_true rfl) (jst4 rfl rfl) rfl ?_
                  have nA : ¬ (b ≠ 0 ∧ len < 0) := fun q => by first | exact absurd h_37 (Int32.not_le.mpr (hb0.mpr q.1)) | exact absurd q.2 (by first | exact Int32.not_lt.mpr h_41 | exact h_41)
                  have nB : ¬ (b ≠ 0 ∧ 24 < len) := fun q => by first | exact absurd h_52 (Int32.not_le.mpr (hb0.mpr q.1)) | exact absurd q.2 (by first | exact Int32.not_lt.mpr h_58 | exact h_58)
                  refine l_msh s04 (ln := 0) (fun w2 fr hr => ?_) 24 0 rfl _ (((frC.rf w).set (a := 73) (k := s0) (v := b) (by decide) (by decide)).set (a := 74) (k := s0) (v := 0) (by decide) (by decide)) (by rw [rm_74 s04, rm_73 s04]; rfl)
                  unfold sq_sheet
                  rw [if_pos hC0, if_neg nA, if_neg nB, nn_nI (by omega), if_pos (show b = 0 from by first | exact h_81 | exact Decidable.not_not.mp h_81)]
                  exact ⟨rfl, mq_sh hV fr hr⟩
              · refine J_iload_n (pc' := 56) dX7_sheet_55 rfl rfl ?_
                refine J_bipush (v := 24) (pc' := 58) dX7_sheet_56 (by decide) rfl ?_
                refine J_icmp_le 68 (pc' := 61) dX7_sheet_58 (by decide) rfl (fun h_58 => ?_) (fun h_58 => ?_)
                · refine J_aload_n (pc' := 69) dX7_sheet_68 rfl rfl ?_
                  refine J_getR (pc' := 72) dX7_sheet_69 fl_7_22 (ly_68) (l84_68) rfl rfl ?_
                  refine J_iload_n (pc' := 73) dX7_sheet_72 rfl rfl ?_
                  refine J_iload_n (pc' := 74) dX7_sheet_73 rfl rfl ?_
                  refine J_iast s0 (pc' := 75) dX7_sheet_74 (ly_73) (l84_73) rfl s04 (by decide) rfl ?_
                  refine J_aload_n (pc' := 76) dX7_sheet_75 rfl rfl ?_
                  refine J_getR (pc' := 79) dX7_sheet_76 fl_7_25 (ly_68) (l84_68) rfl rfl ?_
                  refine J_iload_n (pc' := 80) dX7_sheet_79 rfl rfl ?_
                  refine J_iload_n (pc' := 81) dX7_sheet_80 rfl rfl ?_
                  refine J_if_ne 88 (pc' := 84) dX7_sheet_81 (by decide) rfl (fun h_81 => ?_) (fun h_81 => ?_)
                  · refine J_iload_n (pc' := 89) dX7_sheet_88 rfl rfl ?_
                    refine J_iast s0 (pc' := 90) dX7_sheet_89 (ly_74) (l84_74) rfl s04 (by decide) rfl ?_
                    refine J_iconst (v := 0) (pc' := 91) dX7_sheet_90 (by decide) rfl ?_
                    refine J_istore (pc' := 93) dX7_sheet_91 (Nat.le_of_ble_eq_true rfl) (jst4 rfl rfl) rfl ?_
                    have nA : ¬ (b ≠ 0 ∧ len < 0) := fun q => by first | exact absurd h_37 (Int32.not_le.mpr (hb0.mpr q.1)) | exact absurd q.2 (by first | exact Int32.not_lt.mpr h_41 | exact h_41)
                    have nB : ¬ (b ≠ 0 ∧ 24 < len) := fun q => by first | exact absurd h_52 (Int32.not_le.mpr (hb0.mpr q.1)) | exact absurd q.2 (by first | exact Int32.not_lt.mpr h_58 | exact h_58)
                    refine l_msh s04 (ln := len) (fun w2 fr hr => ?_) 24 0 rfl _ (((frC.rf w).set (a := 73) (k := s0) (v := b) (by decide) (by decide)).set (a := 74) (k := s0) (v := len) (by decide) (by decide)) (by rw [rm_74 s04, rm_73 s04]; rfl)
                    unfold sq_sheet
                    rw [if_pos hC0, if_neg nA, if_neg nB, nn_nI (by omega), if_neg (show ¬ b = 0 from h_81)]
                    exact ⟨rfl, mq_sh hV fr hr⟩
                  · refine J_iconst (v := 0) (pc' := 85) dX7_sheet_84 (by decide) rfl ?_
                    refine J_goto (pc' := 0) 89 dX7_sheet_85 (by decide) ?_
                    refine J_iast s0 (pc' := 90) dX7_sheet_89 (ly_74) (l84_74) rfl s04 (by decide) rfl ?_
                    refine J_iconst (v := 0) (pc' := 91) dX7_sheet_90 (by decide) rfl ?_
                    refine J_istore (pc' := 93) dX7_sheet_91 (Nat.le_of_ble_eq_true rfl) (jst4 rfl rfl) rfl ?_
                    have nA : ¬ (b ≠ 0 ∧ len < 0) := fun q => by first | exact absurd h_37 (Int32.not_le.mpr (hb0.mpr q.1)) | exact absurd q.2 (by first | exact Int32.not_lt.mpr h_41 | exact h_41)
                    have nB : ¬ (b ≠ 0 ∧ 24 < len) := fun q => by first | exact absurd h_52 (Int32.not_le.mpr (hb0.mpr q.1)) | exact absurd q.2 (by first | exact Int32.not_lt.mpr h_58 | exact h_58)
                    refine l_msh s04 (ln := 0) (fun w2 fr hr => ?_) 24 0 rfl _ (((frC.rf w).set (a := 73) (k := s0) (v := b) (by decide) (by decide)).set (a := 74) (k := s0) (v := 0) (by decide) (by decide)) (by rw [rm_74 s04, rm_73 s04]; rfl)
                    unfold sq_sheet
                    rw [if_pos hC0, if_neg nA, if_neg nB, nn_nI (by omega), if_pos (show b = 0 from by first | exact h_81 | exact Decidable.not_not.mp h_81)]
                    exact ⟨rfl, mq_sh hV fr hr⟩
                · refine J_aload_n (pc' := 62) dX7_sheet_61 rfl rfl ?_
                  refine J_ldc (pc' := 64) dX7_sheet_62 kc_7_125 rfl ?_
                  refine J_V1v (pc' := 67) dX7_sheet_64 lk_7_126 cd_X7_error (k_merr (k := 1) (by decide) (by decide)) (ly_68) (l84_68) rfl rfl (jroom_of rfl) (Nat.le_of_ble_eq_true rfl) rfl ?_
                  have nA : ¬ (b ≠ 0 ∧ len < 0) := fun q => by first | exact absurd h_37 (Int32.not_le.mpr (hb0.mpr q.1)) | exact absurd q.2 (by first | exact Int32.not_lt.mpr h_41 | exact h_41)
                  exact J_iret dX7_sheet_67  (by unfold sq_sheet; rw [if_pos hC0, if_neg nA, if_pos (show b ≠ 0 ∧ 24 < len from ⟨by first | exact hb0.mp (Int32.not_le.mp h_52) | exact hb0.mp h_52, by first | exact Int32.not_le.mp h_58 | exact h_58⟩)]; exact ⟨rfl, mq_err hV (by decide)⟩)
            · refine J_aload_n (pc' := 45) dX7_sheet_44 rfl rfl ?_
              refine J_ldc (pc' := 47) dX7_sheet_45 kc_7_141 rfl ?_
              refine J_V1v (pc' := 50) dX7_sheet_47 lk_7_126 cd_X7_error (k_merr (k := 3) (by decide) (by decide)) (ly_68) (l84_68) rfl rfl (jroom_of rfl) (Nat.le_of_ble_eq_true rfl) rfl ?_
              exact J_iret dX7_sheet_50  (by unfold sq_sheet; rw [if_pos hC0, if_pos (show b ≠ 0 ∧ len < 0 from ⟨by first | exact hb0.mp (Int32.not_le.mp h_37) | exact hb0.mp h_37, by first | exact Int32.not_le.mp h_41 | exact h_41⟩)]; exact ⟨rfl, mq_err hV (by decide)⟩)
        · refine J_iload_n (pc' := 24) dX7_sheet_23 rfl rfl ?_
          refine J_bipush (v := 32) (pc' := 26) dX7_sheet_24 (by decide) rfl ?_
          refine J_icmp_eq 36 (pc' := 29) dX7_sheet_26 (by decide) rfl (fun h_26 => ?_) (fun h_26 => ?_)
          · obtain ⟨s0, hs0, rfl⟩ := rng0_ex (n := 3) (by omega) (show 0 ≤ x ∧ x ≤ nI 3 from jb_n h_4)
            have s04 : s0 < 4 := by omega
            have hbit : sBit b := by first | exact Or.inl (by first | exact h_8 | exact Decidable.not_not.mp h_8) | exact Or.inr (Or.inl h_14) | exact Or.inr (Or.inr (Or.inl h_20)) | exact Or.inr (Or.inr (Or.inr h_26))
            have hb0 := sBit_p hbit
            have hC0 : (0 ≤ nI s0 ∧ nI s0 ≤ 3) ∧ sBit b := ⟨jb_n h_4, hbit⟩
            refine J_iload_n (pc' := 37) dX7_sheet_36 rfl rfl ?_
            refine J_if_le 51 (pc' := 40) dX7_sheet_37 (by decide) rfl (fun h_37 => ?_) (fun h_37 => ?_)
            · refine J_iload_n (pc' := 52) dX7_sheet_51 rfl rfl ?_
              refine J_if_le 68 (pc' := 55) dX7_sheet_52 (by decide) rfl (fun h_52 => ?_) (fun h_52 => ?_)
              · refine J_aload_n (pc' := 69) dX7_sheet_68 rfl rfl ?_
                refine J_getR (pc' := 72) dX7_sheet_69 fl_7_22 (ly_68) (l84_68) rfl rfl ?_
                refine J_iload_n (pc' := 73) dX7_sheet_72 rfl rfl ?_
                refine J_iload_n (pc' := 74) dX7_sheet_73 rfl rfl ?_
                refine J_iast s0 (pc' := 75) dX7_sheet_74 (ly_73) (l84_73) rfl s04 (by decide) rfl ?_
                refine J_aload_n (pc' := 76) dX7_sheet_75 rfl rfl ?_
                refine J_getR (pc' := 79) dX7_sheet_76 fl_7_25 (ly_68) (l84_68) rfl rfl ?_
                refine J_iload_n (pc' := 80) dX7_sheet_79 rfl rfl ?_
                refine J_iload_n (pc' := 81) dX7_sheet_80 rfl rfl ?_
                refine J_if_ne 88 (pc' := 84) dX7_sheet_81 (by decide) rfl (fun h_81 => ?_) (fun h_81 => ?_)
                · refine J_iload_n (pc' := 89) dX7_sheet_88 rfl rfl ?_
                  refine J_iast s0 (pc' := 90) dX7_sheet_89 (ly_74) (l84_74) rfl s04 (by decide) rfl ?_
                  refine J_iconst (v := 0) (pc' := 91) dX7_sheet_90 (by decide) rfl ?_
                  refine J_istore (pc' := 93) dX7_sheet_91 (Nat.le_of_ble_eq_true rfl) (jst4 rfl rfl) rfl ?_
                  have nA : ¬ (b ≠ 0 ∧ len < 0) := fun q => by first | exact absurd h_37 (Int32.not_le.mpr (hb0.mpr q.1)) | exact absurd q.2 (by first | exact Int32.not_lt.mpr h_41 | exact h_41)
                  have nB : ¬ (b ≠ 0 ∧ 24 < len) := fun q => by first | exact absurd h_52 (Int32.not_le.mpr (hb0.mpr q.1)) | exact absurd q.2 (by first | exact Int32.not_lt.mpr h_58 | exact h_58)
                  refine l_msh s04 (ln := len) (fun w2 fr hr => ?_) 24 0 rfl _ (((frC.rf w).set (a := 73) (k := s0) (v := b) (by decide) (by decide)).set (a := 74) (k := s0) (v := len) (by decide) (by decide)) (by rw [rm_74 s04, rm_73 s04]; rfl)
                  unfold sq_sheet
                  rw [if_pos hC0, if_neg nA, if_neg nB, nn_nI (by omega), if_neg (show ¬ b = 0 from h_81)]
                  exact ⟨rfl, mq_sh hV fr hr⟩
                · refine J_iconst (v := 0) (pc' := 85) dX7_sheet_84 (by decide) rfl ?_
                  refine J_goto (pc' := 0) 89 dX7_sheet_85 (by decide) ?_
                  refine J_iast s0 (pc' := 90) dX7_sheet_89 (ly_74) (l84_74) rfl s04 (by decide) rfl ?_
                  refine J_iconst (v := 0) (pc' := 91) dX7_sheet_90 (by decide) rfl ?_
                  refine J_istore (pc' := 93) dX7_sheet_91 (Nat.le_of_ble_eq_true rfl) (jst4 rfl rfl) rfl ?_
                  have nA : ¬ (b ≠ 0 ∧ len < 0) := fun q => by first | exact absurd h_37 (Int32.not_le.mpr (hb0.mpr q.1)) | exact absurd q.2 (by first | exact Int32.not_lt.mpr h_41 | exact h_41)
                  have nB : ¬ (b ≠ 0 ∧ 24 < len) := fun q => by first | exact absurd h_52 (Int32.not_le.mpr (hb0.mpr q.1)) | exact absurd q.2 (by first | exact Int32.not_lt.mpr h_58 | exact h_58)
                  refine l_msh s04 (ln := 0) (fun w2 fr hr => ?_) 24 0 rfl _ (((frC.rf w).set (a := 73) (k := s0) (v := b) (by decide) (by decide)).set (a := 74) (k := s0) (v := 0) (by decide) (by decide)) (by rw [rm_74 s04, rm_73 s04]; rfl)
                  unfold sq_sheet
                  rw [if_pos hC0, if_neg nA, if_neg nB, nn_nI (by omega), if_pos (show b = 0 from by first | exact h_81 | exact Decidable.not_not.mp h_81)]
                  exact ⟨rfl, mq_sh hV fr hr⟩
              · refine J_iload_n (pc' := 56) dX7_sheet_55 rfl rfl ?_
                refine J_bipush (v := 24) (pc' := 58) dX7_sheet_56 (by decide) rfl ?_
                refine J_icmp_le 68 (pc' := 61) dX7_sheet_58 (by decide) rfl (fun h_58 => ?_) (fun h_58 => ?_)
                · refine J_aload_n (pc' := 69) dX7_sheet_68 rfl rfl ?_
                  refine J_getR (pc' := 72) dX7_sheet_69 fl_7_22 (ly_68) (l84_68) rfl rfl ?_
                  refine J_iload_n (pc' := 73) dX7_sheet_72 rfl rfl ?_
                  refine J_iload_n (pc' := 74) dX7_sheet_73 rfl rfl ?_
                  refine J_iast s0 (pc' := 75) dX7_sheet_74 (ly_73) (l84_73) rfl s04 (by decide) rfl ?_
                  refine J_aload_n (pc' := 76) dX7_sheet_75 rfl rfl ?_
                  refine J_getR (pc' := 79) dX7_sheet_76 fl_7_25 (ly_68) (l84_68) rfl rfl ?_
                  refine J_iload_n (pc' := 80) dX7_sheet_79 rfl rfl ?_
                  refine J_iload_n (pc' := 81) dX7_sheet_80 rfl rfl ?_
                  refine J_if_ne 88 (pc' := 84) dX7_sheet_81 (by decide) rfl (fun h_81 => ?_) (fun h_81 => ?_)
                  · refine J_iload_n (pc' := 89) dX7_sheet_88 rfl rfl ?_
                    refine J_iast s0 (pc' := 90) dX7_sheet_89 (ly_74) (l84_74) rfl s04 (by decide) rfl ?_
                    refine J_iconst (v := 0) (pc' := 91) dX7_sheet_90 (by decide) rfl ?_
                    refine J_istore (pc' := 93) dX7_sheet_91 (Nat.le_of_ble_eq_true rfl) (jst4 rfl rfl) rfl ?_
                    have nA : ¬ (b ≠ 0 ∧ len < 0) := fun q => by first | exact absurd h_37 (Int32.not_le.mpr (hb0.mpr q.1)) | exact absurd q.2 (by first | exact Int32.not_lt.mpr h_41 | exact h_41)
                    have nB : ¬ (b ≠ 0 ∧ 24 < len) := fun q => by first | exact absurd h_52 (Int32.not_le.mpr (hb0.mpr q.1)) | exact absurd q.2 (by first | exact Int32.not_lt.mpr h_58 | exact h_58)
                    refine l_msh s04 (ln := len) (fun w2 fr hr => ?_) 24 0 rfl _ (((frC.rf w).set (a := 73) (k := s0) (v := b) (by decide) (by decide)).set (a := 74) (k := s0) (v := len) (by decide) (by decide)) (by rw [rm_74 s04, rm_73 s04]; rfl)
                    unfold sq_sheet
                    rw [if_pos hC0, if_neg nA, if_neg nB, nn_nI (by omega), if_neg (show ¬ b = 0 from h_81)]
                    exact ⟨rfl, mq_sh hV fr hr⟩
                  · refine J_iconst (v := 0) (pc' := 85) dX7_sheet_84 (by decide) rfl ?_
                    refine J_goto (pc' := 0) 89 dX7_sheet_85 (by decide) ?_
                    refine J_iast s0 (pc' := 90) dX7_sheet_89 (ly_74) (l84_74) rfl s04 (by decide) rfl ?_
                    refine J_iconst (v := 0) (pc' := 91) dX7_sheet_90 (by decide) rfl ?_
                    refine J_istore (pc' := 93) dX7_sheet_91 (Nat.le_of_ble_eq_true rfl) (jst4 rfl rfl) rfl ?_
                    have nA : ¬ (b ≠ 0 ∧ len < 0) := fun q => by first | exact absurd h_37 (Int32.not_le.mpr (hb0.mpr q.1)) | exact absurd q.2 (by first | exact Int32.not_lt.mpr h_41 | exact h_41)
                    have nB : ¬ (b ≠ 0 ∧ 24 < len) := fun q => by first | exact absurd h_52 (Int32.not_le.mpr (hb0.mpr q.1)) | exact absurd q.2 (by first | exact Int32.not_lt.mpr h_58 | exact h_58)
                    refine l_msh s04 (ln := 0) (fun w2 fr hr => ?_) 24 0 rfl _ (((frC.rf w).set (a := 73) (k := s0) (v := b) (by decide) (by decide)).set (a := 74) (k := s0) (v := 0) (by decide) (by decide)) (by rw [rm_74 s04, rm_73 s04]; rfl)
                    unfold sq_sheet
                    rw [if_pos hC0, if_neg nA, if_neg nB, nn_nI (by omega), if_pos (show b = 0 from by first | exact h_81 | exact Decidable.not_not.mp h_81)]
                    exact ⟨rfl, mq_sh hV fr hr⟩
                · refine J_aload_n (pc' := 62) dX7_sheet_61 rfl rfl ?_
                  refine J_ldc (pc' := 64) dX7_sheet_62 kc_7_125 rfl ?_
                  refine J_V1v (pc' := 67) dX7_sheet_64 lk_7_126 cd_X7_error (k_merr (k := 1) (by decide) (by decide)) (ly_68) (l84_68) rfl rfl (jroom_of rfl) (Nat.le_of_ble_eq_true rfl) rfl ?_
                  have nA : ¬ (b ≠ 0 ∧ len < 0) := fun q => by first | exact absurd h_37 (Int32.not_le.mpr (hb0.mpr q.1)) | exact absurd q.2 (by first | exact Int32.not_lt.mpr h_41 | exact h_41)
                  exact J_iret dX7_sheet_67  (by unfold sq_sheet; rw [if_pos hC0, if_neg nA, if_pos (show b ≠ 0 ∧ 24 < len from ⟨by first | exact hb0.mp (Int32.not_le.mp h_52) | exact hb0.mp h_52, by first | exact Int32.not_le.mp h_58 | exact h_58⟩)]; exact ⟨rfl, mq_err hV (by decide)⟩)
            · refine J_iload_n (pc' := 41) dX7_sheet_40 rfl rfl ?_
              refine J_if_ge 51 (pc' := 44) dX7_sheet_41 (by decide) rfl (fun h_41 => ?_) (fun h_41 => ?_)
              · refine J_iload_n (pc' := 52) dX7_sheet_51 rfl rfl ?_
                refine J_if_le 68 (pc' := 55) dX7_sheet_52 (by decide) rfl (fun h_52 => ?_) (fun h_52 => ?_)
                · refine J_aload_n (pc' := 69) dX7_sheet_68 rfl rfl ?_
                  refine J_getR (pc' := 72) dX7_sheet_69 fl_7_22 (ly_68) (l84_68) rfl rfl ?_
                  refine J_iload_n (pc' := 73) dX7_sheet_72 rfl rfl ?_
                  refine J_iload_n (pc' := 74) dX7_sheet_73 rfl rfl ?_
                  refine J_iast s0 (pc' := 75) dX7_sheet_74 (ly_73) (l84_73) rfl s04 (by decide) rfl ?_
                  refine J_aload_n (pc' := 76) dX7_sheet_75 rfl rfl ?_
                  refine J_getR (pc' := 79) dX7_sheet_76 fl_7_25 (ly_68) (l84_68) rfl rfl ?_
                  refine J_iload_n (pc' := 80) dX7_sheet_79 rfl rfl ?_
                  refine J_iload_n (pc' := 81) dX7_sheet_80 rfl rfl ?_
                  refine J_if_ne 88 (pc' := 84) dX7_sheet_81 (by decide) rfl (fun h_81 => ?_) (fun h_81 => ?_)
                  · refine J_iload_n (pc' := 89) dX7_sheet_88 rfl rfl ?_
                    refine J_iast s0 (pc' := 90) dX7_sheet_89 (ly_74) (l84_74) rfl s04 (by decide) rfl ?_
                    refine J_iconst (v := 0) (pc' := 91) dX7_sheet_90 (by decide) rfl ?_
                    refine J_istore (pc' := 93) dX7_sheet_91 (Nat.le_of_ble_eq_true rfl) (jst4 rfl rfl) rfl ?_
                    have nA : ¬ (b ≠ 0 ∧ len < 0) := fun q => by first | exact absurd h_37 (Int32.not_le.mpr (hb0.mpr q.1)) | exact absurd q.2 (by first | exact Int32.not_lt.mpr h_41 | exact h_41)
                    have nB : ¬ (b ≠ 0 ∧ 24 < len) := fun q => by first | exact absurd h_52 (Int32.not_le.mpr (hb0.mpr q.1)) | exact absurd q.2 (by first | exact Int32.not_lt.mpr h_58 | exact h_58)
                    refine l_msh s04 (ln := len) (fun w2 fr hr => ?_) 24 0 rfl _ (((frC.rf w).set (a := 73) (k := s0) (v := b) (by decide) (by decide)).set (a := 74) (k := s0) (v := len) (by decide) (by decide)) (by rw [rm_74 s04, rm_73 s04]; rfl)
                    unfold sq_sheet
                    rw [if_pos hC0, if_neg nA, if_neg nB, nn_nI (by omega), if_neg (show ¬ b = 0 from h_81)]
                    exact ⟨rfl, mq_sh hV fr hr⟩
                  · refine J_iconst (v := 0) (pc' := 85) dX7_sheet_84 (by decide) rfl ?_
                    refine J_goto (pc' := 0) 89 dX7_sheet_85 (by decide) ?_
                    refine J_iast s0 (pc' := 90) dX7_sheet_89 (ly_74) (l84_74) rfl s04 (by decide) rfl ?_
                    refine J_iconst (v := 0) (pc' := 91) dX7_sheet_90 (by decide) rfl ?_
                    refine J_istore (pc' := 93) dX7_sheet_91 (Nat.le_of_ble_eq_true rfl) (jst4 rfl rfl) rfl ?_
                    have nA : ¬ (b ≠ 0 ∧ len < 0) := fun q => by first | exact absurd h_37 (Int32.not_le.mpr (hb0.mpr q.1)) | exact absurd q.2 (by first | exact Int32.not_lt.mpr h_41 | exact h_41)
                    have nB : ¬ (b ≠ 0 ∧ 24 < len) := fun q => by first | exact absurd h_52 (Int32.not_le.mpr (hb0.mpr q.1)) | exact absurd q.2 (by first | exact Int32.not_lt.mpr h_58 | exact h_58)
                    refine l_msh s04 (ln := 0) (fun w2 fr hr => ?_) 24 0 rfl _ (((frC.rf w).set (a := 73) (k := s0) (v := b) (by decide) (by decide)).set (a := 74) (k := s0) (v := 0) (by decide) (by decide)) (by rw [rm_74 s04, rm_73 s04]; rfl)
                    unfold sq_sheet
                    rw [if_pos hC0, if_neg nA, if_neg nB, nn_nI (by omega), if_pos (show b = 0 from by first | exact h_81 | exact Decidable.not_not.mp h_81)]
                    exact ⟨rfl, mq_sh hV fr hr⟩
                · refine J_iload_n (pc' := 56) dX7_sheet_55 rfl rfl ?_
                  refine J_bipush (v := 24) (pc' := 58) dX7_sheet_56 (by decide) rfl ?_
                  refine J_icmp_le 68 (pc' := 61) dX7_sheet_58 (by decide) rfl (fun h_58 => ?_) (fun h_58 => ?_)
                  · refine J_aload_n (pc' := 69) dX7_sheet_68 rfl rfl ?_
                    refine J_getR (pc' := 72) dX7_sheet_69 fl_7_22 (ly_68) (l84_68) rfl rfl ?_
                    refine J_iload_n (pc' := 73) dX7_sheet_72 rfl rfl ?_
                    refine J_iload_n (pc' := 74) dX7_sheet_73 rfl rfl ?_
                    refine J_iast s0 (pc' := 75) dX7_sheet_74 (ly_73) (l84_73) rfl s04 (by decide) rfl ?_
                    refine J_aload_n (pc' := 76) dX7_sheet_75 rfl rfl ?_
                    refine J_getR (pc' := 79) dX7_sheet_76 fl_7_25 (ly_68) (l84_68) rfl rfl ?_
                    refine J_iload_n (pc' := 80) dX7_sheet_79 rfl rfl ?_
                    refine J_iload_n (pc' := 81) dX7_sheet_80 rfl rfl ?_
                    refine J_if_ne 88 (pc' := 84) dX7_sheet_81 (by decide) rfl (fun h_81 => ?_) (fun h_81 => ?_)
                    · refine J_iload_n (pc' := 89) dX7_sheet_88 rfl rfl ?_
                      refine J_iast s0 (pc' := 90) dX7_sheet_89 (ly_74) (l84_74) rfl s04 (by decide) rfl ?_
                      refine J_iconst (v := 0) (pc' := 91) dX7_sheet_90 (by decide) rfl ?_
                      refine J_istore (pc' := 93) dX7_sheet_91 (Nat.le_of_ble_eq_true rfl) (jst4 rfl rfl) rfl ?_
                      have nA : ¬ (b ≠ 0 ∧ len < 0) := fun q => by first | exact absurd h_37 (Int32.not_le.mpr (hb0.mpr q.1)) | exact absurd q.2 (by first | exact Int32.not_lt.mpr h_41 | exact h_41)
                      have nB : ¬ (b ≠ 0 ∧ 24 < len) := fun q => by first | exact absurd h_52 (Int32.not_le.mpr (hb0.mpr q.1)) | exact absurd q.2 (by first | exact Int32.not_lt.mpr h_58 | exact h_58)
                      refine l_msh s04 (ln := len) (fun w2 fr hr => ?_) 24 0 rfl _ (((frC.rf w).set (a := 73) (k := s0) (v := b) (by decide) (by decide)).set (a := 74) (k := s0) (v := len) (by decide) (by decide)) (by rw [rm_74 s04, rm_73 s04]; rfl)
                      unfold sq_sheet
                      rw [if_pos hC0, if_neg nA, if_neg nB, nn_nI (by omega), if_neg (show ¬ b = 0 from h_81)]
                      exact ⟨rfl, mq_sh hV fr hr⟩
                    · refine J_iconst (v := 0) (pc' := 85) dX7_sheet_84 (by decide) rfl ?_
                      refine J_goto (pc' := 0) 89 dX7_sheet_85 (by decide) ?_
                      refine J_iast s0 (pc' := 90) dX7_sheet_89 (ly_74) (l84_74) rfl s04 (by decide) rfl ?_
                      refine J_iconst (v := 0) (pc' := 91) dX7_sheet_90 (by decide) rfl ?_
                      refine J_istore (pc' := 93) dX7_sheet_91 (Nat.le_of_ble_eq_true rfl) (jst4 rfl rfl) rfl ?_
                      have nA : ¬ (b ≠ 0 ∧ len < 0) := fun q => by first | exact absurd h_37 (Int32.not_le.mpr (hb0.mpr q.1)) | exact absurd q.2 (by first | exact Int32.not_lt.mpr h_41 | exact h_41)
                      have nB : ¬ (b ≠ 0 ∧ 24 < len) := fun q => by first | exact absurd h_52 (Int32.not_le.mpr (hb0.mpr q.1)) | exact absurd q.2 (by first | exact Int32.not_lt.mpr h_58 | exact h_58)
                      refine l_msh s04 (ln := 0) (fun w2 fr hr => ?_) 24 0 rfl _ (((frC.rf w).set (a := 73) (k := s0) (v := b) (by decide) (by decide)).set (a := 74) (k := s0) (v := 0) (by decide) (by decide)) (by rw [rm_74 s04, rm_73 s04]; rfl)
                      unfold sq_sheet
                      rw [if_pos hC0, if_neg nA, if_neg nB, nn_nI (by omega), if_pos (show b = 0 from by first | exact h_81 | exact Decidable.not_not.mp h_81)]
                      exact ⟨rfl, mq_sh hV fr hr⟩
                  · refine J_aload_n (pc' := 62) dX7_sheet_61 rfl rfl ?_
                    refine J_ldc (pc' := 64) dX7_sheet_62 kc_7_125 rfl ?_
                    refine J_V1v (pc' := 67) dX7_sheet_64 lk_7_126 cd_X7_error (k_merr (k := 1) (by decide) (by decide)) (ly_68) (l84_68) rfl rfl (jroom_of rfl) (Nat.le_of_ble_eq_true rfl) rfl ?_
                    have nA : ¬ (b ≠ 0 ∧ len < 0) := fun q => by first | exact absurd h_37 (Int32.not_le.mpr (hb0.mpr q.1)) | exact absurd q.2 (by first | exact Int32.not_lt.mpr h_41 | exact h_41)
                    exact J_iret dX7_sheet_67  (by unfold sq_sheet; rw [if_pos hC0, if_neg nA, if_pos (show b ≠ 0 ∧ 24 < len from ⟨by first | exact hb0.mp (Int32.not_le.mp h_52) | exact hb0.mp h_52, by first | exact Int32.not_le.mp h_58 | exact h_58⟩)]; exact ⟨rfl, mq_err hV (by decide)⟩)
              · refine J_aload_n (pc' := 45) dX7_sheet_44 rfl rfl ?_
                refine J_ldc (pc' := 47) dX7_sheet_45 kc_7_141 rfl ?_
                refine J_V1v (pc' := 50) dX7_sheet_47 lk_7_126 cd_X7_error (k_merr (k := 3) (by decide) (by decide)) (ly_68) (l84_68) rfl rfl (jroom_of rfl) (Nat.le_of_ble_eq_true rfl) rfl ?_
                exact J_iret dX7_sheet_50  (by unfold sq_sheet; rw [if_pos hC0, if_pos (show b ≠ 0 ∧ len < 0 from ⟨by first | exact hb0.mp (Int32.not_le.mp h_37) | exact hb0.mp h_37, by first | exact Int32.not_le.mp h_41 | exact h_41⟩)]; exact ⟨rfl, mq_err hV (by decide)⟩)
          · refine J_aload_n (pc' := 30) dX7_sheet_29 rfl rfl ?_
            refine J_ldc (pc' := 32) dX7_sheet_30 kc_7_125 rfl ?_
            refine J_V1v (pc' := 35) dX7_sheet_32 lk_7_126 cd_X7_error (k_merr (k := 1) (by decide) (by decide)) (ly_68) (l84_68) rfl rfl (jroom_of rfl) (Nat.le_of_ble_eq_true rfl) rfl ?_
            first | exact J_iret dX7_sheet_35  (by unfold sq_sheet; rw [if_neg (show ¬ ((0 ≤ x ∧ x ≤ 3) ∧ sBit b) from fun q => jb_0.mp h_4 q.1)]; exact ⟨rfl, mq_err hV (by decide)⟩) | exact J_iret dX7_sheet_35  (by unfold sq_sheet; rw [if_neg (show ¬ ((0 ≤ x ∧ x ≤ 3) ∧ sBit b) from fun q => by rcases q.2 with e | e | e | e; exact h_8 e; exact h_14 e; exact h_20 e; exact h_26 e)]; exact ⟨rfl, mq_err hV (by decide)⟩)
