/-! ===== the reference: odds, what fits ===== -/
/-! ===== the reference: odds, what fits ===== -/
theorem sGa_01 (r : sg) (s : Nat) (σ : sg) : ∀ n i, sGa r s σ n i = 0 ∨ sGa r s σ n i = 1
  | 0, _ => Or.inr rfl
  | n + 1, i => by
    rw [sGa]
    split
    · exact sGa_01 r s σ n (i + 1)
    · exact Or.inl rfl
set_option maxHeartbeats 4000000 in
set_option maxRecDepth 100000 in
theorem l_mod {G : jG} {w0 : jWd} (hE : goEq) (hR : sR (abM (w0.1 69)) ≤ 9999) (hI0 : sInv (abM (w0.1 69))) (hT0 : mT (w0.1 69)) {k n0 : Nat} (hk : k < sM (abM (w0.1 69))) (hn0 : n0 ≤ 40) {p : Int32} {Q : Option Value → jWd → Prop} (hK : ∀ w2, mBk w0 w2 → J G (jM G 10 RX7 cX7_odds 7 (some .int) (Q)) w2 85 [some (.ref 68), some (.int (nI k)), some (.int (nI n0)), some (.int p), some (.long (lN (mOd (abM (w0.1 69)) k n0 41))), none, none] []) : ∀ n j : Nat, j + n = 41 → ∀ (w2 : jWd) (_ : mBk w0 w2), J G (jM G 10 RX7 cX7_odds 7 (some .int) (Q)) w2 43 [some (.ref 68), some (.int (nI k)), some (.int (nI n0)), some (.int p), some (.long (lN (mOd (abM (w0.1 69)) k n0 j))), none, some (.int (tw j))] [] := by
  have h8 : k < 8 := Nat.lt_of_lt_of_le hk (sIM hI0).2
  intro n
  induction n with
  | zero =>
    intro j hj w2 b2
    refine J_iload (pc' := 45) dX7_odds_43 rfl rfl ?_
    refine J_bipush (v := 20) (pc' := 47) dX7_odds_45 (by decide) rfl ?_
    refine J_icmp_gt 85 (pc' := 50) dX7_odds_47 (by decide) rfl (fun h_47 => ?_) (fun h_47 => absurd (by rw [show j = 41 by omega]; exact tw_41) h_47)
    have ej : j = 41 := by omega
    rw [ej]
    exact J_mask [true, true, true, true, true, true, false] (hK w2 b2)
  | succ n ih =>
    intro j hj w2 b2
    have eσ : abM ((jset w2 69 (8 + 6 * k + 4) (tw j)).1 69) = (sg1 (abM (w0.1 69)) 4 k (tw j)) := by rw [ams4 h8, b2.2.1]
    have hIj : sInv (sg1 (abM (w0.1 69)) 4 k (tw j)) := inv_4 hI0 (tw_in j (by omega)).2
    have hRj : sR (sg1 (abM (w0.1 69)) 4 k (tw j)) = sR (abM (w0.1 69)) := by unfold sR; rw [sg1_f (by decide)]
    have hIg := inv_goN hIj n0 (by omega)
    have mt3 : mT ((jset w2 69 (8 + 6 * k + 4) (tw j)).1 69) := ((frG.rf w2).set (by omega)).mt b2.2.2
    refine J_iload (pc' := 45) dX7_odds_43 rfl rfl ?_
    refine J_bipush (v := 20) (pc' := 47) dX7_odds_45 (by decide) rfl ?_
    refine J_icmp_gt 85 (pc' := 50) dX7_odds_47 (by decide) rfl (fun h_47 => absurd h_47 (tw_in j (by omega)).1) (fun h_47 => ?_)
    refine J_aload_n (pc' := 51) dX7_odds_50 rfl rfl ?_
    refine J_iload_n (pc' := 52) dX7_odds_51 rfl rfl ?_
    refine J_iconst (v := 4) (pc' := 53) dX7_odds_52 (by decide) rfl ?_
    refine J_iload (pc' := 55) dX7_odds_53 rfl rfl ?_
    refine J_V30 (pc' := 58) dX7_odds_55 lk_7_130 cd_X7_puts (k_mputs h8 (c := 4) (by decide) nIc_4) (ly_68) (l84_68) rfl rfl (jroom_of rfl) (Nat.le_of_ble_eq_true rfl) rfl ?_
    refine J_aload_n (pc' := 59) dX7_odds_58 rfl rfl ?_
    refine J_iload_n (pc' := 60) dX7_odds_59 rfl rfl ?_
    refine J_V1w (pc' := 63) dX7_odds_60 lk_7_215 cd_X7_goesFor (k_mgf hE (by rw [eσ]; exact hIj) mt3 (n0 := n0) (by omega) (by rw [eσ, hRj]; omega)) (ly_68) (l84_68) rfl rfl (jroom_of rfl) (Nat.le_of_ble_eq_true rfl) rfl (fun w60 hw60 => ?_)
    have e60 : abM (w60.1 69) = sGoN (sg1 (abM (w0.1 69)) 4 k (tw j)) n0 := by rw [hw60.1, eσ]
    have t60 := (b2.1.set (i := 8 + 6 * k + 4) (v := tw j)).g hw60.2
    have h01 := (sIk hIg.1 (show k < sM (sGoN (sg1 (abM (w0.1 69)) 4 k (tw j)) n0) by rw [hIg.2.1, sM_sg1 (Or.inl (by decide))]; exact hk)).2.2.2.2.2.2
    have eu : lN (mOd (abM (w0.1 69)) k n0 (j + 1)) = lN (mOd (abM (w0.1 69)) k n0 j) + (sGoN (sg1 (abM (w0.1 69)) 4 k (tw j)) n0 5 k).toInt64 := by
      rw [mOd]
      rcases h01 with q | q
      · rw [q, if_neg (by decide)]; exact (Int64.add_zero _).symm
      · rw [q, if_pos rfl, ← lN_add]; rfl
    refine J_lload (pc' := 65) dX7_odds_63 rfl rfl ?_
    refine J_aload_n (pc' := 66) dX7_odds_65 rfl rfl ?_
    refine J_iload_n (pc' := 67) dX7_odds_66 rfl rfl ?_
    refine J_iconst (v := 5) (pc' := 68) dX7_odds_67 (by decide) rfl ?_
    refine J_V2v (pc' := 71) dX7_odds_68 lk_7_65 cd_X7_of (k_mof5 h8) (ly_68) (l84_68) rfl rfl (jroom_of rfl) (Nat.le_of_ble_eq_true rfl) rfl ?_
    rw [e60]
    refine J_i2l (pc' := 72) dX7_odds_71 rfl ?_
    refine J_ladd (pc' := 73) dX7_odds_72 rfl ?_
    refine J_lstore (pc' := 75) dX7_odds_73 (Nat.le_of_ble_eq_true rfl) (jstL4 rfl) rfl ?_
    refine J_aload_n (pc' := 76) dX7_odds_75 rfl rfl ?_
    refine J_V0w (pc' := 79) dX7_odds_76 lk_7_245 cd_X7_putsBack (k_mback) (ly_68) (l84_68) rfl rfl (jroom_of rfl) (Nat.le_of_ble_eq_true rfl) rfl (fun w76 hw76 => ?_)
    have b76 := mTh.back hI0 hT0 t60 hw76
    refine J_iinc (pc' := 82) dX7_odds_79 rfl (Nat.le_of_ble_eq_true rfl) (jst6 rfl rfl) rfl ?_
    refine J_goto (pc' := 0) 43 dX7_odds_82 (by decide) ?_
    have h2 := ih (j + 1) (by omega) w76 b76
    rw [eu, ← tw_s j (by omega)] at h2
    exact h2
def sm_odds (s k r : sg) (x : Int32) (n : Int32) (p : Int32) : sQI := if sIsM s x ∧ (0 ≤ n ∧ n ≤ 40) ∧ (0 ≤ p ∧ p ≤ 1) then ((mPart (lN (mOd s (nn x) (nn n) 41)) 41 p).toInt32, s, k, r) else (sErr 1, s, k, sEr r 1)
set_option maxHeartbeats 4000000 in
set_option maxRecDepth 100000 in
theorem b_X7_odds {G : jG} {w : jWd} (hV : MInv w) (hI : sInv (abM (w.1 69))) (hE : goEq) (hR : sR (abM (w.1 69)) ≤ 9999) {x : Int32} {n : Int32} {p : Int32} : jKp G 10 yX7_odds cX7_odds 7 (some .int) [.ref 68, .int x, .int n, .int p] w (some (.int (sm_odds (abM (w.1 69)) (abM (w.1 70)) (restM w) x n p).1)) (fun w' => RQ w w' (sm_odds (abM (w.1 69)) (abM (w.1 70)) (restM w) x n p).2) := by
  have hT := hV.1
  refine jK_of (own := RX7) [some (.ref 68), some (.int x), some (.int n), some (.int p), none, none, none] pn7 rfl (Nat.le_of_ble_eq_true rfl) rfl ?_
  refine J_aload_n (pc' := 1) dX7_odds_0 rfl rfl ?_
  refine J_iload_n (pc' := 2) dX7_odds_1 rfl rfl ?_
  refine J_V1v (pc' := 5) dX7_odds_2 lk_7_134 cd_X7_isMark (k_X7_isMark) (ly_68) (l84_68) rfl rfl (jroom_of rfl) (Nat.le_of_ble_eq_true rfl) rfl ?_
  refine J_if_eq 25 (pc' := 8) dX7_odds_5 (by decide) rfl (fun h_5 => ?_) (fun h_5 => ?_)
  · refine J_aload_n (pc' := 26) dX7_odds_25 rfl rfl ?_
    refine J_ldc (pc' := 28) dX7_odds_26 kc_7_125 rfl ?_
    refine J_V1v (pc' := 31) dX7_odds_28 lk_7_126 cd_X7_error (k_merr (k := 1) (by decide) (by decide)) (ly_68) (l84_68) rfl rfl (jroom_of rfl) (Nat.le_of_ble_eq_true rfl) rfl ?_
    exact J_iret dX7_odds_31  (by unfold sm_odds; rw [if_neg (show ¬ (sIsM (abM (w.1 69)) x ∧ (0 ≤ n ∧ n ≤ 40) ∧ (0 ≤ p ∧ p ≤ 1)) from fun q => by first | exact jb_0.mp h_5 q.1 | exact jb_0.mp h_15 q.2.1 | exact jb_0.mp (by first | exact h_22 | exact Decidable.not_not.mp h_22) q.2.2)]; exact ⟨rfl, mq_err hV (by decide)⟩)
  · refine J_iload_n (pc' := 9) dX7_odds_8 rfl rfl ?_
    refine J_iconst (v := 0) (pc' := 10) dX7_odds_9 (by decide) rfl ?_
    refine J_bipush (v := 40) (pc' := 12) dX7_odds_10 (by decide) rfl ?_
    refine J_S3v (pc' := 15) dX7_odds_12 lk_7_61 cd_X7_in (k_X7_in) (jroom_of rfl) (Nat.le_of_ble_eq_true rfl) rfl ?_
    refine J_if_eq 25 (pc' := 18) dX7_odds_15 (by decide) rfl (fun h_15 => ?_) (fun h_15 => ?_)
    · refine J_aload_n (pc' := 26) dX7_odds_25 rfl rfl ?_
      refine J_ldc (pc' := 28) dX7_odds_26 kc_7_125 rfl ?_
      refine J_V1v (pc' := 31) dX7_odds_28 lk_7_126 cd_X7_error (k_merr (k := 1) (by decide) (by decide)) (ly_68) (l84_68) rfl rfl (jroom_of rfl) (Nat.le_of_ble_eq_true rfl) rfl ?_
      exact J_iret dX7_odds_31  (by unfold sm_odds; rw [if_neg (show ¬ (sIsM (abM (w.1 69)) x ∧ (0 ≤ n ∧ n ≤ 40) ∧ (0 ≤ p ∧ p ≤ 1)) from fun q => by first | exact jb_0.mp h_5 q.1 | exact jb_0.mp h_15 q.2.1 | exact jb_0.mp (by first | exact h_22 | exact Decidable.not_not.mp h_22) q.2.2)]; exact ⟨rfl, mq_err hV (by decide)⟩)
    · refine J_iload_n (pc' := 19) dX7_odds_18 rfl rfl ?_
      refine J_S1v (pc' := 22) dX7_odds_19 lk_7_228 cd_X7_isPart (k_X7_isPart) (jroom_of rfl) (Nat.le_of_ble_eq_true rfl) rfl ?_
      refine J_if_ne 32 (pc' := 25) dX7_odds_22 (by decide) rfl (fun h_22 => ?_) (fun h_22 => ?_)
      · obtain ⟨k, hk, rfl⟩ := sIsM_ex hI (jb_n h_5)
        have h8 : k < 8 := Nat.lt_of_lt_of_le hk (sIM hI).2
        obtain ⟨n0, hn1, rfl⟩ := rng0_ex (n := 40) (by omega) (show 0 ≤ n ∧ n ≤ nI 40 from jb_n h_15)
        refine J_aload_n (pc' := 33) dX7_odds_32 rfl rfl ?_
        refine J_V0w (pc' := 36) dX7_odds_33 lk_7_242 cd_X7_thinks (k_mthinks) (ly_68) (l84_68) rfl rfl (jroom_of rfl) (Nat.le_of_ble_eq_true rfl) rfl (fun w33 hw33 => ?_)
        obtain ⟨t33, e33⟩ := mTh.start hw33
        refine J_lconst (v := 0) (pc' := 37) dX7_odds_36 (by decide) rfl ?_
        refine J_lstore (pc' := 39) dX7_odds_37 (Nat.le_of_ble_eq_true rfl) (jstL4 rfl) rfl ?_
        refine J_bipush (v := (-20)) (pc' := 41) dX7_odds_39 (by decide) rfl ?_
        refine J_istore (pc' := 43) dX7_odds_41 (Nat.le_of_ble_eq_true rfl) (jst6 rfl rfl) rfl ?_
        have h2 := fun (Q : Option Value → jWd → Prop) hK => l_mod (G := G) (w0 := w) hE hR hI hT hk hn1 (p := p) (Q := Q) hK 41 0 rfl w33 ⟨t33, by rw [e33], by rw [e33]; exact hT⟩
        rw [tw_0] at h2
        refine h2 _ (fun w2 b2 => ?_)
        have hml := mOd_le (abM (w.1 69)) k n0 41
        refine J_lload (pc' := 87) dX7_odds_85 rfl rfl ?_
        refine J_ldc2 (pc' := 90) dX7_odds_87 kc_7_254 rfl ?_
        refine J_iload_n (pc' := 91) dX7_odds_90 rfl rfl ?_
        refine J_S3v (pc' := 94) dX7_odds_91 lk_7_231 cd_X7_inTerms (k_minT (by rw [lNt (by omega)]; omega) (by decide)) (jroom_of rfl) (Nat.le_of_ble_eq_true rfl) rfl ?_
        refine J_l2i (pc' := 95) dX7_odds_94 rfl ?_
        exact J_iret dX7_odds_95  (by unfold sm_odds; rw [if_pos (show sIsM (abM (w.1 69)) (nI k) ∧ (0 ≤ nI n0 ∧ nI n0 ≤ 40) ∧ (0 ≤ p ∧ p ≤ 1) from ⟨jb_n h_5, jb_n h_15, jb_n h_22⟩), nn_nI (by omega), nn_nI (by omega)]; dsimp only; exact ⟨rfl, mq_bk hV b2⟩)
      · refine J_aload_n (pc' := 26) dX7_odds_25 rfl rfl ?_
        refine J_ldc (pc' := 28) dX7_odds_26 kc_7_125 rfl ?_
        refine J_V1v (pc' := 31) dX7_odds_28 lk_7_126 cd_X7_error (k_merr (k := 1) (by decide) (by decide)) (ly_68) (l84_68) rfl rfl (jroom_of rfl) (Nat.le_of_ble_eq_true rfl) rfl ?_
        exact J_iret dX7_odds_31  (by unfold sm_odds; rw [if_neg (show ¬ (sIsM (abM (w.1 69)) x ∧ (0 ≤ n ∧ n ≤ 40) ∧ (0 ≤ p ∧ p ≤ 1)) from fun q => by first | exact jb_0.mp h_5 q.1 | exact jb_0.mp h_15 q.2.1 | exact jb_0.mp (by first | exact h_22 | exact Decidable.not_not.mp h_22) q.2.2)]; exact ⟨rfl, mq_err hV (by decide)⟩)
set_option maxHeartbeats 4000000 in
set_option maxRecDepth 100000 in
theorem l_mis {G : jG} {w0 w : jWd} (hE : goEq) (hI0 : sInv (abM (w0.1 69))) (hT0 : mT (w0.1 69)) (t0 : mTh w0 w) (hI : sInv (abM (w.1 69))) (hT : mT (w.1 69)) (hR : sR (abM (w.1 69)) ≤ 9999) {s T : Nat} (hs4 : s < 4) (hsz : restM w0 7 s = nI T) (hT24 : T ≤ 24) {Q : Option Value → jWd → Prop} (hK : ∀ w2, mTh w0 w2 → J G (jM G 9 RX7 cX7_isSo 4 (some .boolean) (Q)) w2 52 [some (.ref 68), some (.int (nI s)), some (.int (sGa (restM w0) s (abM (w.1 69)) T 0)), none] []) : ∀ n j : Nat, j + n = T → ∀ (w2 : jWd) (b : Int32) (_ : abM (w2.1 69) = sGoN (abM (w.1 69)) j) (_ : mTh w0 w2) (_ : mT (w2.1 69)) (_ : (b = 1 ∧ (sGa (restM w0) s (abM (w.1 69)) T 0) = sGa (restM w0) s (abM (w.1 69)) n j) ∨ (b = 0 ∧ (sGa (restM w0) s (abM (w.1 69)) T 0) = 0)), J G (jM G 9 RX7 cX7_isSo 4 (some .boolean) (Q)) w2 4 [some (.ref 68), some (.int (nI s)), some (.int b), some (.int (nI j))] [] := by
  intro n
  induction n with
  | zero =>
    intro j hj w2 b e2 t2 mt2 hr
    have hsw : w2.1 74 s = nI T := by rw [t2.1 74 (by decide) (by decide)]; exact (if_pos hs4).symm.trans hsz
    refine J_iload_n (pc' := 5) dX7_isSo_4 rfl rfl ?_
    refine J_aload_n (pc' := 6) dX7_isSo_5 rfl rfl ?_
    refine J_getR (pc' := 9) dX7_isSo_6 fl_7_25 (ly_68) (l84_68) rfl rfl ?_
    refine J_iload_n (pc' := 10) dX7_isSo_9 rfl rfl ?_
    refine J_iald s (pc' := 11) dX7_isSo_10 (ly_74) (l84_74) rfl hs4 (by decide) rfl ?_
    rw [hsw]
    refine J_icmp_ge 52 (pc' := 14) dX7_isSo_11 (by decide) rfl (fun h_11 => ?_) (fun h_11 => absurd (nI_le (by omega) (by omega)) h_11)
    have eb : b = (sGa (restM w0) s (abM (w.1 69)) T 0) := by
      rcases hr with ⟨q1, q2⟩ | ⟨q1, q2⟩
      · rw [q1, q2]; rfl
      · rw [q1, q2]
    rw [eb]
    exact J_mask [true, true, true, false] (hK w2 t2)
  | succ n ih =>
    intro j hj w2 b e2 t2 mt2 hr
    have hsw : w2.1 74 s = nI T := by rw [t2.1 74 (by decide) (by decide)]; exact (if_pos hs4).symm.trans hsz
    have hcl : w2.1 75 (24 * s + j) = restM w0 (2 + s) j := by
      rw [t2.1 75 (by decide) (by decide)]
      obtain rfl | rfl | rfl | rfl : s = 0 ∨ s = 1 ∨ s = 2 ∨ s = 3 := by omega
      · rw [Nat.mul_zero, Nat.zero_add]; exact (if_pos (show j < 24 by omega)).symm
      · exact (if_pos (show j < 24 by omega)).symm
      · exact (if_pos (show j < 24 by omega)).symm
      · exact (if_pos (show j < 24 by omega)).symm
    refine J_iload_n (pc' := 5) dX7_isSo_4 rfl rfl ?_
    refine J_aload_n (pc' := 6) dX7_isSo_5 rfl rfl ?_
    refine J_getR (pc' := 9) dX7_isSo_6 fl_7_25 (ly_68) (l84_68) rfl rfl ?_
    refine J_iload_n (pc' := 10) dX7_isSo_9 rfl rfl ?_
    refine J_iald s (pc' := 11) dX7_isSo_10 (ly_74) (l84_74) rfl hs4 (by decide) rfl ?_
    rw [hsw]
    refine J_icmp_ge 52 (pc' := 14) dX7_isSo_11 (by decide) rfl (fun h_11 => absurd h_11 (nI_ge (by omega) (by omega))) (fun h_11 => ?_)
    refine J_iload_n (pc' := 15) dX7_isSo_14 rfl rfl ?_
    refine J_if_eq 52 (pc' := 18) dX7_isSo_15 (by decide) rfl (fun h_15 => ?_) (fun h_15 => ?_)
    · have eb : b = (sGa (restM w0) s (abM (w.1 69)) T 0) := by
        rcases hr with ⟨q1, q2⟩ | ⟨q1, q2⟩
        · rw [q1] at h_15; exact absurd h_15 (by decide)
        · rw [q1, q2]
      rw [eb]
      exact J_mask [true, true, true, false] (hK w2 t2)
    · obtain ⟨q1, q2⟩ := hr.resolve_right (fun q => h_15 q.1)
      refine J_aload_n (pc' := 19) dX7_isSo_18 rfl rfl ?_
      refine J_getR (pc' := 22) dX7_isSo_19 fl_7_28 (ly_68) (l84_68) rfl rfl ?_
      refine J_bipush (v := 24) (pc' := 24) dX7_isSo_22 (by decide) rfl ?_
      refine J_iload_n (pc' := 25) dX7_isSo_24 rfl rfl ?_
      refine J_imul (pc' := 26) dX7_isSo_25 rfl ?_
      refine J_iload_n (pc' := 27) dX7_isSo_26 rfl rfl ?_
      refine J_iadd (pc' := 28) dX7_isSo_27 rfl ?_
      refine J_iald (24 * s + j) (pc' := 29) dX7_isSo_28 (ly_75) (l84_75) (jadd (jmul nIc_24 rfl) rfl) (by omega) (by decide) rfl ?_
      rw [hcl]
      refine J_aload_n (pc' := 30) dX7_isSo_29 rfl rfl ?_
      refine J_V0v (pc' := 33) dX7_isSo_30 lk_7_96 cd_X7_onOnes ((by have h := k_mon (G := G) (w := w2) (by rw [e2]; exact (inv_goN hI j (by omega)).1); rw [e2] at h; exact h)) (ly_68) (l84_68) rfl rfl (jroom_of rfl) (Nat.le_of_ble_eq_true rfl) rfl ?_
      refine J_icmp_ne 40 (pc' := 36) dX7_isSo_33 (by decide) rfl (fun h_33 => ?_) (fun h_33 => ?_)
      · refine J_iconst (v := 0) (pc' := 41) dX7_isSo_40 (by decide) rfl ?_
        refine J_istore_n (pc' := 42) dX7_isSo_41 (Nat.le_of_ble_eq_true rfl) (jst2 rfl rfl) rfl ?_
        refine J_aload_n (pc' := 43) dX7_isSo_42 rfl rfl ?_
        refine J_V0w (pc' := 46) dX7_isSo_43 lk_7_212 cd_X7_goes (k_mgoE hE (by rw [e2]; exact (inv_goN hI j (by omega)).1) mt2) (ly_68) (l84_68) rfl rfl (jroom_of rfl) (Nat.le_of_ble_eq_true rfl) rfl (fun w43 hw43 => ?_)
        refine J_iinc (pc' := 49) dX7_isSo_46 rfl (Nat.le_of_ble_eq_true rfl) (jst3 rfl rfl) rfl ?_
        refine J_goto (pc' := 0) 4 dX7_isSo_49 (by decide) ?_
        have h2 := ih (j + 1) (by omega) w43 0 (by rw [hw43.1, e2]; rfl) (t2.g hw43.2) (hw43.2.mt mt2) (Or.inr ⟨rfl, by rw [q2, sGa, if_neg h_33]⟩)
        rw [← z1 j] at h2
        exact h2
      · refine J_iconst (v := 1) (pc' := 37) dX7_isSo_36 (by decide) rfl ?_
        refine J_goto (pc' := 0) 41 dX7_isSo_37 (by decide) ?_
        refine J_istore_n (pc' := 42) dX7_isSo_41 (Nat.le_of_ble_eq_true rfl) (jst2 rfl rfl) rfl ?_
        refine J_aload_n (pc' := 43) dX7_isSo_42 rfl rfl ?_
        refine J_V0w (pc' := 46) dX7_isSo_43 lk_7_212 cd_X7_goes (k_mgoE hE (by rw [e2]; exact (inv_goN hI j (by omega)).1) mt2) (ly_68) (l84_68) rfl rfl (jroom_of rfl) (Nat.le_of_ble_eq_true rfl) rfl (fun w43 hw43 => ?_)
        refine J_iinc (pc' := 49) dX7_isSo_46 rfl (Nat.le_of_ble_eq_true rfl) (jst3 rfl rfl) rfl ?_
        refine J_goto (pc' := 0) 4 dX7_isSo_49 (by decide) ?_
        have h2 := ih (j + 1) (by omega) w43 1 (by rw [hw43.1, e2]; rfl) (t2.g hw43.2) (hw43.2.mt mt2) (Or.inl ⟨rfl, by rw [q2, sGa, if_pos (by first | exact h_33 | exact Decidable.not_not.mp h_33)]⟩)
        rw [← z1 j] at h2
        exact h2
set_option maxHeartbeats 4000000 in
set_option maxRecDepth 100000 in
theorem k_mis {G : jG} {w0 w : jWd} (hE : goEq) (hI0 : sInv (abM (w0.1 69))) (hT0 : mT (w0.1 69)) (t0 : mTh w0 w) (hI : sInv (abM (w.1 69))) (hT : mT (w.1 69)) (hR : sR (abM (w.1 69)) ≤ 9999) {s T : Nat} (hs4 : s < 4) (hsz : restM w0 7 s = nI T) (hT24 : T ≤ 24) : jKp G 9 yX7_isSo cX7_isSo 4 (some .boolean) [.ref 68, .int (nI s)] w (some (.int (sGa (restM w0) s (abM (w.1 69)) T 0))) (fun w' => mBk w0 w') := by
  refine jK_of (own := RX7) [some (.ref 68), some (.int (nI s)), none, none] pn7 rfl (Nat.le_of_ble_eq_true rfl) rfl ?_
  refine J_iconst (v := 1) (pc' := 1) dX7_isSo_0 (by decide) rfl ?_
  refine J_istore_n (pc' := 2) dX7_isSo_1 (Nat.le_of_ble_eq_true rfl) (jst2 rfl rfl) rfl ?_
  refine J_iconst (v := 0) (pc' := 3) dX7_isSo_2 (by decide) rfl ?_
  refine J_istore_n (pc' := 4) dX7_isSo_3 (Nat.le_of_ble_eq_true rfl) (jst3 rfl rfl) rfl ?_
  refine l_mis hE hI0 hT0 t0 hI hT hR hs4 hsz hT24 (fun w2 t2 => ?_) T 0 (by omega) w 1 rfl t0 hT (Or.inl ⟨rfl, rfl⟩)
  refine J_aload_n (pc' := 53) dX7_isSo_52 rfl rfl ?_
  refine J_V0w (pc' := 56) dX7_isSo_53 lk_7_245 cd_X7_putsBack (k_mback) (ly_68) (l84_68) rfl rfl (jroom_of rfl) (Nat.le_of_ble_eq_true rfl) rfl (fun w53 hw53 => ?_)
  refine J_iload_n (pc' := 57) dX7_isSo_56 rfl rfl ?_
  exact J_zret dX7_isSo_57 (sGa_01 _ _ _ _ _) ⟨rfl, mTh.back hI0 hT0 t2 hw53⟩
set_option maxHeartbeats 4000000 in
set_option maxRecDepth 100000 in
theorem l_mft {G : jG} {w : jWd} (hE : goEq) (hR : sR (abM (w.1 69)) ≤ 9999) (hI : sInv (abM (w.1 69))) (hT : mT (w.1 69)) {s T k : Nat} (hs4 : s < 4) (hsz : restM w 7 s = nI T) (hT24 : T ≤ 24) (hk : k < sM (abM (w.1 69))) {m : Int32} {Q : Option Value → jWd → Prop} (hK : ∀ w2, mBk w w2 → J G (jM G 10 RX7 cX7_fits 6 (some .int) (Q)) w2 99 [some (.ref 68), some (.int (nI s)), some (.int (nI k)), some (.int m), some (.int (nI (sFt (restM w) s (abM (w.1 69)) k T 7))), none] []) : ∀ n j : Nat, j + n = 7 → ∀ (w2 : jWd) (_ : mBk w w2), J G (jM G 10 RX7 cX7_fits 6 (some .int) (Q)) w2 57 [some (.ref 68), some (.int (nI s)), some (.int (nI k)), some (.int m), some (.int (nI (sFt (restM w) s (abM (w.1 69)) k T j))), some (.int (nI j))] [] := by
  have h8 : k < 8 := Nat.lt_of_lt_of_le hk (sIM hI).2
  intro n
  induction n with
  | zero =>
    intro j hj w2 b2
    refine J_iload (pc' := 59) dX7_fits_57 rfl rfl ?_
    refine J_bipush (v := 6) (pc' := 61) dX7_fits_59 (by decide) rfl ?_
    refine J_icmp_gt 99 (pc' := 64) dX7_fits_61 (by decide) rfl (fun h_61 => ?_) (fun h_61 => absurd (by rw [show j = 7 by omega]; decide) h_61)
    have ej : j = 7 := by omega
    rw [ej]
    exact J_mask [true, true, true, true, true, false] (hK w2 b2)
  | succ n ih =>
    intro j hj w2 b2
    have eσ : abM ((jset w2 69 (8 + 6 * k + 0) (nI j)).1 69) = (sg1 (abM (w.1 69)) 0 k (nI j)) := by rw [ams0 h8, b2.2.1]
    have hIj : sInv (sg1 (abM (w.1 69)) 0 k (nI j)) := inv_0 hI (kind_in j (by omega))
    have hRj : sR (sg1 (abM (w.1 69)) 0 k (nI j)) = sR (abM (w.1 69)) := by unfold sR; rw [sg1_f (by decide)]
    have mt3 : mT ((jset w2 69 (8 + 6 * k + 0) (nI j)).1 69) := ((frG.rf w2).set (by omega)).mt b2.2.2
    refine J_iload (pc' := 59) dX7_fits_57 rfl rfl ?_
    refine J_bipush (v := 6) (pc' := 61) dX7_fits_59 (by decide) rfl ?_
    refine J_icmp_gt 99 (pc' := 64) dX7_fits_61 (by decide) rfl (fun h_61 => absurd h_61 (Int32.not_lt.mpr (by rw [nIc_6]; exact nI_le (by omega) (by omega)))) (fun h_61 => ?_)
    refine J_aload_n (pc' := 65) dX7_fits_64 rfl rfl ?_
    refine J_iload_n (pc' := 66) dX7_fits_65 rfl rfl ?_
    refine J_iconst (v := 0) (pc' := 67) dX7_fits_66 (by decide) rfl ?_
    refine J_iload (pc' := 69) dX7_fits_67 rfl rfl ?_
    refine J_V30 (pc' := 72) dX7_fits_69 lk_7_130 cd_X7_puts (k_mputs h8 (c := 0) (by decide) nIc_0) (ly_68) (l84_68) rfl rfl (jroom_of rfl) (Nat.le_of_ble_eq_true rfl) rfl ?_
    refine J_iload (pc' := 74) dX7_fits_72 rfl rfl ?_
    refine J_aload_n (pc' := 75) dX7_fits_74 rfl rfl ?_
    refine J_iload_n (pc' := 76) dX7_fits_75 rfl rfl ?_
    refine J_V1p (pc' := 79) dX7_fits_76 lk_7_259 cd_X7_isSo ((by have h := k_mis (G := G) (w0 := w) (w := jset w2 69 (8 + 6 * k + 0) (nI j)) hE hI hT b2.1.set (by rw [eσ]; exact hIj) mt3 (by rw [eσ, hRj]; exact hR) hs4 hsz hT24; rw [eσ] at h; exact h)) (ly_68) (l84_68) rfl rfl (jroom_of rfl) (Nat.le_of_ble_eq_true rfl) rfl (fun w76 hw76 => ?_)
    refine J_if_eq 89 (pc' := 82) dX7_fits_79 (by decide) rfl (fun h_79 => ?_) (fun h_79 => ?_)
    · refine J_iconst (v := 0) (pc' := 90) dX7_fits_89 (by decide) rfl ?_
      refine J_ior (pc' := 91) dX7_fits_90 rfl ?_
      refine J_istore (pc' := 93) dX7_fits_91 (Nat.le_of_ble_eq_true rfl) (jst4 rfl rfl) rfl ?_
      refine J_iinc (pc' := 96) dX7_fits_93 rfl (Nat.le_of_ble_eq_true rfl) (jst5 rfl rfl) rfl ?_
      refine J_goto (pc' := 0) 57 dX7_fits_96 (by decide) ?_
      have e : (sFt (restM w) s (abM (w.1 69)) k T (j + 1)) = (sFt (restM w) s (abM (w.1 69)) k T j) := by rw [sFt, if_pos (by first | exact h_79 | exact Decidable.not_not.mp h_79)]
      have ev : (nI (sFt (restM w) s (abM (w.1 69)) k T j) ||| (0 : Int32) : Int32) = nI (sFt (restM w) s (abM (w.1 69)) k T (j + 1)) := by rw [e]; exact Int32.or_zero
      have h2 := ih (j + 1) (by omega) w76 hw76
      rw [← ev, ← z1 j] at h2
      exact h2
    · refine J_iconst (v := 1) (pc' := 83) dX7_fits_82 (by decide) rfl ?_
      refine J_iload (pc' := 85) dX7_fits_83 rfl rfl ?_
      refine J_ishl (pc' := 86) dX7_fits_85 rfl ?_
      refine J_goto (pc' := 0) 90 dX7_fits_86 (by decide) ?_
      refine J_ior (pc' := 91) dX7_fits_90 rfl ?_
      refine J_istore (pc' := 93) dX7_fits_91 (Nat.le_of_ble_eq_true rfl) (jst4 rfl rfl) rfl ?_
      refine J_iinc (pc' := 96) dX7_fits_93 rfl (Nat.le_of_ble_eq_true rfl) (jst5 rfl rfl) rfl ?_
      refine J_goto (pc' := 0) 57 dX7_fits_96 (by decide) ?_
      have e : (sFt (restM w) s (abM (w.1 69)) k T (j + 1)) = (sFt (restM w) s (abM (w.1 69)) k T j) ||| 2 ^ j := by rw [sFt, if_neg h_79]
      have ev : (nI (sFt (restM w) s (abM (w.1 69)) k T j) ||| ((1 : Int32) <<< (nI j &&& 31)) : Int32) = nI (sFt (restM w) s (abM (w.1 69)) k T (j + 1)) := by rw [e]; exact zor8 _ (sFt_lt _ _ _ _ _ j (by omega)) j (by omega)
      have h2 := ih (j + 1) (by omega) w76 hw76
      rw [← ev, ← z1 j] at h2
      exact h2
set_option maxHeartbeats 4000000 in
set_option maxRecDepth 100000 in
theorem b_X7_fits {G : jG} {w : jWd} (hV : MInv w) (hI : sInv (abM (w.1 69))) (hE : goEq) (hR : sR (abM (w.1 69)) ≤ 9999) (hRI : rInv (restM w)) {x : Int32} {y : Int32} {m : Int32} : jKp G 10 yX7_fits cX7_fits 6 (some .int) [.ref 68, .int x, .int y, .int m] w (some (.int (sq_fits (abM (w.1 69)) (abM (w.1 70)) (restM w) x y m).1)) (fun w' => RQ w w' (sq_fits (abM (w.1 69)) (abM (w.1 70)) (restM w) x y m).2) := by
  have hT := hV.1
  refine jK_of (own := RX7) [some (.ref 68), some (.int x), some (.int y), some (.int m), none, none] pn7 rfl (Nat.le_of_ble_eq_true rfl) rfl ?_
  refine J_iload_n (pc' := 1) dX7_fits_0 rfl rfl ?_
  refine J_S1v (pc' := 4) dX7_fits_1 lk_7_256 cd_X7_isSheet (k_X7_isSheet) (jroom_of rfl) (Nat.le_of_ble_eq_true rfl) rfl ?_
  refine J_if_eq 24 (pc' := 7) dX7_fits_4 (by decide) rfl (fun h_4 => ?_) (fun h_4 => ?_)
  · refine J_aload_n (pc' := 25) dX7_fits_24 rfl rfl ?_
    refine J_ldc (pc' := 27) dX7_fits_25 kc_7_125 rfl ?_
    refine J_V1v (pc' := 30) dX7_fits_27 lk_7_126 cd_X7_error (k_merr (k := 1) (by decide) (by decide)) (ly_68) (l84_68) rfl rfl (jroom_of rfl) (Nat.le_of_ble_eq_true rfl) rfl ?_
    exact J_iret dX7_fits_30  (by unfold sq_fits; rw [if_neg (show ¬ ((0 ≤ x ∧ x ≤ 3) ∧ sIsM (abM (w.1 69)) y ∧ (0 ≤ m ∧ m ≤ 1)) from fun q => by first | exact jb_0.mp h_4 q.1 | exact jb_0.mp h_12 q.2.1 | exact jb_0.mp (by first | exact h_21 | exact Decidable.not_not.mp h_21) q.2.2)]; exact ⟨rfl, mq_err hV (by decide)⟩)
  · refine J_aload_n (pc' := 8) dX7_fits_7 rfl rfl ?_
    refine J_iload_n (pc' := 9) dX7_fits_8 rfl rfl ?_
    refine J_V1v (pc' := 12) dX7_fits_9 lk_7_134 cd_X7_isMark (k_X7_isMark) (ly_68) (l84_68) rfl rfl (jroom_of rfl) (Nat.le_of_ble_eq_true rfl) rfl ?_
    refine J_if_eq 24 (pc' := 15) dX7_fits_12 (by decide) rfl (fun h_12 => ?_) (fun h_12 => ?_)
    · refine J_aload_n (pc' := 25) dX7_fits_24 rfl rfl ?_
      refine J_ldc (pc' := 27) dX7_fits_25 kc_7_125 rfl ?_
      refine J_V1v (pc' := 30) dX7_fits_27 lk_7_126 cd_X7_error (k_merr (k := 1) (by decide) (by decide)) (ly_68) (l84_68) rfl rfl (jroom_of rfl) (Nat.le_of_ble_eq_true rfl) rfl ?_
      exact J_iret dX7_fits_30  (by unfold sq_fits; rw [if_neg (show ¬ ((0 ≤ x ∧ x ≤ 3) ∧ sIsM (abM (w.1 69)) y ∧ (0 ≤ m ∧ m ≤ 1)) from fun q => by first | exact jb_0.mp h_4 q.1 | exact jb_0.mp h_12 q.2.1 | exact jb_0.mp (by first | exact h_21 | exact Decidable.not_not.mp h_21) q.2.2)]; exact ⟨rfl, mq_err hV (by decide)⟩)
    · refine J_iload_n (pc' := 16) dX7_fits_15 rfl rfl ?_
      refine J_iconst (v := 0) (pc' := 17) dX7_fits_16 (by decide) rfl ?_
      refine J_iconst (v := 1) (pc' := 18) dX7_fits_17 (by decide) rfl ?_
      refine J_S3v (pc' := 21) dX7_fits_18 lk_7_61 cd_X7_in (k_X7_in) (jroom_of rfl) (Nat.le_of_ble_eq_true rfl) rfl ?_
      refine J_if_ne 31 (pc' := 24) dX7_fits_21 (by decide) rfl (fun h_21 => ?_) (fun h_21 => ?_)
      · obtain ⟨s0, hs0, rfl⟩ := rng0_ex (n := 3) (by omega) (show 0 ≤ x ∧ x ≤ nI 3 from jb_n h_4)
        have hs4 : s0 < 4 := by omega
        obtain ⟨k, hk, rfl⟩ := sIsM_ex hI (jb_n h_12)
        have h8 : k < 8 := Nat.lt_of_lt_of_le hk (sIM hI).2
        obtain ⟨T, hsz, hT24⟩ := (hRI.2 s0 hs4).1
        have hb6 : w.1 73 s0 = restM w 6 s0 := (if_pos hs4).symm
        have hnT : nn (restM w 7 s0) = T := by rw [hsz, nn_nI (by omega)]
        refine J_aload_n (pc' := 32) dX7_fits_31 rfl rfl ?_
        refine J_getR (pc' := 35) dX7_fits_32 fl_7_22 (ly_68) (l84_68) rfl rfl ?_
        refine J_iload_n (pc' := 36) dX7_fits_35 rfl rfl ?_
        refine J_iald s0 (pc' := 37) dX7_fits_36 (ly_73) (l84_73) rfl hs4 (by decide) rfl ?_
        rw [hb6]
        refine J_if_ne 47 (pc' := 40) dX7_fits_37 (by decide) rfl (fun h_37 => ?_) (fun h_37 => ?_)
        · refine J_aload_n (pc' := 48) dX7_fits_47 rfl rfl ?_
          refine J_V0w (pc' := 51) dX7_fits_48 lk_7_242 cd_X7_thinks (k_mthinks) (ly_68) (l84_68) rfl rfl (jroom_of rfl) (Nat.le_of_ble_eq_true rfl) rfl (fun w48 hw48 => ?_)
          obtain ⟨t48, e48⟩ := mTh.start hw48
          refine J_iconst (v := 0) (pc' := 52) dX7_fits_51 (by decide) rfl ?_
          refine J_istore (pc' := 54) dX7_fits_52 (Nat.le_of_ble_eq_true rfl) (jst4 rfl rfl) rfl ?_
          refine J_iconst (v := 0) (pc' := 55) dX7_fits_54 (by decide) rfl ?_
          refine J_istore (pc' := 57) dX7_fits_55 (Nat.le_of_ble_eq_true rfl) (jst5 rfl rfl) rfl ?_
          refine l_mft hE hR hI hT hs4 hsz hT24 hk (m := m) (fun w2 b2 => ?_) 7 0 rfl w48 ⟨t48, by rw [e48], by rw [e48]; exact hT⟩
          refine J_iload_n (pc' := 100) dX7_fits_99 rfl rfl ?_
          refine J_if_ne 108 (pc' := 103) dX7_fits_100 (by decide) rfl (fun h_100 => ?_) (fun h_100 => ?_)
          · refine J_iload (pc' := 110) dX7_fits_108 rfl rfl ?_
            refine J_S1v (pc' := 113) dX7_fits_110 lk_7_218 cd_X7_bits (k_mbits (sFt_lt _ _ _ _ _ 7 (by omega))) (jroom_of rfl) (Nat.le_of_ble_eq_true rfl) rfl ?_
            exact J_iret dX7_fits_113  (by unfold sq_fits; rw [if_pos (show (0 ≤ nI s0 ∧ nI s0 ≤ 3) ∧ sIsM (abM (w.1 69)) (nI k) ∧ (0 ≤ m ∧ m ≤ 1) from ⟨jb_n h_4, jb_n h_12, jb_n h_21⟩), nn_nI (by omega), if_neg h_37, nn_nI (by omega), hnT]; dsimp only; exact ⟨jv (by unfold sFit; first | rw [if_pos (by first | exact h_100 | exact Decidable.not_not.mp h_100)] | rw [if_neg h_100]), mq_bk hV b2⟩)
          · refine J_iload (pc' := 105) dX7_fits_103 rfl rfl ?_
            refine J_goto (pc' := 0) 113 dX7_fits_105 (by decide) ?_
            exact J_iret dX7_fits_113  (by unfold sq_fits; rw [if_pos (show (0 ≤ nI s0 ∧ nI s0 ≤ 3) ∧ sIsM (abM (w.1 69)) (nI k) ∧ (0 ≤ m ∧ m ≤ 1) from ⟨jb_n h_4, jb_n h_12, jb_n h_21⟩), nn_nI (by omega), if_neg h_37, nn_nI (by omega), hnT]; dsimp only; exact ⟨jv (by unfold sFit; first | rw [if_pos (by first | exact h_100 | exact Decidable.not_not.mp h_100)] | rw [if_neg h_100]), mq_bk hV b2⟩)
        · refine J_aload_n (pc' := 41) dX7_fits_40 rfl rfl ?_
          refine J_ldc (pc' := 43) dX7_fits_41 kc_7_248 rfl ?_
          refine J_V1v (pc' := 46) dX7_fits_43 lk_7_126 cd_X7_error (k_merr (k := 2) (by decide) (by decide)) (ly_68) (l84_68) rfl rfl (jroom_of rfl) (Nat.le_of_ble_eq_true rfl) rfl ?_
          exact J_iret dX7_fits_46  (by unfold sq_fits; rw [if_pos (show (0 ≤ nI s0 ∧ nI s0 ≤ 3) ∧ sIsM (abM (w.1 69)) (nI k) ∧ (0 ≤ m ∧ m ≤ 1) from ⟨jb_n h_4, jb_n h_12, jb_n h_21⟩), nn_nI (by omega), if_pos (by first | exact h_37 | exact Decidable.not_not.mp h_37)]; exact ⟨rfl, mq_err hV (by decide)⟩)
      · refine J_aload_n (pc' := 25) dX7_fits_24 rfl rfl ?_
        refine J_ldc (pc' := 27) dX7_fits_25 kc_7_125 rfl ?_
        refine J_V1v (pc' := 30) dX7_fits_27 lk_7_126 cd_X7_error (k_merr (k := 1) (by decide) (by decide)) (ly_68) (l84_68) rfl rfl (jroom_of rfl) (Nat.le_of_ble_eq_true rfl) rfl ?_
        exact J_iret dX7_fits_30  (by unfold sq_fits; rw [if_neg (show ¬ ((0 ≤ x ∧ x ≤ 3) ∧ sIsM (abM (w.1 69)) y ∧ (0 ≤ m ∧ m ≤ 1)) from fun q => by first | exact jb_0.mp h_4 q.1 | exact jb_0.mp h_12 q.2.1 | exact jb_0.mp (by first | exact h_21 | exact Decidable.not_not.mp h_21) q.2.2)]; exact ⟨rfl, mq_err hV (by decide)⟩)
