/-! ===== the reference: calls, more ===== -/
/-! ===== the reference: calls, more ===== -/
theorem am_unt0 {w : jWd} (hc : sC (abM (w.1 69)) 0 ≤ 60) : abM ((jset w 69 140 0).1 69) = sUnt (abM (w.1 69)) 0 := by
  have o : ∀ i, i ≠ 140 → (jset w 69 140 0).1 69 i = w.1 69 i := fun i h => by rw [jset_1, if_pos rfl, if_neg h]
  have e : (jset w 69 140 0).1 69 140 = 0 := by rw [jset_1, if_pos rfl, if_pos rfl]
  have n0 : (0 : Int32).toNatClampNeg = 0 := by decide
  have f9 := abM_9 ((jset w 69 140 0).1 69)
  have f10 := abM_10 ((jset w 69 140 0).1 69)
  funext f j
  by_cases hf : f < 9
  · have e2 : sUnt (abM (w.1 69)) 0 f j = abM (w.1 69) f j := (if_neg (fun q => by omega)).trans (if_neg (by omega))
    rw [e2, abM_ix _ f hf, abM_ix _ f hf]
    by_cases ho : okx f j = true
    · rw [if_pos ho, if_pos ho, o _ (by have := (fIx_ix f hf j (okx_lt ho) ho).2; omega)]
    · rw [if_neg ho, if_neg ho]
  · rcases (show f = 9 ∨ f = 10 ∨ f = 11 ∨ 12 ≤ f by omega) with rfl | rfl | rfl | hf2
    · rw [f9]
      rw [e, n0, if_neg (Nat.not_lt_zero _)]
      exact ((if_neg (fun q => by omega)).trans (if_pos rfl)).symm
    · rw [f10]
      rw [o 261 (by decide), o (262 + j) (by omega), o (322 + j) (by omega)]
      exact ((if_neg (fun q => by omega)).trans ((if_neg (by decide)).trans (abM_10 _ _))).symm
    · rcases (show j = 0 ∨ j = 1 ∨ 2 ≤ j by omega) with rfl | rfl | hk
      · rw [abM_110]
        exact e.trans (if_pos ⟨rfl, rfl⟩).symm
      · rw [abM_111]
        exact (o 261 (by decide)).trans ((if_neg (fun q => by omega)).trans ((if_neg (by decide)).trans (abM_111 _))).symm
      · obtain ⟨m, rfl⟩ : ∃ m, j = m + 2 := ⟨j - 2, by omega⟩
        rw [abM_112]
        exact ((if_neg (fun q => by omega)).trans ((if_neg (by decide)).trans (abM_112 _ _))).symm
    · obtain ⟨m, rfl⟩ : ∃ m, f = m + 12 := ⟨f - 12, by omega⟩
      rw [abM_12]
      exact ((if_neg (fun q => by omega)).trans ((if_neg (by omega)).trans (abM_12 _ _ _))).symm
theorem am_unt1 {w : jWd} (hc : sC (abM (w.1 69)) 0 ≤ 60) : abM ((jset w 69 261 0).1 69) = sUnt (abM (w.1 69)) 1 := by
  have o : ∀ i, i ≠ 261 → (jset w 69 261 0).1 69 i = w.1 69 i := fun i h => by rw [jset_1, if_pos rfl, if_neg h]
  have e : (jset w 69 261 0).1 69 261 = 0 := by rw [jset_1, if_pos rfl, if_pos rfl]
  have n0 : (0 : Int32).toNatClampNeg = 0 := by decide
  have f9 := abM_9 ((jset w 69 261 0).1 69)
  have f10 := abM_10 ((jset w 69 261 0).1 69)
  funext f j
  by_cases hf : f < 9
  · have e2 : sUnt (abM (w.1 69)) 1 f j = abM (w.1 69) f j := (if_neg (fun q => by omega)).trans (if_neg (by omega))
    rw [e2, abM_ix _ f hf, abM_ix _ f hf]
    by_cases ho : okx f j = true
    · rw [if_pos ho, if_pos ho, o _ (by have := (fIx_ix f hf j (okx_lt ho) ho).2; omega)]
    · rw [if_neg ho, if_neg ho]
  · rcases (show f = 9 ∨ f = 10 ∨ f = 11 ∨ 12 ≤ f by omega) with rfl | rfl | rfl | hf2
    · rw [f9]
      rw [o 140 (by decide)]
      have hc : (w.1 69 140).toNatClampNeg ≤ 60 := hc
      refine Eq.trans ?_ ((if_neg (fun q => by omega)).trans ((if_neg (by decide)).trans (abM_9 _ _))).symm
      by_cases e9 : j < (w.1 69 140).toNatClampNeg
      · rw [if_pos e9, if_pos e9, o (141 + j) (by omega), o (201 + j) (by omega)]
      · rw [if_neg e9, if_neg e9]
    · rw [f10]
      rw [e, n0, if_neg (Nat.not_lt_zero _)]
      exact ((if_neg (fun q => by omega)).trans (if_pos rfl)).symm
    · rcases (show j = 0 ∨ j = 1 ∨ 2 ≤ j by omega) with rfl | rfl | hk
      · rw [abM_110]
        exact (o 140 (by decide)).trans ((if_neg (fun q => by omega)).trans ((if_neg (by decide)).trans (abM_110 _))).symm
      · rw [abM_111]
        exact e.trans (if_pos ⟨rfl, rfl⟩).symm
      · obtain ⟨m, rfl⟩ : ∃ m, j = m + 2 := ⟨j - 2, by omega⟩
        rw [abM_112]
        exact ((if_neg (fun q => by omega)).trans ((if_neg (by decide)).trans (abM_112 _ _))).symm
    · obtain ⟨m, rfl⟩ : ∃ m, f = m + 12 := ⟨f - 12, by omega⟩
      rw [abM_12]
      exact ((if_neg (fun q => by omega)).trans ((if_neg (by omega)).trans (abM_12 _ _ _))).symm
theorem mT_unt {w : jWd} {u : Nat} (hu : u < 2) (hI : sInv (abM (w.1 69))) (hT : mT (w.1 69)) : mT ((jset w 69 (140 + 121 * u) 0).1 69) := fun v hv j hj => by
  have o : ∀ i, i ≠ 140 + 121 * u → (jset w 69 (140 + 121 * u) 0).1 69 i = w.1 69 i := fun i h => by rw [jset_1, if_pos rfl, if_neg h]
  have hc := (hI.2.2.2.2.2.2.2.2.2.1 v hv).2.1
  have e : nn (w.1 69 (140 + 121 * v)) = sC (abM (w.1 69)) v := by
    obtain rfl | rfl : v = 0 ∨ v = 1 := by omega
    · rfl
    · rfl
  by_cases ev : v = u
  · subst ev
    rw [show (jset w 69 (140 + 121 * v) 0).1 69 (140 + 121 * v) = 0 from by rw [jset_1, if_pos rfl, if_pos rfl]] at hj
    exact absurd hj (by show ¬ j < (0 : Int32).toNatClampNeg; rw [show (0 : Int32).toNatClampNeg = 0 from by decide]; omega)
  · rw [o _ (by omega)] at hj
    rw [o _ (by omega), o _ (by omega)]
    exact hT v hv j hj
theorem frX_69 {w : jWd} {i : Nat} {v : Int32} : frX w (jset w 69 i v) := fun a q => ⟨by rw [jset_off (by omega)], rfl⟩
theorem mq_txt {w w2 : jWd} {σ : sg} (hV : MInv w) (h : ∀ a, a ≠ 69 → w2.1 a = w.1 a) (hL : ∀ a, a < 68 → w2.2 a = w.2 a) (hT : mT (w2.1 69)) (e : abM (w2.1 69) = σ) : RQ w w2 (σ, abM (w.1 70), restM w) := ⟨e, by rw [h 70 (by decide)], restM_congr (fun a _ q _ _ => h a q), ⟨hT, by rw [h 70 (by decide)]; exact hV.2⟩, fun a q => ⟨h a (by omega), hL a q⟩⟩
set_option maxHeartbeats 4000000 in
set_option maxRecDepth 100000 in
theorem b_X7_untell {G : jG} {w : jWd} (hV : MInv w) (hI : sInv (abM (w.1 69))) {x : Int32} : jKp G 2 yX7_untell cX7_untell 2 (some .int) [.ref 68, .int x] w (some (.int (sq_untell (abM (w.1 69)) (abM (w.1 70)) (restM w) x).1)) (fun w' => RQ w w' (sq_untell (abM (w.1 69)) (abM (w.1 70)) (restM w) x).2) := by
  have hc := (hI.2.2.2.2.2.2.2.2.2.1 0 (by decide)).2.1
  have hT := hV.1
  refine jK_of (own := RX7) [some (.ref 68), some (.int x)] pn7 rfl (Nat.le_of_ble_eq_true rfl) rfl ?_
  refine J_iload_n (pc' := 1) dX7_untell_0 rfl rfl ?_
  refine J_iconst (v := 0) (pc' := 2) dX7_untell_1 (by decide) rfl ?_
  refine J_iconst (v := 1) (pc' := 3) dX7_untell_2 (by decide) rfl ?_
  refine J_S3v (pc' := 6) dX7_untell_3 lk_7_61 cd_X7_in (k_X7_in) (jroom_of rfl) (Nat.le_of_ble_eq_true rfl) rfl ?_
  refine J_if_ne 16 (pc' := 9) dX7_untell_6 (by decide) rfl (fun h_6 => ?_) (fun h_6 => ?_)
  · obtain ⟨u, hu0, hu1, rfl⟩ := nI_wi (a := 0) (b := 1) (by decide) (by decide) (jb_n h_6)
    obtain rfl | rfl : u = 0 ∨ u = 1 := by omega
    · refine J_aload_n (pc' := 17) dX7_untell_16 rfl rfl ?_
      refine J_sipush (v := 140) (pc' := 20) dX7_untell_17 (by decide) rfl ?_
      refine J_bipush (v := 121) (pc' := 22) dX7_untell_20 (by decide) rfl ?_
      refine J_iload_n (pc' := 23) dX7_untell_22 rfl rfl ?_
      refine J_imul (pc' := 24) dX7_untell_23 rfl ?_
      refine J_iadd (pc' := 25) dX7_untell_24 rfl ?_
      refine J_iconst (v := 0) (pc' := 26) dX7_untell_25 (by decide) rfl ?_
      refine J_V2v (pc' := 29) dX7_untell_26 lk_7_137 cd_X7_becomes (k_mbec (i := 140) (by omega) (by decide)) (ly_68) (l84_68) rfl rfl (jroom_of rfl) (Nat.le_of_ble_eq_true rfl) rfl ?_
      refine J_if_le 36 (pc' := 32) dX7_untell_29 (by decide) rfl (fun h_29 => ?_) (fun h_29 => ?_)
      · refine J_iconst (v := 0) (pc' := 37) dX7_untell_36 (by decide) rfl ?_
        first | exact J_iret dX7_untell_37  (by unfold sq_untell; rw [if_pos (show 0 ≤ nI 0 ∧ nI 0 ≤ 1 from jb_n h_6), nn_nI (by omega)]; exact ⟨jv (jb_t (show 0 < abM (w.1 69) 11 0 from Int32.not_le.mp h_29)).symm, mq_txt hV (fun a q => jset_off q) (fun _ _ => rfl) (mT_unt (u := 0) (by decide) hI hT) (am_unt0 hc)⟩) | exact J_iret dX7_untell_37  (by unfold sq_untell; rw [if_pos (show 0 ≤ nI 0 ∧ nI 0 ≤ 1 from jb_n h_6), nn_nI (by omega)]; exact ⟨jv (jb_f (show ¬ (0 < abM (w.1 69) 11 0) from Int32.not_lt.mpr h_29)).symm, mq_txt hV (fun a q => jset_off q) (fun _ _ => rfl) (mT_unt (u := 0) (by decide) hI hT) (am_unt0 hc)⟩)
      · refine J_iconst (v := 1) (pc' := 33) dX7_untell_32 (by decide) rfl ?_
        refine J_goto (pc' := 0) 37 dX7_untell_33 (by decide) ?_
        first | exact J_iret dX7_untell_37  (by unfold sq_untell; rw [if_pos (show 0 ≤ nI 0 ∧ nI 0 ≤ 1 from jb_n h_6), nn_nI (by omega)]; exact ⟨jv (jb_t (show 0 < abM (w.1 69) 11 0 from Int32.not_le.mp h_29)).symm, mq_txt hV (fun a q => jset_off q) (fun _ _ => rfl) (mT_unt (u := 0) (by decide) hI hT) (am_unt0 hc)⟩) | exact J_iret dX7_untell_37  (by unfold sq_untell; rw [if_pos (show 0 ≤ nI 0 ∧ nI 0 ≤ 1 from jb_n h_6), nn_nI (by omega)]; exact ⟨jv (jb_f (show ¬ (0 < abM (w.1 69) 11 0) from Int32.not_lt.mpr h_29)).symm, mq_txt hV (fun a q => jset_off q) (fun _ _ => rfl) (mT_unt (u := 0) (by decide) hI hT) (am_unt0 hc)⟩)
    · refine J_aload_n (pc' := 17) dX7_untell_16 rfl rfl ?_
      refine J_sipush (v := 140) (pc' := 20) dX7_untell_17 (by decide) rfl ?_
      refine J_bipush (v := 121) (pc' := 22) dX7_untell_20 (by decide) rfl ?_
      refine J_iload_n (pc' := 23) dX7_untell_22 rfl rfl ?_
      refine J_imul (pc' := 24) dX7_untell_23 rfl ?_
      refine J_iadd (pc' := 25) dX7_untell_24 rfl ?_
      refine J_iconst (v := 0) (pc' := 26) dX7_untell_25 (by decide) rfl ?_
      refine J_V2v (pc' := 29) dX7_untell_26 lk_7_137 cd_X7_becomes (k_mbec (i := 261) (by omega) (by decide)) (ly_68) (l84_68) rfl rfl (jroom_of rfl) (Nat.le_of_ble_eq_true rfl) rfl ?_
      refine J_if_le 36 (pc' := 32) dX7_untell_29 (by decide) rfl (fun h_29 => ?_) (fun h_29 => ?_)
      · refine J_iconst (v := 0) (pc' := 37) dX7_untell_36 (by decide) rfl ?_
        first | exact J_iret dX7_untell_37  (by unfold sq_untell; rw [if_pos (show 0 ≤ nI 1 ∧ nI 1 ≤ 1 from jb_n h_6), nn_nI (by omega)]; exact ⟨jv (jb_t (show 0 < abM (w.1 69) 11 1 from Int32.not_le.mp h_29)).symm, mq_txt hV (fun a q => jset_off q) (fun _ _ => rfl) (mT_unt (u := 1) (by decide) hI hT) (am_unt1 hc)⟩) | exact J_iret dX7_untell_37  (by unfold sq_untell; rw [if_pos (show 0 ≤ nI 1 ∧ nI 1 ≤ 1 from jb_n h_6), nn_nI (by omega)]; exact ⟨jv (jb_f (show ¬ (0 < abM (w.1 69) 11 1) from Int32.not_lt.mpr h_29)).symm, mq_txt hV (fun a q => jset_off q) (fun _ _ => rfl) (mT_unt (u := 1) (by decide) hI hT) (am_unt1 hc)⟩)
      · refine J_iconst (v := 1) (pc' := 33) dX7_untell_32 (by decide) rfl ?_
        refine J_goto (pc' := 0) 37 dX7_untell_33 (by decide) ?_
        first | exact J_iret dX7_untell_37  (by unfold sq_untell; rw [if_pos (show 0 ≤ nI 1 ∧ nI 1 ≤ 1 from jb_n h_6), nn_nI (by omega)]; exact ⟨jv (jb_t (show 0 < abM (w.1 69) 11 1 from Int32.not_le.mp h_29)).symm, mq_txt hV (fun a q => jset_off q) (fun _ _ => rfl) (mT_unt (u := 1) (by decide) hI hT) (am_unt1 hc)⟩) | exact J_iret dX7_untell_37  (by unfold sq_untell; rw [if_pos (show 0 ≤ nI 1 ∧ nI 1 ≤ 1 from jb_n h_6), nn_nI (by omega)]; exact ⟨jv (jb_f (show ¬ (0 < abM (w.1 69) 11 1) from Int32.not_lt.mpr h_29)).symm, mq_txt hV (fun a q => jset_off q) (fun _ _ => rfl) (mT_unt (u := 1) (by decide) hI hT) (am_unt1 hc)⟩)
  · refine J_aload_n (pc' := 10) dX7_untell_9 rfl rfl ?_
    refine J_ldc (pc' := 12) dX7_untell_10 kc_7_125 rfl ?_
    refine J_V1v (pc' := 15) dX7_untell_12 lk_7_126 cd_X7_error (k_merr (k := 1) (by decide) (by decide)) (ly_68) (l84_68) rfl rfl (jroom_of rfl) (Nat.le_of_ble_eq_true rfl) rfl ?_
    exact J_iret dX7_untell_15  (by unfold sq_untell; rw [if_neg (show ¬ (0 ≤ x ∧ x ≤ 1) from fun q => by first | exact jb_0.mp h_6 q)]; exact ⟨rfl, mq_err hV (by decide)⟩)
set_option maxHeartbeats 4000000 in
set_option maxRecDepth 100000 in
theorem b_X7_law {G : jG} {w : jWd} (hV : MInv w) (hI : sInv (abM (w.1 69))) {x : Int32} {a : Int32} {b : Int32} {c : Int32} : jKp G 4 yX7_law cX7_law 5 (some .int) [.ref 68, .int x, .int a, .int b, .int c] w (some (.int (sq_law (abM (w.1 69)) (abM (w.1 70)) (restM w) x a b c).1)) (fun w' => RQ w w' (sq_law (abM (w.1 69)) (abM (w.1 70)) (restM w) x a b c).2) := by
  have hT := hV.1
  refine jK_of (own := RX7) [some (.ref 68), some (.int x), some (.int a), some (.int b), some (.int c)] pn7 rfl (Nat.le_of_ble_eq_true rfl) rfl ?_
  refine J_iload_n (pc' := 1) dX7_law_0 rfl rfl ?_
  refine J_iconst (v := 0) (pc' := 2) dX7_law_1 (by decide) rfl ?_
  refine J_iconst (v := 1) (pc' := 3) dX7_law_2 (by decide) rfl ?_
  refine J_S3v (pc' := 6) dX7_law_3 lk_7_61 cd_X7_in (k_X7_in) (jroom_of rfl) (Nat.le_of_ble_eq_true rfl) rfl ?_
  refine J_if_eq 21 (pc' := 9) dX7_law_6 (by decide) rfl (fun h_6 => ?_) (fun h_6 => ?_)
  · refine J_aload_n (pc' := 22) dX7_law_21 rfl rfl ?_
    refine J_ldc (pc' := 24) dX7_law_22 kc_7_125 rfl ?_
    refine J_V1v (pc' := 27) dX7_law_24 lk_7_126 cd_X7_error (k_merr (k := 1) (by decide) (by decide)) (ly_68) (l84_68) rfl rfl (jroom_of rfl) (Nat.le_of_ble_eq_true rfl) rfl ?_
    exact J_iret dX7_law_27  (by unfold sq_law; rw [if_neg (show ¬ (0 ≤ x ∧ x ≤ 1) from fun q => by first | exact jb_0.mp h_6 q)]; exact ⟨rfl, mq_err hV (by decide)⟩)
  · obtain ⟨u, hu0, hu1, rfl⟩ := nI_wi (a := 0) (b := 1) (by decide) (by decide) (jb_n h_6)
    obtain rfl | rfl : u = 0 ∨ u = 1 := by omega
    · refine J_aload_n (pc' := 10) dX7_law_9 rfl rfl ?_
      refine J_iload_n (pc' := 11) dX7_law_10 rfl rfl ?_
      refine J_iload_n (pc' := 12) dX7_law_11 rfl rfl ?_
      refine J_iload_n (pc' := 13) dX7_law_12 rfl rfl ?_
      refine J_iload (pc' := 15) dX7_law_13 rfl rfl ?_
      refine J_V4v (pc' := 18) dX7_law_15 lk_7_76 cd_X7_gives (k_mgiv0 hI hT) (ly_68) (l84_68) rfl rfl (jroom_of rfl) (Nat.le_of_ble_eq_true rfl) rfl ?_
      refine J_goto (pc' := 0) 27 dX7_law_18 (by decide) ?_
      first | exact J_iret dX7_law_27  (by unfold sq_law; rw [if_pos (show 0 ≤ nI 0 ∧ nI 0 ≤ 1 from jb_n h_6), nn_nI (by omega)]; exact ⟨rfl, mq_rf hV⟩) | exact J_iret dX7_law_27  (by unfold sq_law; rw [if_neg (show ¬ (0 ≤ x ∧ x ≤ 1) from fun q => by first | exact jb_0.mp h_6 q)]; exact ⟨rfl, mq_err hV (by decide)⟩)
    · refine J_aload_n (pc' := 10) dX7_law_9 rfl rfl ?_
      refine J_iload_n (pc' := 11) dX7_law_10 rfl rfl ?_
      refine J_iload_n (pc' := 12) dX7_law_11 rfl rfl ?_
      refine J_iload_n (pc' := 13) dX7_law_12 rfl rfl ?_
      refine J_iload (pc' := 15) dX7_law_13 rfl rfl ?_
      refine J_V4v (pc' := 18) dX7_law_15 lk_7_76 cd_X7_gives (k_mgiv1 hI hT) (ly_68) (l84_68) rfl rfl (jroom_of rfl) (Nat.le_of_ble_eq_true rfl) rfl ?_
      refine J_goto (pc' := 0) 27 dX7_law_18 (by decide) ?_
      first | exact J_iret dX7_law_27  (by unfold sq_law; rw [if_pos (show 0 ≤ nI 1 ∧ nI 1 ≤ 1 from jb_n h_6), nn_nI (by omega)]; exact ⟨rfl, mq_rf hV⟩) | exact J_iret dX7_law_27  (by unfold sq_law; rw [if_neg (show ¬ (0 ≤ x ∧ x ≤ 1) from fun q => by first | exact jb_0.mp h_6 q)]; exact ⟨rfl, mq_err hV (by decide)⟩)
set_option maxHeartbeats 4000000 in
set_option maxRecDepth 100000 in
theorem l_mfeed {G : jG} {w : jWd} (hI : sInv (abM (w.1 69))) {f N : Nat} (hf : (abM (w.1 69)) 6 6 = nI f) (hN : f + N ≤ 60) (hN8 : N ≤ 8) {x : Int64} {Q : Option Value → jWd → Prop} (hQ : ∀ w2, abM (w2.1 69) = sFeed (abM (w.1 69)) x N → frG w w2 → Q (some (.int (sFeed (abM (w.1 69)) x N 6 6))) w2) : ∀ n j : Nat, j + n = N → ∀ (w2 : jWd) (_ : abM (w2.1 69) = sFeed (abM (w.1 69)) x j) (_ : frG w w2), J G (jM G 1 RX7 cX7_feed 5 (some .int) (Q)) w2 41 [some (.ref 68), some (.long x), none, some (.int (nI N)), some (.int (nI j))] [] := by
  intro n
  induction n with
  | zero =>
    intro j hj w2 e2 fr
    refine J_iload (pc' := 43) dX7_feed_41 rfl rfl ?_
    refine J_iload_n (pc' := 44) dX7_feed_43 rfl rfl ?_
    refine J_icmp_ge 91 (pc' := 47) dX7_feed_44 (by decide) rfl (fun h_44 => ?_) (fun h_44 => absurd (nI_le (by omega) (by omega)) h_44)
    refine J_aload_n (pc' := 92) dX7_feed_91 rfl rfl ?_
    refine J_getR (pc' := 95) dX7_feed_92 fl_7_9 (ly_68) (l84_68) rfl rfl ?_
    refine J_bipush (v := 6) (pc' := 97) dX7_feed_95 (by decide) rfl ?_
    refine J_iald 6 (pc' := 98) dX7_feed_97 (ly_69) (l84_69) nIc_6 (by decide) (by decide) rfl ?_
    obtain rfl : j = N := by omega
    have hq := hQ w2 e2 fr
    rw [← e2] at hq
    exact J_iret dX7_feed_98  hq
  | succ n ih =>
    intro j hj w2 e2 fr
    have ef := inv_feed hI x hf j (by omega)
    have ew : w2.1 69 6 = nI (f + j) := by have := congrFun (congrFun e2 6) 6; rw [ef.2] at this; exact this
    refine J_iload (pc' := 43) dX7_feed_41 rfl rfl ?_
    refine J_iload_n (pc' := 44) dX7_feed_43 rfl rfl ?_
    refine J_icmp_ge 91 (pc' := 47) dX7_feed_44 (by decide) rfl (fun h_44 => absurd h_44 (nI_ge (by omega) (by omega))) (fun h_44 => ?_)
    refine J_aload_n (pc' := 48) dX7_feed_47 rfl rfl ?_
    refine J_getR (pc' := 51) dX7_feed_48 fl_7_9 (ly_68) (l84_68) rfl rfl ?_
    refine J_bipush (v := 56) (pc' := 53) dX7_feed_51 (by decide) rfl ?_
    refine J_aload_n (pc' := 54) dX7_feed_53 rfl rfl ?_
    refine J_getR (pc' := 57) dX7_feed_54 fl_7_9 (ly_68) (l84_68) rfl rfl ?_
    refine J_bipush (v := 6) (pc' := 59) dX7_feed_57 (by decide) rfl ?_
    refine J_iald 6 (pc' := 60) dX7_feed_59 (ly_69) (l84_69) nIc_6 (by decide) (by decide) rfl ?_
    rw [ew]
    refine J_iadd (pc' := 61) dX7_feed_60 rfl ?_
    refine J_lload_n (pc' := 62) dX7_feed_61 rfl rfl ?_
    refine J_bipush (v := 8) (pc' := 64) dX7_feed_62 (by decide) rfl ?_
    refine J_iload (pc' := 66) dX7_feed_64 rfl rfl ?_
    refine J_imul (pc' := 67) dX7_feed_66 rfl ?_
    refine J_lshr (pc' := 68) dX7_feed_67 rfl ?_
    refine J_ldc2 (pc' := 71) dX7_feed_68 kc_7_142 rfl ?_
    refine J_land (pc' := 72) dX7_feed_71 rfl ?_
    refine J_l2i (pc' := 73) dX7_feed_72 rfl ?_
    refine J_iast (56 + (f + j)) (pc' := 74) dX7_feed_73 (ly_69) (l84_69) (jadd (by decide) rfl) (by omega) (by decide) rfl ?_
    refine J_aload_n (pc' := 75) dX7_feed_74 rfl rfl ?_
    refine J_getR (pc' := 78) dX7_feed_75 fl_7_9 (ly_68) (l84_68) rfl rfl ?_
    refine J_bipush (v := 6) (pc' := 80) dX7_feed_78 (by decide) rfl ?_
    refine J_dup2 (pc' := 81) dX7_feed_80 rfl rfl rfl ?_
    refine J_iald 6 (pc' := 82) dX7_feed_81 (ly_69) (l84_69) nIc_6 (by decide) (by decide) rfl ?_
    rw [show (jset w2 69 (56 + (f + j)) ((x >>> ((8 * nI j : Int32).toInt64 &&& 63)) &&& 255).toInt32).1 69 6 = nI (f + j) from by rw [jset_1, if_pos rfl, if_neg (by omega)]; exact ew]
    refine J_iconst (v := 1) (pc' := 83) dX7_feed_82 (by decide) rfl ?_
    refine J_iadd (pc' := 84) dX7_feed_83 rfl ?_
    refine J_iast 6 (pc' := 85) dX7_feed_84 (ly_69) (l84_69) nIc_6 (by decide) (by decide) rfl ?_
    refine J_iinc (pc' := 88) dX7_feed_85 rfl (Nat.le_of_ble_eq_true rfl) (jst4 rfl rfl) rfl ?_
    refine J_goto (pc' := 0) 41 dX7_feed_88 (by decide) ?_
    have h2 := ih (j + 1) (by omega) _ (by rw [amc6, amt (k := f + j) (by omega), byt_m x j (by omega), e2, show (nI (f + j) + 1 : Int32) = sFeed (abM (w.1 69)) x j 6 6 + 1 from by rw [ef.2], show f + j = nn (sFeed (abM (w.1 69)) x j 6 6) from by rw [ef.2, nn_nI (by omega)]]; rfl) ((fr.set (i := 56 + (f + j)) (v := ((x >>> ((8 * nI j : Int32).toInt64 &&& 63)) &&& 255).toInt32) (by omega)).set (i := 6) (v := nI (f + j) + 1) (by omega))
    rw [← z1 j] at h2
    exact h2
set_option maxHeartbeats 4000000 in
set_option maxRecDepth 100000 in
theorem b_X7_feed {G : jG} {w : jWd} (hV : MInv w) (hI : sInv (abM (w.1 69))) {x : Int64} {n : Int32} : jKp G 1 yX7_feed cX7_feed 5 (some .int) [.ref 68, .long x, .int n] w (some (.int (sq_feed (abM (w.1 69)) (abM (w.1 70)) (restM w) x n).1)) (fun w' => RQ w w' (sq_feed (abM (w.1 69)) (abM (w.1 70)) (restM w) x n).2) := by
  obtain ⟨f, hf, hf60⟩ : ∃ f, (abM (w.1 69)) 6 6 = nI f ∧ f ≤ 60 := hI.2.2.2.2.2.1
  have hf2 : w.1 69 6 = nI f := hf
  have hT := hV.1
  refine jK_of (own := RX7) [some (.ref 68), some (.long x), none, some (.int n), none] pn7 rfl (Nat.le_of_ble_eq_true rfl) rfl ?_
  refine J_iload_n (pc' := 1) dX7_feed_0 rfl rfl ?_
  refine J_iconst (v := 1) (pc' := 2) dX7_feed_1 (by decide) rfl ?_
  refine J_bipush (v := 8) (pc' := 4) dX7_feed_2 (by decide) rfl ?_
  refine J_S3v (pc' := 7) dX7_feed_4 lk_7_61 cd_X7_in (k_X7_in) (jroom_of rfl) (Nat.le_of_ble_eq_true rfl) rfl ?_
  refine J_if_ne 17 (pc' := 10) dX7_feed_7 (by decide) rfl (fun h_7 => ?_) (fun h_7 => ?_)
  · obtain ⟨N, hN0, hN8, rfl⟩ := nI_wi (a := 1) (b := 8) (by decide) (by decide) (jb_n h_7)
    have hc : nI N ≤ 60 - (abM (w.1 69)) 6 6 ↔ N ≤ 60 - f := by rw [hf, show (60 : Int32) - nI f = nI (60 - f) from jsub (by decide) rfl hf60]; exact nI_leI (by omega) (by omega)
    refine J_aload_n (pc' := 18) dX7_feed_17 rfl rfl ?_
    refine J_getR (pc' := 21) dX7_feed_18 fl_7_9 (ly_68) (l84_68) rfl rfl ?_
    refine J_bipush (v := 6) (pc' := 23) dX7_feed_21 (by decide) rfl ?_
    refine J_iald 6 (pc' := 24) dX7_feed_23 (ly_69) (l84_69) nIc_6 (by decide) (by decide) rfl ?_
    rw [hf2]
    refine J_iload_n (pc' := 25) dX7_feed_24 rfl rfl ?_
    refine J_iadd (pc' := 26) dX7_feed_25 rfl ?_
    rw [nI_add]
    refine J_bipush (v := 60) (pc' := 28) dX7_feed_26 (by decide) rfl ?_
    refine J_icmp_le 38 (pc' := 31) dX7_feed_28 (by decide) rfl (fun h_28 => ?_) (fun h_28 => ?_)
    · refine J_iconst (v := 0) (pc' := 39) dX7_feed_38 (by decide) rfl ?_
      refine J_istore (pc' := 41) dX7_feed_39 (Nat.le_of_ble_eq_true rfl) (jst4 rfl rfl) rfl ?_
      have hfN : f + N ≤ 60 := (nI_leI (a := f + N) (b := 60) (by omega) (by omega)).mp h_28
      refine l_mfeed hI hf hfN hN8 (fun w2 q1 q2 => ?_) N 0 (by omega) w rfl (frG.rf w)
      unfold sq_feed
      rw [if_pos (show 1 ≤ nI N ∧ nI N ≤ 8 from jb_n h_7), if_pos (hc.mpr (by omega)), nn_nI (by omega)]
      exact ⟨rfl, mq_row hV q2 q1⟩
    · refine J_aload_n (pc' := 32) dX7_feed_31 rfl rfl ?_
      refine J_ldc (pc' := 34) dX7_feed_32 kc_7_129 rfl ?_
      refine J_V1v (pc' := 37) dX7_feed_34 lk_7_126 cd_X7_error (k_merr (k := 4) (by decide) (by decide)) (ly_68) (l84_68) rfl rfl (jroom_of rfl) (Nat.le_of_ble_eq_true rfl) rfl ?_
      exact J_iret dX7_feed_37  (by unfold sq_feed; rw [if_pos (show 1 ≤ nI N ∧ nI N ≤ 8 from jb_n h_7), if_neg (fun q => h_28 (nI_le (b := 60) (by have := hc.mp q; omega) (by omega)))]; exact ⟨rfl, mq_err hV (by decide)⟩)
  · refine J_aload_n (pc' := 11) dX7_feed_10 rfl rfl ?_
    refine J_ldc (pc' := 13) dX7_feed_11 kc_7_125 rfl ?_
    refine J_V1v (pc' := 16) dX7_feed_13 lk_7_126 cd_X7_error (k_merr (k := 1) (by decide) (by decide)) (ly_68) (l84_68) rfl rfl (jroom_of rfl) (Nat.le_of_ble_eq_true rfl) rfl ?_
    exact J_iret dX7_feed_16  (by unfold sq_feed; rw [if_neg (show ¬ (1 ≤ n ∧ n ≤ 8) from fun q => by first | exact jb_0.mp h_7 q)]; exact ⟨rfl, mq_err hV (by decide)⟩)
theorem sIsM_iff {σ : sg} (hI : sInv σ) {j : Nat} (hj : j < 1000) : sIsM σ (nI j) ↔ j < sM σ := by
  constructor
  · intro h
    obtain ⟨k, hk, e⟩ := sIsM_ex hI h
    have : j = k := (nI_eq (by omega) (by have := (sIM hI).2; omega)).mp e
    omega
  · intro h
    have h8 := (sIM hI).2
    refine ⟨by rw [nIc_0]; exact nI_le (by omega) (by omega), ?_⟩
    rw [(sIM hI).1, show nI (sM σ) - 1 = nI (sM σ - 1) from jsub rfl nIc_1 (by omega)]
    exact nI_le (by omega) (by omega)
set_option maxHeartbeats 4000000 in
set_option maxRecDepth 100000 in
theorem l_mchk {G : jG} {w : jWd} (hI : sInv (abM (w.1 69))) (hT : mT (w.1 69)) {W : Nat} (hW : W ≤ 24) : ∀ n j : Nat, j + n = W → ∀ (Q : Option Value → jWd → Prop) (_ : Q (some (.int (sChk (abM (w.1 69)) W n j))) w), J G (jM G 5 RX7 cX7_check 3 (some .int) (Q)) w 18 [some (.ref 68), some (.int (nI W)), some (.int (nI j))] [] := by
  intro n
  induction n with
  | zero =>
    intro j hj Q hQ
    refine J_iload_n (pc' := 19) dX7_check_18 rfl rfl ?_
    refine J_iload_n (pc' := 20) dX7_check_19 rfl rfl ?_
    refine J_icmp_ge 58 (pc' := 23) dX7_check_20 (by decide) rfl (fun h_20 => ?_) (fun h_20 => absurd (nI_le (by omega) (by omega)) h_20)
    refine J_iconst (v := 0) (pc' := 59) dX7_check_58 (by decide) rfl ?_
    exact J_iret dX7_check_59  hQ
  | succ n ih =>
    intro j hj Q hQ
    have h8j : w.1 69 (116 + j) = (abM (w.1 69)) 8 j := (if_pos (show j < 24 by omega)).symm
    refine J_iload_n (pc' := 19) dX7_check_18 rfl rfl ?_
    refine J_iload_n (pc' := 20) dX7_check_19 rfl rfl ?_
    refine J_icmp_ge 58 (pc' := 23) dX7_check_20 (by decide) rfl (fun h_20 => absurd h_20 (nI_ge (by omega) (by omega))) (fun h_20 => ?_)
    refine J_aload_n (pc' := 24) dX7_check_23 rfl rfl ?_
    refine J_iload_n (pc' := 25) dX7_check_24 rfl rfl ?_
    refine J_V1v (pc' := 28) dX7_check_25 lk_7_134 cd_X7_isMark (k_X7_isMark) (ly_68) (l84_68) rfl rfl (jroom_of rfl) (Nat.le_of_ble_eq_true rfl) rfl ?_
    refine J_if_eq 48 (pc' := 31) dX7_check_28 (by decide) rfl (fun h_28 => ?_) (fun h_28 => ?_)
    · refine J_iconst (v := 1) (pc' := 49) dX7_check_48 (by decide) rfl ?_
      refine J_iload_n (pc' := 50) dX7_check_49 rfl rfl ?_
      refine J_iadd (pc' := 51) dX7_check_50 rfl ?_
      exact J_iret dX7_check_51  (by rw [show sChk (abM (w.1 69)) W (n + 1) j = 1 + nI j from if_pos (by first | exact Or.inl (Nat.not_lt.mp (fun q => jb_0.mp h_28 ((sIsM_iff hI (by omega)).mpr q))) | exact Or.inr (fun q => h_45 (h8j.trans q)))] at hQ; exact hQ)
    · have hkj : j < sM (abM (w.1 69)) := (sIsM_iff hI (by omega)).mp (jb_n h_28)
      refine J_aload_n (pc' := 32) dX7_check_31 rfl rfl ?_
      refine J_getR (pc' := 35) dX7_check_32 fl_7_9 (ly_68) (l84_68) rfl rfl ?_
      refine J_bipush (v := 116) (pc' := 37) dX7_check_35 (by decide) rfl ?_
      refine J_iload_n (pc' := 38) dX7_check_37 rfl rfl ?_
      refine J_iadd (pc' := 39) dX7_check_38 rfl ?_
      refine J_iald (116 + j) (pc' := 40) dX7_check_39 (ly_69) (l84_69) (jadd (by decide) rfl) (by omega) (by decide) rfl ?_
      refine J_aload_n (pc' := 41) dX7_check_40 rfl rfl ?_
      refine J_iload_n (pc' := 42) dX7_check_41 rfl rfl ?_
      refine J_V1v (pc' := 45) dX7_check_42 lk_7_93 cd_X7_saysOf (k_msy hI hT hkj) (ly_68) (l84_68) rfl rfl (jroom_of rfl) (Nat.le_of_ble_eq_true rfl) rfl ?_
      refine J_icmp_eq 52 (pc' := 48) dX7_check_45 (by decide) rfl (fun h_45 => ?_) (fun h_45 => ?_)
      · refine J_iinc (pc' := 55) dX7_check_52 rfl (Nat.le_of_ble_eq_true rfl) (jst2 rfl rfl) rfl ?_
        refine J_goto (pc' := 0) 18 dX7_check_55 (by decide) ?_
        have h2 := ih (j + 1) (by omega) Q (by rw [show sChk (abM (w.1 69)) W (n + 1) j = sChk (abM (w.1 69)) W n (j + 1) from if_neg (fun q => q.elim (fun q => by omega) (fun q => q (h8j.symm.trans (by first | exact h_45 | exact Decidable.not_not.mp h_45))))] at hQ; exact hQ)
        rw [← z1 j] at h2
        exact h2
      · refine J_iconst (v := 1) (pc' := 49) dX7_check_48 (by decide) rfl ?_
        refine J_iload_n (pc' := 50) dX7_check_49 rfl rfl ?_
        refine J_iadd (pc' := 51) dX7_check_50 rfl ?_
        exact J_iret dX7_check_51  (by rw [show sChk (abM (w.1 69)) W (n + 1) j = 1 + nI j from if_pos (by first | exact Or.inl (Nat.not_lt.mp (fun q => jb_0.mp h_28 ((sIsM_iff hI (by omega)).mpr q))) | exact Or.inr (fun q => h_45 (h8j.trans q)))] at hQ; exact hQ)
set_option maxHeartbeats 4000000 in
set_option maxRecDepth 100000 in
theorem b_X7_check {G : jG} {w : jWd} (hV : MInv w) (hI : sInv (abM (w.1 69))) : jKp G 5 yX7_check cX7_check 3 (some .int) [.ref 68] w (some (.int (sq_check (abM (w.1 69)) (abM (w.1 70)) (restM w)).1)) (fun w' => RQ w w' (sq_check (abM (w.1 69)) (abM (w.1 70)) (restM w)).2) := by
  obtain ⟨W, hW, hW24⟩ : ∃ n, (abM (w.1 69)) 6 7 = nI n ∧ n ≤ 24 := hI.2.2.2.2.2.2.1
  have hW2 : w.1 69 7 = nI W := hW
  have e7 : abM ((jset w 69 7 0).1 69) = sg1 (abM (w.1 69)) 6 7 0 := amc7
  have hI7 : sInv (abM ((jset w 69 7 0).1 69)) := by rw [e7]; exact inv_67 hI ⟨0, nIc_0, by omega⟩
  have hT := hV.1
  refine jK_of (own := RX7) [some (.ref 68), none, none] pn7 rfl (Nat.le_of_ble_eq_true rfl) rfl ?_
  refine J_aload_n (pc' := 1) dX7_check_0 rfl rfl ?_
  refine J_getR (pc' := 4) dX7_check_1 fl_7_9 (ly_68) (l84_68) rfl rfl ?_
  refine J_bipush (v := 7) (pc' := 6) dX7_check_4 (by decide) rfl ?_
  refine J_iald 7 (pc' := 7) dX7_check_6 (ly_69) (l84_69) nIc_7 (by decide) (by decide) rfl ?_
  rw [hW2]
  refine J_istore_n (pc' := 8) dX7_check_7 (Nat.le_of_ble_eq_true rfl) (jst1 rfl rfl) rfl ?_
  refine J_aload_n (pc' := 9) dX7_check_8 rfl rfl ?_
  refine J_getR (pc' := 12) dX7_check_9 fl_7_9 (ly_68) (l84_68) rfl rfl ?_
  refine J_bipush (v := 7) (pc' := 14) dX7_check_12 (by decide) rfl ?_
  refine J_iconst (v := 0) (pc' := 15) dX7_check_14 (by decide) rfl ?_
  refine J_iast 7 (pc' := 16) dX7_check_15 (ly_69) (l84_69) nIc_7 (by decide) (by decide) rfl ?_
  refine J_iconst (v := 0) (pc' := 17) dX7_check_16 (by decide) rfl ?_
  refine J_istore_n (pc' := 18) dX7_check_17 (Nat.le_of_ble_eq_true rfl) (jst2 rfl rfl) rfl ?_
  refine l_mchk hI7 (((frG.rf w).set (i := 7) (v := 0) (by omega)).mt hT) hW24 W 0 (by omega) _ ?_
  unfold sq_check
  rw [e7, hW, nn_nI (by omega)]
  exact ⟨rfl, mq_row hV ((frG.rf w).set (i := 7) (by omega)) e7⟩
theorem sOn_bit (σ : sg) : ∀ n k, k < n → ((sOn σ n).testBit k = true ↔ σ 5 k = 1)
  | 0, _, h => absurd h (Nat.not_lt_zero _)
  | n + 1, k, h => by
    have hl := sOn_l2 σ n
    rw [sOn]
    by_cases e : σ 5 n = 1
    · rw [if_pos e, Nat.add_comm]
      by_cases ek : k = n
      · subst ek
        rw [Nat.testBit_two_pow_add_eq, Nat.testBit_lt_two_pow hl]
        exact ⟨fun _ => e, fun _ => rfl⟩
      · rw [Nat.testBit_two_pow_add_gt (by omega)]
        exact sOn_bit σ n k (by omega)
    · rw [if_neg e, Nat.add_zero]
      by_cases ek : k = n
      · subst ek
        rw [Nat.testBit_lt_two_pow hl]
        exact ⟨fun q => Bool.noConfusion q, fun q => absurd q e⟩
      · exact sOn_bit σ n k (by omega)
set_option maxHeartbeats 4000000 in
set_option maxRecDepth 100000 in
theorem l_mnd {G : jG} {w : jWd} (hI : sInv (abM (w.1 69))) : ∀ n j : Nat, j + n = sM (abM (w.1 69)) → ∀ (Q : Option Value → jWd → Prop) (_ : Q (some (.int (nI (sNd (abM (w.1 69)) (sM (abM (w.1 69))))))) w), J G (jM G 3 RX7 cX7_needed 4 (some .int) (Q)) w 24 [some (.ref 68), some (.int (nI (sSet (abM (w.1 69))))), some (.int (nI (sNd (abM (w.1 69)) j))), some (.int (nI j))] [] := by
  have hM : w.1 69 2 = nI (sM (abM (w.1 69))) := (sIM hI).1
  have hM8 := (sIM hI).2
  intro n
  induction n with
  | zero =>
    intro j hj Q hQ
    refine J_iload_n (pc' := 25) dX7_needed_24 rfl rfl ?_
    refine J_aload_n (pc' := 26) dX7_needed_25 rfl rfl ?_
    refine J_getR (pc' := 29) dX7_needed_26 fl_7_9 (ly_68) (l84_68) rfl rfl ?_
    refine J_iconst (v := 2) (pc' := 30) dX7_needed_29 (by decide) rfl ?_
    refine J_iald 2 (pc' := 31) dX7_needed_30 (ly_69) (l84_69) nIc_2 (by decide) (by decide) rfl ?_
    refine J_icmp_ge 73 (pc' := 34) dX7_needed_31 (by decide) rfl (fun h_31 => ?_) (fun h_31 => absurd (by rw [hM]; exact nI_le (by omega) (by omega)) h_31)
    refine J_iload_n (pc' := 74) dX7_needed_73 rfl rfl ?_
    obtain rfl : j = sM (abM (w.1 69)) := by omega
    exact J_iret dX7_needed_74  hQ
  | succ n ih =>
    intro j hj Q hQ
    have h8 : j < 8 := by omega
    have hz := zoff (sSet (abM (w.1 69))) (sSet_lt2 hI) j h8
    have hb := (zbit (sSet (abM (w.1 69))) (sSet_lt2 hI) j h8).trans (sOn_bit (abM (w.1 69)) (sM (abM (w.1 69))) j (by omega))
    refine J_iload_n (pc' := 25) dX7_needed_24 rfl rfl ?_
    refine J_aload_n (pc' := 26) dX7_needed_25 rfl rfl ?_
    refine J_getR (pc' := 29) dX7_needed_26 fl_7_9 (ly_68) (l84_68) rfl rfl ?_
    refine J_iconst (v := 2) (pc' := 30) dX7_needed_29 (by decide) rfl ?_
    refine J_iald 2 (pc' := 31) dX7_needed_30 (ly_69) (l84_69) nIc_2 (by decide) (by decide) rfl ?_
    refine J_icmp_ge 73 (pc' := 34) dX7_needed_31 (by decide) rfl (fun h_31 => absurd h_31 (by rw [hM]; exact nI_ge (by omega) (by omega))) (fun h_31 => ?_)
    refine J_iload_n (pc' := 35) dX7_needed_34 rfl rfl ?_
    refine J_iload_n (pc' := 36) dX7_needed_35 rfl rfl ?_
    refine J_iload_n (pc' := 37) dX7_needed_36 rfl rfl ?_
    refine J_ishr (pc' := 38) dX7_needed_37 rfl ?_
    refine J_iconst (v := 1) (pc' := 39) dX7_needed_38 (by decide) rfl ?_
    refine J_iand (pc' := 40) dX7_needed_39 rfl ?_
    refine J_iconst (v := 1) (pc' := 41) dX7_needed_40 (by decide) rfl ?_
    refine J_icmp_ne 64 (pc' := 44) dX7_needed_41 (by decide) rfl (fun h_41 => ?_) (fun h_41 => ?_)
    · refine J_iconst (v := 0) (pc' := 65) dX7_needed_64 (by decide) rfl ?_
      refine J_ior (pc' := 66) dX7_needed_65 rfl ?_
      refine J_istore_n (pc' := 67) dX7_needed_66 (Nat.le_of_ble_eq_true rfl) (jst2 rfl rfl) rfl ?_
      refine J_iinc (pc' := 70) dX7_needed_67 rfl (Nat.le_of_ble_eq_true rfl) (jst3 rfl rfl) rfl ?_
      refine J_goto (pc' := 0) 24 dX7_needed_70 (by decide) ?_
      have e : sNd (abM (w.1 69)) (j + 1) = sNd (abM (w.1 69)) j := if_neg (fun q => by first | exact h_41 (hb.mpr q.1) | exact q.2 (jb_n h_55))
      rw [show (nI (sNd (abM (w.1 69)) j) ||| (0 : Int32) : Int32) = nI (sNd (abM (w.1 69)) (j + 1)) from by rw [e]; exact Int32.or_zero]
      have h2 := ih (j + 1) (by omega) Q hQ
      rw [← z1 j] at h2
      exact h2
    · refine J_aload_n (pc' := 45) dX7_needed_44 rfl rfl ?_
      refine J_iload_n (pc' := 46) dX7_needed_45 rfl rfl ?_
      refine J_iconst (v := 1) (pc' := 47) dX7_needed_46 (by decide) rfl ?_
      refine J_iload_n (pc' := 48) dX7_needed_47 rfl rfl ?_
      refine J_ishl (pc' := 49) dX7_needed_48 rfl ?_
      refine J_iconst (v := -1) (pc' := 50) dX7_needed_49 (by decide) rfl ?_
      refine J_ixor (pc' := 51) dX7_needed_50 rfl ?_
      refine J_iand (pc' := 52) dX7_needed_51 rfl ?_
      rw [hz.1]
      refine J_V1v (pc' := 55) dX7_needed_52 lk_7_100 cd_X7_doesHold (k_mhold hI hz.2) (ly_68) (l84_68) rfl rfl (jroom_of rfl) (Nat.le_of_ble_eq_true rfl) rfl ?_
      refine J_if_ne 64 (pc' := 58) dX7_needed_55 (by decide) rfl (fun h_55 => ?_) (fun h_55 => ?_)
      · refine J_iconst (v := 0) (pc' := 65) dX7_needed_64 (by decide) rfl ?_
        refine J_ior (pc' := 66) dX7_needed_65 rfl ?_
        refine J_istore_n (pc' := 67) dX7_needed_66 (Nat.le_of_ble_eq_true rfl) (jst2 rfl rfl) rfl ?_
        refine J_iinc (pc' := 70) dX7_needed_67 rfl (Nat.le_of_ble_eq_true rfl) (jst3 rfl rfl) rfl ?_
        refine J_goto (pc' := 0) 24 dX7_needed_70 (by decide) ?_
        have e : sNd (abM (w.1 69)) (j + 1) = sNd (abM (w.1 69)) j := if_neg (fun q => by first | exact h_41 (hb.mpr q.1) | exact q.2 (jb_n h_55))
        rw [show (nI (sNd (abM (w.1 69)) j) ||| (0 : Int32) : Int32) = nI (sNd (abM (w.1 69)) (j + 1)) from by rw [e]; exact Int32.or_zero]
        have h2 := ih (j + 1) (by omega) Q hQ
        rw [← z1 j] at h2
        exact h2
      · refine J_iconst (v := 1) (pc' := 59) dX7_needed_58 (by decide) rfl ?_
        refine J_iload_n (pc' := 60) dX7_needed_59 rfl rfl ?_
        refine J_ishl (pc' := 61) dX7_needed_60 rfl ?_
        refine J_goto (pc' := 0) 65 dX7_needed_61 (by decide) ?_
        refine J_ior (pc' := 66) dX7_needed_65 rfl ?_
        refine J_istore_n (pc' := 67) dX7_needed_66 (Nat.le_of_ble_eq_true rfl) (jst2 rfl rfl) rfl ?_
        refine J_iinc (pc' := 70) dX7_needed_67 rfl (Nat.le_of_ble_eq_true rfl) (jst3 rfl rfl) rfl ?_
        refine J_goto (pc' := 0) 24 dX7_needed_70 (by decide) ?_
        have e : sNd (abM (w.1 69)) (j + 1) = sNd (abM (w.1 69)) j ||| 2 ^ j := if_pos ⟨hb.mp (by first | exact h_41 | exact Decidable.not_not.mp h_41), jb_0.mp (by first | exact h_55 | exact Decidable.not_not.mp h_55)⟩
        rw [show (nI (sNd (abM (w.1 69)) j) ||| ((1 : Int32) <<< (nI j &&& 31)) : Int32) = nI (sNd (abM (w.1 69)) (j + 1)) from by rw [e]; exact zor8 _ (sNd_lt j (by omega)) j h8]
        have h2 := ih (j + 1) (by omega) Q hQ
        rw [← z1 j] at h2
        exact h2
set_option maxHeartbeats 4000000 in
set_option maxRecDepth 100000 in
theorem b_X7_needed {G : jG} {w : jWd} (hV : MInv w) (hI : sInv (abM (w.1 69))) : jKp G 3 yX7_needed cX7_needed 4 (some .int) [.ref 68] w (some (.int (sq_needed (abM (w.1 69)) (abM (w.1 70)) (restM w)).1)) (fun w' => RQ w w' (sq_needed (abM (w.1 69)) (abM (w.1 70)) (restM w)).2) := by
  have hT := hV.1
  refine jK_of (own := RX7) [some (.ref 68), none, none, none] pn7 rfl (Nat.le_of_ble_eq_true rfl) rfl ?_
  refine J_aload_n (pc' := 1) dX7_needed_0 rfl rfl ?_
  refine J_V0v (pc' := 4) dX7_needed_1 lk_7_96 cd_X7_onOnes (k_mon hI) (ly_68) (l84_68) rfl rfl (jroom_of rfl) (Nat.le_of_ble_eq_true rfl) rfl ?_
  refine J_istore_n (pc' := 5) dX7_needed_4 (Nat.le_of_ble_eq_true rfl) (jst1 rfl rfl) rfl ?_
  refine J_aload_n (pc' := 6) dX7_needed_5 rfl rfl ?_
  refine J_iload_n (pc' := 7) dX7_needed_6 rfl rfl ?_
  refine J_V1v (pc' := 10) dX7_needed_7 lk_7_100 cd_X7_doesHold (k_mhold hI (sSet_lt2 hI)) (ly_68) (l84_68) rfl rfl (jroom_of rfl) (Nat.le_of_ble_eq_true rfl) rfl ?_
  refine J_if_ne 20 (pc' := 13) dX7_needed_10 (by decide) rfl (fun h_10 => ?_) (fun h_10 => ?_)
  · refine J_iconst (v := 0) (pc' := 21) dX7_needed_20 (by decide) rfl ?_
    refine J_istore_n (pc' := 22) dX7_needed_21 (Nat.le_of_ble_eq_true rfl) (jst2 rfl rfl) rfl ?_
    refine J_iconst (v := 0) (pc' := 23) dX7_needed_22 (by decide) rfl ?_
    refine J_istore_n (pc' := 24) dX7_needed_23 (Nat.le_of_ble_eq_true rfl) (jst3 rfl rfl) rfl ?_
    refine l_mnd hI (sM (abM (w.1 69))) 0 (by omega) _ ?_
    unfold sq_needed
    rw [if_pos (show sTied (abM (w.1 69)) (sSet (abM (w.1 69))) = 2 ^ sP (abM (w.1 69)) - 1 from jb_n h_10)]
    exact ⟨rfl, mq_rf hV⟩
  · refine J_aload_n (pc' := 14) dX7_needed_13 rfl rfl ?_
    refine J_ldc (pc' := 16) dX7_needed_14 kc_7_141 rfl ?_
    refine J_V1v (pc' := 19) dX7_needed_16 lk_7_126 cd_X7_error (k_merr (k := 3) (by decide) (by decide)) (ly_68) (l84_68) rfl rfl (jroom_of rfl) (Nat.le_of_ble_eq_true rfl) rfl ?_
    exact J_iret dX7_needed_19  (by unfold sq_needed; rw [if_neg (show ¬ sTied (abM (w.1 69)) (sSet (abM (w.1 69))) = 2 ^ sP (abM (w.1 69)) - 1 from jb_0.mp (by first | exact h_10 | exact Decidable.not_not.mp h_10))]; exact ⟨rfl, mq_err hV (by decide)⟩)
