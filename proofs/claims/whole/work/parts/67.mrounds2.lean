/-! ===== the reference: rounds, more ===== -/
/-! ===== the reference: rounds, more ===== -/
theorem k_mgoE {G : jG} {w : jWd} (hE : goEq) (hI : sInv (abM (w.1 69))) (hT : mT (w.1 69)) : jKp G 8 yX7_goes cX7_goes 2 none [.ref 68] w none (fun w' => abM (w'.1 69) = sGo (abM (w.1 69)) ∧ frG w w') := by
  have h := k_mgo (G := G) hI hT
  rw [hE _ hI] at h
  exact h
theorem mCnt {σ : sg} (hI : sInv σ) : sBn (sSet σ) 8 = sCnt σ (sM σ) := by
  have hM := (sIM hI).2
  rw [sBn_cnt (σ := σ) 8 (fun k hk => ?_), ← sCnt_8 hI (8 - sM σ) (by omega), show sM σ + (8 - sM σ) = 8 by omega]
  by_cases e : k < sM σ
  · exact (sOn_bit σ (sM σ) k e).symm
  · rw [hI.2.2.2.2.2.2.2.2.1 k (by omega)]
    constructor
    · intro q; exact absurd q (by decide)
    · intro q
      rw [show (sSet σ).testBit k = false from Nat.testBit_lt_two_pow (Nat.lt_of_lt_of_le (sOn_l2 σ (sM σ)) (Nat.pow_le_pow_right (by omega) (by omega)))] at q
      exact Bool.noConfusion q
theorem rnd_iff {σ : sg} (hI : sInv σ) {n : Nat} (hn : n ≤ 60) : (nI (sR σ + n) ≤ 9999 ↔ sR σ + n ≤ 9999) ∧ (σ 6 2 ≤ 9999 - nI n ↔ sR σ + n ≤ 9999) := by
  have hR := hI.2.2.1
  constructor
  · rw [show (9999 : Int32) = nI 9999 from by decide]; exact nI_leI (by omega) (by omega)
  · rw [hR.1, show (9999 : Int32) = nI 9999 from by decide, jsub (a := 9999) (b := n) rfl rfl (by omega), nI_leI (by omega) (by omega)]
    omega
set_option maxHeartbeats 4000000 in
set_option maxRecDepth 100000 in
theorem l_mgf {G : jG} {w : jWd} (hE : goEq) (hI : sInv (abM (w.1 69))) (hT : mT (w.1 69)) {n0 : Nat} (hn0 : n0 ≤ 1000) (hR : sR (abM (w.1 69)) + n0 ≤ 1000000) : ∀ n j : Nat, j + n = n0 → ∀ (w2 : jWd) (_ : abM (w2.1 69) = sGoN (abM (w.1 69)) j) (_ : frG w w2), J G (jM G 9 RX7 cX7_goesFor 3 none ((fun r' w' => r' = none ∧ abM (w'.1 69) = sGoN (abM (w.1 69)) n0 ∧ frG w w'))) w2 2 [some (.ref 68), some (.int (nI n0)), some (.int (nI j))] [] := by
  intro n
  induction n with
  | zero =>
    intro j hj w2 e2 fr
    refine J_iload_n (pc' := 3) dX7_goesFor_2 rfl rfl ?_
    refine J_iload_n (pc' := 4) dX7_goesFor_3 rfl rfl ?_
    refine J_icmp_ge 17 (pc' := 7) dX7_goesFor_4 (by decide) rfl (fun h_4 => ?_) (fun h_4 => absurd (nI_le (by omega) (by omega)) h_4)
    obtain rfl : j = n0 := by omega
    exact J_vret dX7_goesFor_17  ⟨rfl, e2, fr⟩
  | succ n ih =>
    intro j hj w2 e2 fr
    refine J_iload_n (pc' := 3) dX7_goesFor_2 rfl rfl ?_
    refine J_iload_n (pc' := 4) dX7_goesFor_3 rfl rfl ?_
    refine J_icmp_ge 17 (pc' := 7) dX7_goesFor_4 (by decide) rfl (fun h_4 => absurd h_4 (nI_ge (by omega) (by omega))) (fun h_4 => ?_)
    refine J_aload_n (pc' := 8) dX7_goesFor_7 rfl rfl ?_
    refine J_V0w (pc' := 11) dX7_goesFor_8 lk_7_212 cd_X7_goes (k_mgoE hE (by rw [e2]; exact (inv_goN hI j (by omega)).1) (fr.mt hT)) (ly_68) (l84_68) rfl rfl (jroom_of rfl) (Nat.le_of_ble_eq_true rfl) rfl (fun w8 hw8 => ?_)
    refine J_iinc (pc' := 14) dX7_goesFor_11 rfl (Nat.le_of_ble_eq_true rfl) (jst2 rfl rfl) rfl ?_
    refine J_goto (pc' := 0) 2 dX7_goesFor_14 (by decide) ?_
    have h2 := ih (j + 1) (by omega) w8 (by rw [hw8.1, e2]; rfl) (fr.tr hw8.2)
    rw [← z1 j] at h2
    exact h2
set_option maxHeartbeats 4000000 in
set_option maxRecDepth 100000 in
theorem k_mgf {G : jG} {w : jWd} (hE : goEq) (hI : sInv (abM (w.1 69))) (hT : mT (w.1 69)) {n0 : Nat} (hn0 : n0 ≤ 1000) (hR : sR (abM (w.1 69)) + n0 ≤ 1000000) : jKp G 9 yX7_goesFor cX7_goesFor 3 none [.ref 68, .int (nI n0)] w none (fun w' => abM (w'.1 69) = sGoN (abM (w.1 69)) n0 ∧ frG w w') := by
  refine jK_of (own := RX7) [some (.ref 68), some (.int (nI n0)), none] pn7 rfl (Nat.le_of_ble_eq_true rfl) rfl ?_
  refine J_iconst (v := 0) (pc' := 1) dX7_goesFor_0 (by decide) rfl ?_
  refine J_istore_n (pc' := 2) dX7_goesFor_1 (Nat.le_of_ble_eq_true rfl) (jst2 rfl rfl) rfl ?_
  exact l_mgf hE hI hT hn0 hR n0 0 (by omega) w rfl (frG.rf w)
set_option maxHeartbeats 4000000 in
set_option maxRecDepth 100000 in
theorem b_X7_rounds {G : jG} {w : jWd} (hV : MInv w) (hI : sInv (abM (w.1 69))) (hE : goEq) {n : Int32} : jKp G 10 yX7_rounds cX7_rounds 2 (some .int) [.ref 68, .int n] w (some (.int (sq_rounds (abM (w.1 69)) (abM (w.1 70)) (restM w) n).1)) (fun w' => RQ w w' (sq_rounds (abM (w.1 69)) (abM (w.1 70)) (restM w) n).2) := by
  have hR2 : w.1 69 0 = nI (sR (abM (w.1 69))) := hI.2.2.1.1
  have hT := hV.1
  refine jK_of (own := RX7) [some (.ref 68), some (.int n)] pn7 rfl (Nat.le_of_ble_eq_true rfl) rfl ?_
  refine J_iload_n (pc' := 1) dX7_rounds_0 rfl rfl ?_
  refine J_iconst (v := 1) (pc' := 2) dX7_rounds_1 (by decide) rfl ?_
  refine J_bipush (v := 60) (pc' := 4) dX7_rounds_2 (by decide) rfl ?_
  refine J_S3v (pc' := 7) dX7_rounds_4 lk_7_61 cd_X7_in (k_X7_in) (jroom_of rfl) (Nat.le_of_ble_eq_true rfl) rfl ?_
  refine J_if_ne 17 (pc' := 10) dX7_rounds_7 (by decide) rfl (fun h_7 => ?_) (fun h_7 => ?_)
  · obtain ⟨n0, hn0, hn1, rfl⟩ := nI_wi (a := 1) (b := 60) (by decide) (by decide) (jb_n h_7)
    have hq := rnd_iff hI (n := n0) (by omega)
    refine J_aload_n (pc' := 18) dX7_rounds_17 rfl rfl ?_
    refine J_getR (pc' := 21) dX7_rounds_18 fl_7_9 (ly_68) (l84_68) rfl rfl ?_
    refine J_iconst (v := 0) (pc' := 22) dX7_rounds_21 (by decide) rfl ?_
    refine J_iald 0 (pc' := 23) dX7_rounds_22 (ly_69) (l84_69) nIc_0 (by decide) (by decide) rfl ?_
    rw [hR2]
    refine J_iload_n (pc' := 24) dX7_rounds_23 rfl rfl ?_
    refine J_iadd (pc' := 25) dX7_rounds_24 rfl ?_
    rw [nI_add]
    refine J_sipush (v := 9999) (pc' := 28) dX7_rounds_25 (by decide) rfl ?_
    refine J_icmp_le 38 (pc' := 31) dX7_rounds_28 (by decide) rfl (fun h_28 => ?_) (fun h_28 => ?_)
    · refine J_aload_n (pc' := 39) dX7_rounds_38 rfl rfl ?_
      refine J_iload_n (pc' := 40) dX7_rounds_39 rfl rfl ?_
      refine J_V1w (pc' := 43) dX7_rounds_40 lk_7_215 cd_X7_goesFor (k_mgf hE hI hT (by omega) (by have := hq.1.mp h_28; omega)) (ly_68) (l84_68) rfl rfl (jroom_of rfl) (Nat.le_of_ble_eq_true rfl) rfl (fun w40 hw40 => ?_)
      have hIg := (inv_goN hI n0 (by have := hq.1.mp h_28; omega)).1
      refine J_aload_n (pc' := 44) dX7_rounds_43 rfl rfl ?_
      refine J_V0v (pc' := 47) dX7_rounds_44 lk_7_96 cd_X7_onOnes ((by have h := k_mon (G := G) (w := w40) (by rw [hw40.1]; exact hIg); rw [hw40.1] at h; exact h)) (ly_68) (l84_68) rfl rfl (jroom_of rfl) (Nat.le_of_ble_eq_true rfl) rfl ?_
      refine J_S1v (pc' := 50) dX7_rounds_47 lk_7_218 cd_X7_bits (k_mbits (sSet_lt2 hIg)) (jroom_of rfl) (Nat.le_of_ble_eq_true rfl) rfl ?_
      rw [mCnt hIg]
      exact J_iret dX7_rounds_50  (by unfold sq_rounds; rw [if_pos (show 1 ≤ nI n0 ∧ nI n0 ≤ 60 from jb_n h_7), if_pos (hq.2.mpr (hq.1.mp h_28)), nn_nI (by omega)]; exact ⟨rfl, mq_row hV hw40.2 hw40.1⟩)
    · refine J_aload_n (pc' := 32) dX7_rounds_31 rfl rfl ?_
      refine J_ldc (pc' := 34) dX7_rounds_32 kc_7_141 rfl ?_
      refine J_V1v (pc' := 37) dX7_rounds_34 lk_7_126 cd_X7_error (k_merr (k := 3) (by decide) (by decide)) (ly_68) (l84_68) rfl rfl (jroom_of rfl) (Nat.le_of_ble_eq_true rfl) rfl ?_
      exact J_iret dX7_rounds_37  (by unfold sq_rounds; rw [if_pos (show 1 ≤ nI n0 ∧ nI n0 ≤ 60 from jb_n h_7), if_neg (fun q => h_28 (hq.1.mpr (hq.2.mp q)))]; exact ⟨rfl, mq_err hV (by decide)⟩)
  · refine J_aload_n (pc' := 11) dX7_rounds_10 rfl rfl ?_
    refine J_ldc (pc' := 13) dX7_rounds_11 kc_7_125 rfl ?_
    refine J_V1v (pc' := 16) dX7_rounds_13 lk_7_126 cd_X7_error (k_merr (k := 1) (by decide) (by decide)) (ly_68) (l84_68) rfl rfl (jroom_of rfl) (Nat.le_of_ble_eq_true rfl) rfl ?_
    exact J_iret dX7_rounds_16  (by unfold sq_rounds; rw [if_neg (show ¬ (1 ≤ n ∧ n ≤ 60) from fun q => by first | exact jb_0.mp h_7 q)]; exact ⟨rfl, mq_err hV (by decide)⟩)
set_option maxHeartbeats 4000000 in
set_option maxRecDepth 100000 in
theorem k_mdraw {G : jG} {w : jWd} : jKd G 0 yX7_draw cX7_draw 1 (some .int) [.ref 68] w (some (.int (sDraw (w.1 69 1)))) (jset w 69 1 (sZ (w.1 69 1))) := by
  refine jK_of (own := RX7) [some (.ref 68)] pn7 rfl (Nat.le_of_ble_eq_true rfl) rfl ?_
  refine J_aload_n (pc' := 1) dX7_draw_0 rfl rfl ?_
  refine J_getR (pc' := 4) dX7_draw_1 fl_7_9 (ly_68) (l84_68) rfl rfl ?_
  refine J_iconst (v := 1) (pc' := 5) dX7_draw_4 (by decide) rfl ?_
  refine J_aload_n (pc' := 6) dX7_draw_5 rfl rfl ?_
  refine J_getR (pc' := 9) dX7_draw_6 fl_7_9 (ly_68) (l84_68) rfl rfl ?_
  refine J_iconst (v := 1) (pc' := 10) dX7_draw_9 (by decide) rfl ?_
  refine J_iald 1 (pc' := 11) dX7_draw_10 (ly_69) (l84_69) nIc_1 (by decide) (by decide) rfl ?_
  refine J_ldc (pc' := 13) dX7_draw_11 kc_7_221 rfl ?_
  refine J_imul (pc' := 14) dX7_draw_13 rfl ?_
  refine J_sipush (v := 12345) (pc' := 17) dX7_draw_14 (by decide) rfl ?_
  refine J_iadd (pc' := 18) dX7_draw_17 rfl ?_
  refine J_iast 1 (pc' := 19) dX7_draw_18 (ly_69) (l84_69) nIc_1 (by decide) (by decide) rfl ?_
  refine J_aload_n (pc' := 20) dX7_draw_19 rfl rfl ?_
  refine J_getR (pc' := 23) dX7_draw_20 fl_7_9 (ly_68) (l84_68) rfl rfl ?_
  refine J_iconst (v := 1) (pc' := 24) dX7_draw_23 (by decide) rfl ?_
  refine J_iald 1 (pc' := 25) dX7_draw_24 (ly_69) (l84_69) nIc_1 (by decide) (by decide) rfl ?_
  rw [show (jset w 69 1 (w.1 69 1 * 1103515245 + 12345)).1 69 1 = sZ (w.1 69 1) from by rw [jset_1, if_pos rfl, if_pos rfl]; rfl]
  refine J_bipush (v := 8) (pc' := 27) dX7_draw_25 (by decide) rfl ?_
  refine J_iushr (pc' := 28) dX7_draw_27 rfl ?_
  exact J_iret dX7_draw_28  ⟨rfl, rfl⟩
set_option maxHeartbeats 4000000 in
set_option maxRecDepth 100000 in
theorem k_mdrn {G : jG} {w : jWd} (hE : goEq) (hI : sInv (abM (w.1 69))) (hT : mT (w.1 69)) : jKp G 9 yX7_drawn cX7_drawn 2 none [.ref 68] w none (fun w' => abM (w'.1 69) = sGo (sDrawn (abM (w.1 69))) ∧ frG w w') := by
  have hM : w.1 69 2 = nI (sM (abM (w.1 69))) := (sIM hI).1
  have hM8 := (sIM hI).2
  refine jK_of (own := RX7) [some (.ref 68), none] pn7 rfl (Nat.le_of_ble_eq_true rfl) rfl ?_
  refine J_aload_n (pc' := 1) dX7_drawn_0 rfl rfl ?_
  refine J_getR (pc' := 4) dX7_drawn_1 fl_7_9 (ly_68) (l84_68) rfl rfl ?_
  refine J_iconst (v := 2) (pc' := 5) dX7_drawn_4 (by decide) rfl ?_
  refine J_iald 2 (pc' := 6) dX7_drawn_5 (ly_69) (l84_69) nIc_2 (by decide) (by decide) rfl ?_
  rw [hM]
  refine J_if_le 44 (pc' := 9) dX7_drawn_6 (by decide) rfl (fun h_6 => ?_) (fun h_6 => ?_)
  · have h0 : sM (abM (w.1 69)) = 0 := by by_cases q : sM (abM (w.1 69)) = 0; exact q; exact absurd h_6 (nI_nle (Nat.pos_of_ne_zero q) (by omega))
    have hA : abM (w.1 69) = sDrawn (abM (w.1 69)) := (sDrawn_0 h0).symm
    have hfr := frG.rf w
    refine J_aload_n (pc' := 45) dX7_drawn_44 rfl rfl ?_
    refine J_V0w (pc' := 48) dX7_drawn_45 lk_7_212 cd_X7_goes (k_mgoE hE (by rw [hA]; exact (inv_drawn hI).1) (hfr.mt hT)) (ly_68) (l84_68) rfl rfl (jroom_of rfl) (Nat.le_of_ble_eq_true rfl) rfl (fun w45 hw45 => ?_)
    exact J_vret dX7_drawn_48  ⟨rfl, hw45.1.trans (congrArg sGo hA), hfr.tr hw45.2⟩
  · have h0 : 0 < sM (abM (w.1 69)) := Nat.pos_of_ne_zero (fun q => h_6 (by rw [q]; decide))
    have hz1 : w.1 69 1 = ((abM (w.1 69)) 6 5) := rfl
    have hk8 : (sDn ((abM (w.1 69)) 6 5) % sM (abM (w.1 69))) < 8 := by have := Nat.mod_lt (sDn ((abM (w.1 69)) 6 5)) h0; omega
    have hd := sDn_lt ((abM (w.1 69)) 6 5)
    have hd2 := sDn_lt (sZ ((abM (w.1 69)) 6 5))
    refine J_aload_n (pc' := 10) dX7_drawn_9 rfl rfl ?_
    refine J_V0v (pc' := 13) dX7_drawn_10 lk_7_222 cd_X7_draw (k_mdraw) (ly_68) (l84_68) rfl rfl (jroom_of rfl) (Nat.le_of_ble_eq_true rfl) rfl ?_
    rw [hz1, sDraw_eq]
    refine J_aload_n (pc' := 14) dX7_drawn_13 rfl rfl ?_
    refine J_getR (pc' := 17) dX7_drawn_14 fl_7_9 (ly_68) (l84_68) rfl rfl ?_
    refine J_iconst (v := 2) (pc' := 18) dX7_drawn_17 (by decide) rfl ?_
    refine J_iald 2 (pc' := 19) dX7_drawn_18 (ly_69) (l84_69) nIc_2 (by decide) (by decide) rfl ?_
    rw [show (jset w 69 1 (sZ ((abM (w.1 69)) 6 5))).1 69 2 = nI (sM (abM (w.1 69))) from by rw [jset_1, if_pos rfl, if_neg (by decide)]; exact hM]
    refine J_irem (pc' := 20) dX7_drawn_19 (nI_ne0 h0 (by omega)) rfl ?_
    rw [zrem (by omega) (by omega) h0]
    refine J_istore_n (pc' := 21) dX7_drawn_20 (Nat.le_of_ble_eq_true rfl) (jst1 rfl rfl) rfl ?_
    refine J_aload_n (pc' := 22) dX7_drawn_21 rfl rfl ?_
    refine J_iload_n (pc' := 23) dX7_drawn_22 rfl rfl ?_
    refine J_iconst (v := 4) (pc' := 24) dX7_drawn_23 (by decide) rfl ?_
    refine J_aload_n (pc' := 25) dX7_drawn_24 rfl rfl ?_
    refine J_V0v (pc' := 28) dX7_drawn_25 lk_7_222 cd_X7_draw (k_mdraw) (ly_68) (l84_68) rfl rfl (jroom_of rfl) (Nat.le_of_ble_eq_true rfl) rfl ?_
    rw [show (jset w 69 1 (sZ ((abM (w.1 69)) 6 5))).1 69 1 = sZ ((abM (w.1 69)) 6 5) from by rw [jset_1, if_pos rfl, if_pos rfl], sDraw_eq]
    refine J_bipush (v := 41) (pc' := 30) dX7_drawn_28 (by decide) rfl ?_
    refine J_irem (pc' := 31) dX7_drawn_30 (by decide) rfl ?_
    rw [show (41 : Int32) = nI 41 from by decide, zrem (by omega) (by decide) (by decide)]
    refine J_bipush (v := 20) (pc' := 33) dX7_drawn_31 (by decide) rfl ?_
    refine J_isub (pc' := 34) dX7_drawn_33 rfl ?_
    refine J_V30 (pc' := 37) dX7_drawn_34 lk_7_130 cd_X7_puts (k_mputs hk8 (c := 4) (by decide) nIc_4) (ly_68) (l84_68) rfl rfl (jroom_of rfl) (Nat.le_of_ble_eq_true rfl) rfl ?_
    refine J_aload_n (pc' := 38) dX7_drawn_37 rfl rfl ?_
    refine J_iload_n (pc' := 39) dX7_drawn_38 rfl rfl ?_
    refine J_iconst (v := 5) (pc' := 40) dX7_drawn_39 (by decide) rfl ?_
    refine J_iconst (v := 1) (pc' := 41) dX7_drawn_40 (by decide) rfl ?_
    refine J_V30 (pc' := 44) dX7_drawn_41 lk_7_130 cd_X7_puts (k_mputs hk8 (c := 5) (by decide) nIc_5) (ly_68) (l84_68) rfl rfl (jroom_of rfl) (Nat.le_of_ble_eq_true rfl) rfl ?_
    have hA : abM ((jset (jset (jset (jset w 69 1 (sZ ((abM (w.1 69)) 6 5))) 69 1 (sZ (sZ ((abM (w.1 69)) 6 5)))) 69 (8 + 6 * (sDn ((abM (w.1 69)) 6 5) % sM (abM (w.1 69))) + 4) (nI (sDn (sZ ((abM (w.1 69)) 6 5)) % 41) - 20)) 69 (8 + 6 * (sDn ((abM (w.1 69)) 6 5) % sM (abM (w.1 69))) + 5) 1).1 69) = sDrawn (abM (w.1 69)) := by rw [ams5 hk8, ams4 hk8, amc1, amc1, sg1_2, sDrawn_p h0]
    have hfr := ((((frG.rf w).set (i := 1) (v := sZ ((abM (w.1 69)) 6 5)) (by omega)).set (i := 1) (v := sZ (sZ ((abM (w.1 69)) 6 5))) (by omega)).set (i := 8 + 6 * (sDn ((abM (w.1 69)) 6 5) % sM (abM (w.1 69))) + 4) (v := nI (sDn (sZ ((abM (w.1 69)) 6 5)) % 41) - 20) (by omega)).set (i := 8 + 6 * (sDn ((abM (w.1 69)) 6 5) % sM (abM (w.1 69))) + 5) (v := 1) (by omega)
    refine J_aload_n (pc' := 45) dX7_drawn_44 rfl rfl ?_
    refine J_V0w (pc' := 48) dX7_drawn_45 lk_7_212 cd_X7_goes (k_mgoE hE (by rw [hA]; exact (inv_drawn hI).1) (hfr.mt hT)) (ly_68) (l84_68) rfl rfl (jroom_of rfl) (Nat.le_of_ble_eq_true rfl) rfl (fun w45 hw45 => ?_)
    exact J_vret dX7_drawn_48  ⟨rfl, hw45.1.trans (congrArg sGo hA), hfr.tr hw45.2⟩
set_option maxHeartbeats 4000000 in
set_option maxRecDepth 100000 in
theorem l_mlo {G : jG} {w : jWd} (hV : MInv w) (hI : sInv (abM (w.1 69))) (hE : goEq) {n0 : Nat} (hn0 : n0 ≤ 30) (hR : sR (abM (w.1 69)) + n0 ≤ 9999) {Q : Option Value → jWd → Prop} (hQ : ∀ w2, abM (w2.1 69) = sLoN (abM (w.1 69)) n0 → frG w w2 → Q (some (.int (nI (sCnt (sLoN (abM (w.1 69)) n0) (sM (sLoN (abM (w.1 69)) n0)))))) w2) : ∀ n j : Nat, j + n = n0 → ∀ (w2 : jWd) (_ : abM (w2.1 69) = sLoN (abM (w.1 69)) j) (_ : frG w w2), J G (jM G 10 RX7 cX7_loose 3 (some .int) (Q)) w2 40 [some (.ref 68), some (.int (nI n0)), some (.int (nI j))] [] := by
  intro n
  induction n with
  | zero =>
    intro j hj w2 e2 fr
    refine J_iload_n (pc' := 41) dX7_loose_40 rfl rfl ?_
    refine J_iload_n (pc' := 42) dX7_loose_41 rfl rfl ?_
    refine J_icmp_ge 55 (pc' := 45) dX7_loose_42 (by decide) rfl (fun h_42 => ?_) (fun h_42 => absurd (nI_le (by omega) (by omega)) h_42)
    have ej : j = n0 := by omega
    rw [ej] at e2
    refine J_aload_n (pc' := 56) dX7_loose_55 rfl rfl ?_
    refine J_V0v (pc' := 59) dX7_loose_56 lk_7_96 cd_X7_onOnes ((by have h := k_mon (G := G) (w := w2) (by rw [e2]; exact (inv_loN hI n0 (by omega)).1); rw [e2] at h; exact h)) (ly_68) (l84_68) rfl rfl (jroom_of rfl) (Nat.le_of_ble_eq_true rfl) rfl ?_
    refine J_S1v (pc' := 62) dX7_loose_59 lk_7_218 cd_X7_bits (k_mbits (sSet_lt2 (inv_loN hI n0 (by omega)).1)) (jroom_of rfl) (Nat.le_of_ble_eq_true rfl) rfl ?_
    rw [mCnt (inv_loN hI n0 (by omega)).1]
    exact J_iret dX7_loose_62  (hQ w2 e2 fr)
  | succ n ih =>
    intro j hj w2 e2 fr
    refine J_iload_n (pc' := 41) dX7_loose_40 rfl rfl ?_
    refine J_iload_n (pc' := 42) dX7_loose_41 rfl rfl ?_
    refine J_icmp_ge 55 (pc' := 45) dX7_loose_42 (by decide) rfl (fun h_42 => absurd h_42 (nI_ge (by omega) (by omega))) (fun h_42 => ?_)
    refine J_aload_n (pc' := 46) dX7_loose_45 rfl rfl ?_
    refine J_V0w (pc' := 49) dX7_loose_46 lk_7_225 cd_X7_drawn (k_mdrn hE (by rw [e2]; exact (inv_loN hI j (by omega)).1) (fr.mt hV.1)) (ly_68) (l84_68) rfl rfl (jroom_of rfl) (Nat.le_of_ble_eq_true rfl) rfl (fun w46 hw46 => ?_)
    refine J_iinc (pc' := 52) dX7_loose_49 rfl (Nat.le_of_ble_eq_true rfl) (jst2 rfl rfl) rfl ?_
    refine J_goto (pc' := 0) 40 dX7_loose_52 (by decide) ?_
    have h2 := ih (j + 1) (by omega) w46 (by rw [hw46.1, e2]; rfl) (fr.tr hw46.2)
    rw [← z1 j] at h2
    exact h2
set_option maxHeartbeats 4000000 in
set_option maxRecDepth 100000 in
theorem b_X7_loose {G : jG} {w : jWd} (hV : MInv w) (hI : sInv (abM (w.1 69))) (hE : goEq) {n : Int32} : jKp G 10 yX7_loose cX7_loose 3 (some .int) [.ref 68, .int n] w (some (.int (sq_loose (abM (w.1 69)) (abM (w.1 70)) (restM w) n).1)) (fun w' => RQ w w' (sq_loose (abM (w.1 69)) (abM (w.1 70)) (restM w) n).2) := by
  have hR2 : w.1 69 0 = nI (sR (abM (w.1 69))) := hI.2.2.1.1
  have hT := hV.1
  refine jK_of (own := RX7) [some (.ref 68), some (.int n), none] pn7 rfl (Nat.le_of_ble_eq_true rfl) rfl ?_
  refine J_iload_n (pc' := 1) dX7_loose_0 rfl rfl ?_
  refine J_iconst (v := 1) (pc' := 2) dX7_loose_1 (by decide) rfl ?_
  refine J_bipush (v := 30) (pc' := 4) dX7_loose_2 (by decide) rfl ?_
  refine J_S3v (pc' := 7) dX7_loose_4 lk_7_61 cd_X7_in (k_X7_in) (jroom_of rfl) (Nat.le_of_ble_eq_true rfl) rfl ?_
  refine J_if_ne 17 (pc' := 10) dX7_loose_7 (by decide) rfl (fun h_7 => ?_) (fun h_7 => ?_)
  · obtain ⟨n0, hn0, hn1, rfl⟩ := nI_wi (a := 1) (b := 30) (by decide) (by decide) (jb_n h_7)
    have hq := rnd_iff hI (n := n0) (by omega)
    refine J_aload_n (pc' := 18) dX7_loose_17 rfl rfl ?_
    refine J_getR (pc' := 21) dX7_loose_18 fl_7_9 (ly_68) (l84_68) rfl rfl ?_
    refine J_iconst (v := 0) (pc' := 22) dX7_loose_21 (by decide) rfl ?_
    refine J_iald 0 (pc' := 23) dX7_loose_22 (ly_69) (l84_69) nIc_0 (by decide) (by decide) rfl ?_
    rw [hR2]
    refine J_iload_n (pc' := 24) dX7_loose_23 rfl rfl ?_
    refine J_iadd (pc' := 25) dX7_loose_24 rfl ?_
    rw [nI_add]
    refine J_sipush (v := 9999) (pc' := 28) dX7_loose_25 (by decide) rfl ?_
    refine J_icmp_le 38 (pc' := 31) dX7_loose_28 (by decide) rfl (fun h_28 => ?_) (fun h_28 => ?_)
    · refine J_iconst (v := 0) (pc' := 39) dX7_loose_38 (by decide) rfl ?_
      refine J_istore_n (pc' := 40) dX7_loose_39 (Nat.le_of_ble_eq_true rfl) (jst2 rfl rfl) rfl ?_
      refine l_mlo hV hI hE hn1 (hq.1.mp h_28) (fun w2 q1 q2 => ?_) n0 0 (by omega) w rfl (frG.rf w)
      unfold sq_loose
      rw [if_pos (show 1 ≤ nI n0 ∧ nI n0 ≤ 30 from jb_n h_7), if_pos (hq.2.mpr (hq.1.mp h_28)), nn_nI (by omega)]
      exact ⟨rfl, mq_row hV q2 q1⟩
    · refine J_aload_n (pc' := 32) dX7_loose_31 rfl rfl ?_
      refine J_ldc (pc' := 34) dX7_loose_32 kc_7_141 rfl ?_
      refine J_V1v (pc' := 37) dX7_loose_34 lk_7_126 cd_X7_error (k_merr (k := 3) (by decide) (by decide)) (ly_68) (l84_68) rfl rfl (jroom_of rfl) (Nat.le_of_ble_eq_true rfl) rfl ?_
      exact J_iret dX7_loose_37  (by unfold sq_loose; rw [if_pos (show 1 ≤ nI n0 ∧ nI n0 ≤ 30 from jb_n h_7), if_neg (fun q => h_28 (hq.1.mpr (hq.2.mp q)))]; exact ⟨rfl, mq_err hV (by decide)⟩)
  · refine J_aload_n (pc' := 11) dX7_loose_10 rfl rfl ?_
    refine J_ldc (pc' := 13) dX7_loose_11 kc_7_125 rfl ?_
    refine J_V1v (pc' := 16) dX7_loose_13 lk_7_126 cd_X7_error (k_merr (k := 1) (by decide) (by decide)) (ly_68) (l84_68) rfl rfl (jroom_of rfl) (Nat.le_of_ble_eq_true rfl) rfl ?_
    exact J_iret dX7_loose_16  (by unfold sq_loose; rw [if_neg (show ¬ (1 ≤ n ∧ n ≤ 30) from fun q => by first | exact jb_0.mp h_7 q)]; exact ⟨rfl, mq_err hV (by decide)⟩)
