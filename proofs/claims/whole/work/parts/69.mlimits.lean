/-! ===== the reference: limits, odds ===== -/
/-! ===== the reference: limits, odds ===== -/
/-- whether all that were on stay on, over k rounds -/
def mSty (σ : sg) : Nat → Bool
  | 0 => true
  | k + 1 => mSty σ k && decide ((nI (sSet σ) &&& (nI (sSet (sGoN σ (k + 1))) ^^^ (-1))) = 0)
/-- the least limit, from v on, by which all stay -/
def mLf (σ : sg) (n : Nat) : Nat → Nat → Int32
  | 0, _ => -1
  | f + 1, v => if mSty (sg1 σ 6 3 (nI v)) n = true then nI v else mLf σ n f (v + 1)
theorem mSty_no {σ : sg} {j : Nat} (h : mSty σ j = false) : ∀ n, mSty σ (j + n) = false
  | 0 => h
  | n + 1 => by rw [← Nat.add_assoc, mSty, mSty_no h n]; rfl
set_option maxHeartbeats 4000000 in
set_option maxRecDepth 100000 in
theorem l_mds {G : jG} {w0 w : jWd} (hE : goEq) (hI0 : sInv (abM (w0.1 69))) (hT0 : mT (w0.1 69)) (t0 : mTh w0 w) (hI : sInv (abM (w.1 69))) (hT : mT (w.1 69)) {n0 : Nat} (hn0 : n0 ≤ 1000) (hR : sR (abM (w.1 69)) + n0 ≤ 1000000) {Q : Option Value → jWd → Prop} (hK : ∀ w2, mTh w0 w2 → J G (jM G 9 RX7 cX7_doStay 5 (some .boolean) (Q)) w2 47 [some (.ref 68), some (.int (nI n0)), some (.int (nI (sSet (abM (w.1 69))))), some (.int (jb (mSty (abM (w.1 69)) n0 = true))), none] []) : ∀ n j : Nat, j + n = n0 → ∀ (w2 : jWd) (_ : abM (w2.1 69) = sGoN (abM (w.1 69)) j) (_ : mTh w0 w2) (_ : mT (w2.1 69)), J G (jM G 9 RX7 cX7_doStay 5 (some .boolean) (Q)) w2 10 [some (.ref 68), some (.int (nI n0)), some (.int (nI (sSet (abM (w.1 69))))), some (.int (jb (mSty (abM (w.1 69)) j = true))), some (.int (nI j))] [] := by
  intro n
  induction n with
  | zero =>
    intro j hj w2 e2 t2 mt2
    refine J_iload (pc' := 12) dX7_doStay_10 rfl rfl ?_
    refine J_iload_n (pc' := 13) dX7_doStay_12 rfl rfl ?_
    refine J_icmp_ge 47 (pc' := 16) dX7_doStay_13 (by decide) rfl (fun h_13 => ?_) (fun h_13 => absurd (nI_le (by omega) (by omega)) h_13)
    obtain rfl : j = n0 := by omega
    exact J_mask [true, true, true, true, false] (hK w2 t2)
  | succ n ih =>
    intro j hj w2 e2 t2 mt2
    refine J_iload (pc' := 12) dX7_doStay_10 rfl rfl ?_
    refine J_iload_n (pc' := 13) dX7_doStay_12 rfl rfl ?_
    refine J_icmp_ge 47 (pc' := 16) dX7_doStay_13 (by decide) rfl (fun h_13 => absurd h_13 (nI_ge (by omega) (by omega))) (fun h_13 => ?_)
    refine J_iload_n (pc' := 17) dX7_doStay_16 rfl rfl ?_
    refine J_if_eq 47 (pc' := 20) dX7_doStay_17 (by decide) rfl (fun h_17 => ?_) (fun h_17 => ?_)
    · have hno : mSty (abM (w.1 69)) n0 = false := by have := mSty_no (σ := (abM (w.1 69))) (j := j) (by have q := jb_0.mp h_17; cases hq : mSty (abM (w.1 69)) j; rfl; exact absurd hq q) (n + 1); rw [show j + (n + 1) = n0 by omega] at this; exact this
      have ej : jb (mSty (abM (w.1 69)) j = true) = jb (mSty (abM (w.1 69)) n0 = true) := by rw [jb_f (jb_0.mp h_17), jb_f (by rw [hno]; exact fun q => Bool.noConfusion q)]
      rw [ej]
      exact J_mask [true, true, true, true, false] (hK w2 t2)
    · refine J_aload_n (pc' := 21) dX7_doStay_20 rfl rfl ?_
      refine J_V0w (pc' := 24) dX7_doStay_21 lk_7_212 cd_X7_goes (k_mgoE hE (by rw [e2]; exact (inv_goN hI j (by omega)).1) mt2) (ly_68) (l84_68) rfl rfl (jroom_of rfl) (Nat.le_of_ble_eq_true rfl) rfl (fun w21 hw21 => ?_)
      have e21 : abM (w21.1 69) = sGoN (abM (w.1 69)) (j + 1) := by rw [hw21.1, e2]; rfl
      refine J_iload_n (pc' := 25) dX7_doStay_24 rfl rfl ?_
      refine J_aload_n (pc' := 26) dX7_doStay_25 rfl rfl ?_
      refine J_V0v (pc' := 29) dX7_doStay_26 lk_7_96 cd_X7_onOnes ((by have h := k_mon (G := G) (w := w21) (by rw [e21]; exact (inv_goN hI (j + 1) (by omega)).1); rw [e21] at h; exact h)) (ly_68) (l84_68) rfl rfl (jroom_of rfl) (Nat.le_of_ble_eq_true rfl) rfl ?_
      refine J_iconst (v := -1) (pc' := 30) dX7_doStay_29 (by decide) rfl ?_
      refine J_ixor (pc' := 31) dX7_doStay_30 rfl ?_
      refine J_iand (pc' := 32) dX7_doStay_31 rfl ?_
      refine J_if_ne 39 (pc' := 35) dX7_doStay_32 (by decide) rfl (fun h_32 => ?_) (fun h_32 => ?_)
      · refine J_iconst (v := 0) (pc' := 40) dX7_doStay_39 (by decide) rfl ?_
        refine J_istore_n (pc' := 41) dX7_doStay_40 (Nat.le_of_ble_eq_true rfl) (jst3 rfl rfl) rfl ?_
        refine J_iinc (pc' := 44) dX7_doStay_41 rfl (Nat.le_of_ble_eq_true rfl) (jst4 rfl rfl) rfl ?_
        refine J_goto (pc' := 0) 10 dX7_doStay_44 (by decide) ?_
        have ej : (0 : Int32) = jb (mSty (abM (w.1 69)) (j + 1) = true) := (jb_f (by rw [mSty, jb_n h_17, Bool.true_and]; exact fun q => h_32 (of_decide_eq_true q))).symm
        have h2 := ih (j + 1) (by omega) w21 e21 (t2.g hw21.2) (hw21.2.mt mt2)
        rw [← z1 j, ← ej] at h2
        exact h2
      · refine J_iconst (v := 1) (pc' := 36) dX7_doStay_35 (by decide) rfl ?_
        refine J_goto (pc' := 0) 40 dX7_doStay_36 (by decide) ?_
        refine J_istore_n (pc' := 41) dX7_doStay_40 (Nat.le_of_ble_eq_true rfl) (jst3 rfl rfl) rfl ?_
        refine J_iinc (pc' := 44) dX7_doStay_41 rfl (Nat.le_of_ble_eq_true rfl) (jst4 rfl rfl) rfl ?_
        refine J_goto (pc' := 0) 10 dX7_doStay_44 (by decide) ?_
        have ej : (1 : Int32) = jb (mSty (abM (w.1 69)) (j + 1) = true) := (jb_t (by rw [mSty, jb_n h_17]; exact decide_eq_true (by first | exact h_32 | exact Decidable.not_not.mp h_32))).symm
        have h2 := ih (j + 1) (by omega) w21 e21 (t2.g hw21.2) (hw21.2.mt mt2)
        rw [← z1 j, ← ej] at h2
        exact h2
set_option maxHeartbeats 4000000 in
set_option maxRecDepth 100000 in
theorem k_mds {G : jG} {w0 w : jWd} (hE : goEq) (hI0 : sInv (abM (w0.1 69))) (hT0 : mT (w0.1 69)) (t0 : mTh w0 w) (hI : sInv (abM (w.1 69))) (hT : mT (w.1 69)) {n0 : Nat} (hn0 : n0 ≤ 1000) (hR : sR (abM (w.1 69)) + n0 ≤ 1000000) : jKp G 9 yX7_doStay cX7_doStay 5 (some .boolean) [.ref 68, .int (nI n0)] w (some (.int (jb (mSty (abM (w.1 69)) n0 = true)))) (fun w' => mBk w0 w') := by
  refine jK_of (own := RX7) [some (.ref 68), some (.int (nI n0)), none, none, none] pn7 rfl (Nat.le_of_ble_eq_true rfl) rfl ?_
  refine J_aload_n (pc' := 1) dX7_doStay_0 rfl rfl ?_
  refine J_V0v (pc' := 4) dX7_doStay_1 lk_7_96 cd_X7_onOnes (k_mon hI) (ly_68) (l84_68) rfl rfl (jroom_of rfl) (Nat.le_of_ble_eq_true rfl) rfl ?_
  refine J_istore_n (pc' := 5) dX7_doStay_4 (Nat.le_of_ble_eq_true rfl) (jst2 rfl rfl) rfl ?_
  refine J_iconst (v := 1) (pc' := 6) dX7_doStay_5 (by decide) rfl ?_
  refine J_istore_n (pc' := 7) dX7_doStay_6 (Nat.le_of_ble_eq_true rfl) (jst3 rfl rfl) rfl ?_
  refine J_iconst (v := 0) (pc' := 8) dX7_doStay_7 (by decide) rfl ?_
  refine J_istore (pc' := 10) dX7_doStay_8 (Nat.le_of_ble_eq_true rfl) (jst4 rfl rfl) rfl ?_
  have h2 := fun (Q : Option Value → jWd → Prop) hK => l_mds (G := G) hE hI0 hT0 t0 hI hT hn0 hR (Q := Q) hK n0 0 (by omega) w rfl t0 hT
  rw [show jb (mSty (abM (w.1 69)) 0 = true) = (1 : Int32) from jb_t rfl] at h2
  refine h2 _ (fun w2 t2 => ?_)
  refine J_aload_n (pc' := 48) dX7_doStay_47 rfl rfl ?_
  refine J_V0w (pc' := 51) dX7_doStay_48 lk_7_245 cd_X7_putsBack (k_mback) (ly_68) (l84_68) rfl rfl (jroom_of rfl) (Nat.le_of_ble_eq_true rfl) rfl (fun w48 hw48 => ?_)
  refine J_iload_n (pc' := 52) dX7_doStay_51 rfl rfl ?_
  exact J_zret dX7_doStay_52 (jb_b _) ⟨rfl, mTh.back hI0 hT0 t2 hw48⟩
set_option maxHeartbeats 4000000 in
set_option maxRecDepth 100000 in
theorem l_mlf {G : jG} {w : jWd} (hV : MInv w) (hI : sInv (abM (w.1 69))) (hE : goEq) (hR : sR (abM (w.1 69)) ≤ 9999) {n0 : Nat} (hn0 : n0 ≤ 40) {Q : Option Value → jWd → Prop} (hQ1 : ∀ w2, mBk w w2 → ∀ v, v ≤ 99 → mLf (abM (w.1 69)) n0 100 0 = nI v → Q (some (.int (nI v))) w2) (hQ2 : ∀ w2, mBk w w2 → mLf (abM (w.1 69)) n0 100 0 = -1 → Q (some (.int (sErr 2))) (jset w2 72 2 (w2.1 72 2 + 1))) : ∀ n j : Nat, j + n = 100 → ∀ (w2 : jWd) (_ : mBk w w2) (_ : mLf (abM (w.1 69)) n0 100 0 = mLf (abM (w.1 69)) n0 n j), J G (jM G 10 RX7 cX7_limitFor 3 (some .int) (Q)) w2 23 [some (.ref 68), some (.int (nI n0)), some (.int (nI j))] [] := by
  intro n
  induction n with
  | zero =>
    intro j hj w2 b2 hr
    refine J_iload_n (pc' := 24) dX7_limitFor_23 rfl rfl ?_
    refine J_bipush (v := 99) (pc' := 26) dX7_limitFor_24 (by decide) rfl ?_
    refine J_icmp_gt 52 (pc' := 29) dX7_limitFor_26 (by decide) rfl (fun h_26 => ?_) (fun h_26 => absurd (by rw [show (99 : Int32) = nI 99 from by decide]; exact nI_lt (by omega) (by omega)) h_26)
    refine J_aload_n (pc' := 53) dX7_limitFor_52 rfl rfl ?_
    refine J_ldc (pc' := 55) dX7_limitFor_53 kc_7_248 rfl ?_
    refine J_V1v (pc' := 58) dX7_limitFor_55 lk_7_126 cd_X7_error (k_merr (k := 2) (by decide) (by decide)) (ly_68) (l84_68) rfl rfl (jroom_of rfl) (Nat.le_of_ble_eq_true rfl) rfl ?_
    exact J_iret dX7_limitFor_58  (hQ2 w2 b2 hr)
  | succ n ih =>
    intro j hj w2 b2 hr
    have eσ : abM ((jset w2 69 4 (nI j)).1 69) = sg1 (abM (w.1 69)) 6 3 (nI j) := by rw [amc4, b2.2.1]
    have hIj : sInv (sg1 (abM (w.1 69)) 6 3 (nI j)) := inv_63 hI (by rw [nI_toInt (by omega)]; omega)
    have hRj : sR (sg1 (abM (w.1 69)) 6 3 (nI j)) = sR (abM (w.1 69)) := by unfold sR; rw [sg1_k (by decide)]
    refine J_iload_n (pc' := 24) dX7_limitFor_23 rfl rfl ?_
    refine J_bipush (v := 99) (pc' := 26) dX7_limitFor_24 (by decide) rfl ?_
    refine J_icmp_gt 52 (pc' := 29) dX7_limitFor_26 (by decide) rfl (fun h_26 => absurd h_26 (Int32.not_lt.mpr (by rw [show (99 : Int32) = nI 99 from by decide]; exact nI_le (by omega) (by omega)))) (fun h_26 => ?_)
    refine J_aload_n (pc' := 30) dX7_limitFor_29 rfl rfl ?_
    refine J_getR (pc' := 33) dX7_limitFor_30 fl_7_9 (ly_68) (l84_68) rfl rfl ?_
    refine J_iconst (v := 4) (pc' := 34) dX7_limitFor_33 (by decide) rfl ?_
    refine J_iload_n (pc' := 35) dX7_limitFor_34 rfl rfl ?_
    refine J_iast 4 (pc' := 36) dX7_limitFor_35 (ly_69) (l84_69) nIc_4 (by decide) (by decide) rfl ?_
    refine J_aload_n (pc' := 37) dX7_limitFor_36 rfl rfl ?_
    refine J_iload_n (pc' := 38) dX7_limitFor_37 rfl rfl ?_
    refine J_V1p (pc' := 41) dX7_limitFor_38 lk_7_249 cd_X7_doStay (k_mds hE hI hV.1 (b2.1.set (i := 4) (v := nI j)) (by rw [eσ]; exact hIj) ((((frG.rf w2).set (i := 4) (v := nI j) (by omega)).mt b2.2.2)) (n0 := n0) (by omega) (by rw [eσ, hRj]; omega)) (ly_68) (l84_68) rfl rfl (jroom_of rfl) (Nat.le_of_ble_eq_true rfl) rfl (fun w38 hw38 => ?_)
    refine J_if_eq 46 (pc' := 44) dX7_limitFor_41 (by decide) rfl (fun h_41 => ?_) (fun h_41 => ?_)
    · refine J_iinc (pc' := 49) dX7_limitFor_46 rfl (Nat.le_of_ble_eq_true rfl) (jst2 rfl rfl) rfl ?_
      refine J_goto (pc' := 0) 23 dX7_limitFor_49 (by decide) ?_
      have h2 := ih (j + 1) (by omega) w38 hw38 (hr.trans (if_neg (by rw [← eσ]; exact jb_0.mp h_41)))
      rw [← z1 j] at h2
      exact h2
    · refine J_iload_n (pc' := 45) dX7_limitFor_44 rfl rfl ?_
      exact J_iret dX7_limitFor_45  (hQ1 w38 hw38 j (by omega) (hr.trans (if_pos (by rw [← eσ]; exact jb_n h_41))))
def sm_limitFor (s k r : sg) (n : Int32) : sQI := if 0 ≤ n ∧ n ≤ 40 then (if 0 ≤ mLf s (nn n) 100 0 then (mLf s (nn n) 100 0, s, k, r) else (sErr 2, s, k, sEr r 2)) else (sErr 1, s, k, sEr r 1)
set_option maxHeartbeats 4000000 in
set_option maxRecDepth 100000 in
theorem b_X7_limitFor {G : jG} {w : jWd} (hV : MInv w) (hI : sInv (abM (w.1 69))) (hE : goEq) (hR : sR (abM (w.1 69)) ≤ 9999) {n : Int32} : jKp G 10 yX7_limitFor cX7_limitFor 3 (some .int) [.ref 68, .int n] w (some (.int (sm_limitFor (abM (w.1 69)) (abM (w.1 70)) (restM w) n).1)) (fun w' => RQ w w' (sm_limitFor (abM (w.1 69)) (abM (w.1 70)) (restM w) n).2) := by
  have hT := hV.1
  refine jK_of (own := RX7) [some (.ref 68), some (.int n), none] pn7 rfl (Nat.le_of_ble_eq_true rfl) rfl ?_
  refine J_iload_n (pc' := 1) dX7_limitFor_0 rfl rfl ?_
  refine J_iconst (v := 0) (pc' := 2) dX7_limitFor_1 (by decide) rfl ?_
  refine J_bipush (v := 40) (pc' := 4) dX7_limitFor_2 (by decide) rfl ?_
  refine J_S3v (pc' := 7) dX7_limitFor_4 lk_7_61 cd_X7_in (k_X7_in) (jroom_of rfl) (Nat.le_of_ble_eq_true rfl) rfl ?_
  refine J_if_ne 17 (pc' := 10) dX7_limitFor_7 (by decide) rfl (fun h_7 => ?_) (fun h_7 => ?_)
  · obtain ⟨n0, hn1, rfl⟩ := rng0_ex (n := 40) (by omega) (show 0 ≤ n ∧ n ≤ nI 40 from jb_n h_7)
    refine J_aload_n (pc' := 18) dX7_limitFor_17 rfl rfl ?_
    refine J_V0w (pc' := 21) dX7_limitFor_18 lk_7_242 cd_X7_thinks (k_mthinks) (ly_68) (l84_68) rfl rfl (jroom_of rfl) (Nat.le_of_ble_eq_true rfl) rfl (fun w18 hw18 => ?_)
    obtain ⟨t18, e18⟩ := mTh.start hw18
    refine J_iconst (v := 0) (pc' := 22) dX7_limitFor_21 (by decide) rfl ?_
    refine J_istore_n (pc' := 23) dX7_limitFor_22 (Nat.le_of_ble_eq_true rfl) (jst2 rfl rfl) rfl ?_
    have hb : mBk w w18 := ⟨t18, by rw [e18], by rw [e18]; exact hT⟩
    refine l_mlf hV hI hE hR hn1 (fun w2 b2 v hv e => ?_) (fun w2 b2 e => ?_) 100 0 rfl w18 hb rfl
    · unfold sm_limitFor
      rw [if_pos (show 0 ≤ nI n0 ∧ nI n0 ≤ 40 from jb_n h_7), nn_nI (by omega), e, if_pos (by rw [nIc_0]; exact nI_le (by omega) (by omega))]
      exact ⟨rfl, mq_bk hV b2⟩
    · unfold sm_limitFor
      rw [if_pos (show 0 ≤ nI n0 ∧ nI n0 ≤ 40 from jb_n h_7), nn_nI (by omega), e, if_neg (by decide)]
      exact ⟨rfl, mq_err2 (mq_bk hV b2) (by decide)⟩
  · refine J_aload_n (pc' := 11) dX7_limitFor_10 rfl rfl ?_
    refine J_ldc (pc' := 13) dX7_limitFor_11 kc_7_125 rfl ?_
    refine J_V1v (pc' := 16) dX7_limitFor_13 lk_7_126 cd_X7_error (k_merr (k := 1) (by decide) (by decide)) (ly_68) (l84_68) rfl rfl (jroom_of rfl) (Nat.le_of_ble_eq_true rfl) rfl ?_
    exact J_iret dX7_limitFor_16  (by unfold sm_limitFor; rw [if_neg (show ¬ (0 ≤ n ∧ n ≤ 40) from fun q => by first | exact jb_0.mp (by first | exact h_7 | exact Decidable.not_not.mp h_7) q)]; exact ⟨rfl, mq_err hV (by decide)⟩)
