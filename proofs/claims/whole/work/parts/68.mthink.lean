/-! ===== the reference: what is only thought ===== -/
/-! ===== the reference: what is only thought ===== -/
/-- thought from a world: its row stands in before -/
def mTh (w0 w : jWd) : Prop := (∀ a, a ≠ 69 → a ≠ 71 → w.1 a = w0.1 a) ∧ (∀ a, a < 68 → w.2 a = w0.2 a) ∧ (∀ j, j < 382 → w.1 71 j = w0.1 69 j)
theorem mTh.g {w0 w w2 : jWd} (h : mTh w0 w) (g : frG w w2) : mTh w0 w2 := ⟨fun a q1 q2 => (g.1 a q1).trans (h.1 a q1 q2), fun a q => (g.2.1 a q).trans (h.2.1 a q), fun j q => (congrFun (g.1 71 (by decide)) j).trans (h.2.2 j q)⟩
theorem mTh.f {w0 w w2 : jWd} (h : mTh w0 w) (g : mF w w2) : mTh w0 w2 := ⟨fun a q1 q2 => by rw [g.1]; exact h.1 a q1 q2, fun a q => (g.2 a q).trans (h.2.1 a q), fun j q => by rw [g.1]; exact h.2.2 j q⟩
theorem mTh.set {w0 w : jWd} (h : mTh w0 w) {i : Nat} {v : Int32} : mTh w0 (jset w 69 i v) := ⟨fun a q1 q2 => by rw [jset_off q1]; exact h.1 a q1 q2, h.2.1, fun j q => by rw [jset_off (by decide)]; exact h.2.2 j q⟩
theorem mTh.start {w w1 : jWd} (h : cpP w 69 71 382 w1) : mTh w w1 ∧ w1.1 69 = w.1 69 := ⟨⟨fun a _ q2 => h.1 a q2, fun a _ => by rw [h.2.2], h.2.1⟩, h.1 69 (by decide)⟩
/-- the row is as it was -/
def mBk (w0 w : jWd) : Prop := mTh w0 w ∧ abM (w.1 69) = abM (w0.1 69) ∧ mT (w.1 69)
theorem mTh.back {w0 w w2 : jWd} (hI : sInv (abM (w0.1 69))) (hT : mT (w0.1 69)) (h : mTh w0 w) (c : cpP w 71 69 382 w2) : mBk w0 w2 :=
  have hr : ∀ j, j < 382 → w2.1 69 j = w0.1 69 j := fun j hj => (c.2.1 j hj).trans (h.2.2 j hj)
  ⟨⟨fun a q1 q2 => (c.1 a q1).trans (h.1 a q1 q2), fun a q => by rw [c.2.2]; exact h.2.1 a q, fun j q => by rw [c.1 71 (by decide)]; exact h.2.2 j q⟩, am_cp hI hr, mT_cp hI hr hT⟩
theorem mq_bk {w w2 : jWd} (hV : MInv w) (h : mBk w w2) : RQ w w2 (abM (w.1 69), abM (w.1 70), restM w) := ⟨h.2.1, by rw [h.1.1 70 (by decide) (by decide)], restM_congr (fun a q1 q2 q3 q4 => h.1.1 a q2 q4), ⟨h.2.2, by rw [h.1.1 70 (by decide) (by decide)]; exact hV.2⟩, fun a q => ⟨h.1.1 a (by omega) (by omega), h.1.2.1 a q⟩⟩
set_option maxHeartbeats 4000000 in
set_option maxRecDepth 100000 in
theorem b_X7_then {G : jG} {w : jWd} (hV : MInv w) (hI : sInv (abM (w.1 69))) (hE : goEq) (hR : sR (abM (w.1 69)) ≤ 9999) {n : Int32} {m : Int32} : jKp G 10 yX7_then cX7_then 4 (some .int) [.ref 68, .int n, .int m] w (some (.int (sq_then (abM (w.1 69)) (abM (w.1 70)) (restM w) n m).1)) (fun w' => RQ w w' (sq_then (abM (w.1 69)) (abM (w.1 70)) (restM w) n m).2) := by
  have hT := hV.1
  refine jK_of (own := RX7) [some (.ref 68), some (.int n), some (.int m), none] pn7 rfl (Nat.le_of_ble_eq_true rfl) rfl ?_
  refine J_iload_n (pc' := 1) dX7_then_0 rfl rfl ?_
  refine J_iconst (v := 0) (pc' := 2) dX7_then_1 (by decide) rfl ?_
  refine J_bipush (v := 60) (pc' := 4) dX7_then_2 (by decide) rfl ?_
  refine J_S3v (pc' := 7) dX7_then_4 lk_7_61 cd_X7_in (k_X7_in) (jroom_of rfl) (Nat.le_of_ble_eq_true rfl) rfl ?_
  refine J_if_eq 19 (pc' := 10) dX7_then_7 (by decide) rfl (fun h_7 => ?_) (fun h_7 => ?_)
  · refine J_aload_n (pc' := 20) dX7_then_19 rfl rfl ?_
    refine J_ldc (pc' := 22) dX7_then_20 kc_7_125 rfl ?_
    refine J_V1v (pc' := 25) dX7_then_22 lk_7_126 cd_X7_error (k_merr (k := 1) (by decide) (by decide)) (ly_68) (l84_68) rfl rfl (jroom_of rfl) (Nat.le_of_ble_eq_true rfl) rfl ?_
    exact J_iret dX7_then_25  (by unfold sq_then; rw [if_neg (show ¬ ((0 ≤ n ∧ n ≤ 60) ∧ (0 ≤ m ∧ m ≤ 2)) from fun q => by first | exact jb_0.mp h_7 q.1 | exact jb_0.mp h_16 q.2)]; exact ⟨rfl, mq_err hV (by decide)⟩)
  · refine J_iload_n (pc' := 11) dX7_then_10 rfl rfl ?_
    refine J_iconst (v := 0) (pc' := 12) dX7_then_11 (by decide) rfl ?_
    refine J_iconst (v := 2) (pc' := 13) dX7_then_12 (by decide) rfl ?_
    refine J_S3v (pc' := 16) dX7_then_13 lk_7_61 cd_X7_in (k_X7_in) (jroom_of rfl) (Nat.le_of_ble_eq_true rfl) rfl ?_
    refine J_if_ne 26 (pc' := 19) dX7_then_16 (by decide) rfl (fun h_16 => ?_) (fun h_16 => ?_)
    · obtain ⟨n0, hn1, rfl⟩ := rng0_ex (n := 60) (by omega) (show 0 ≤ n ∧ n ≤ nI 60 from jb_n h_7)
      refine J_aload_n (pc' := 27) dX7_then_26 rfl rfl ?_
      refine J_V0w (pc' := 30) dX7_then_27 lk_7_242 cd_X7_thinks (k_mthinks) (ly_68) (l84_68) rfl rfl (jroom_of rfl) (Nat.le_of_ble_eq_true rfl) rfl (fun w27 hw27 => ?_)
      obtain ⟨t27, e27⟩ := mTh.start hw27
      refine J_aload_n (pc' := 31) dX7_then_30 rfl rfl ?_
      refine J_iload_n (pc' := 32) dX7_then_31 rfl rfl ?_
      refine J_V1w (pc' := 35) dX7_then_32 lk_7_215 cd_X7_goesFor (k_mgf hE (by rw [e27]; exact hI) (by rw [e27]; exact hT) (n0 := n0) (by omega) (by rw [e27]; omega)) (ly_68) (l84_68) rfl rfl (jroom_of rfl) (Nat.le_of_ble_eq_true rfl) rfl (fun w32 hw32 => ?_)
      have t32 := t27.g hw32.2
      have e32 : abM (w32.1 69) = sGoN (abM (w.1 69)) n0 := by rw [hw32.1, e27]
      have hIg := (inv_goN hI n0 (by omega)).1
      refine J_iload_n (pc' := 36) dX7_then_35 rfl rfl ?_
      refine J_iconst (v := 2) (pc' := 37) dX7_then_36 (by decide) rfl ?_
      refine J_icmp_ne 49 (pc' := 40) dX7_then_37 (by decide) rfl (fun h_37 => ?_) (fun h_37 => ?_)
      · refine J_iload_n (pc' := 50) dX7_then_49 rfl rfl ?_
        refine J_iconst (v := 1) (pc' := 51) dX7_then_50 (by decide) rfl ?_
        refine J_icmp_ne 61 (pc' := 54) dX7_then_51 (by decide) rfl (fun h_51 => ?_) (fun h_51 => ?_)
        · refine J_aload_n (pc' := 62) dX7_then_61 rfl rfl ?_
          refine J_V0v (pc' := 65) dX7_then_62 lk_7_96 cd_X7_onOnes ((by have h := k_mon (G := G) (w := w32) (by rw [e32]; exact hIg); rw [e32] at h; exact h)) (ly_68) (l84_68) rfl rfl (jroom_of rfl) (Nat.le_of_ble_eq_true rfl) rfl ?_
          refine J_S1v (pc' := 68) dX7_then_65 lk_7_218 cd_X7_bits (k_mbits (sSet_lt2 hIg)) (jroom_of rfl) (Nat.le_of_ble_eq_true rfl) rfl ?_
          rw [mCnt hIg]
          refine J_istore_n (pc' := 69) dX7_then_68 (Nat.le_of_ble_eq_true rfl) (jst3 rfl rfl) rfl ?_
          refine J_aload_n (pc' := 70) dX7_then_69 rfl rfl ?_
          refine J_V0w (pc' := 73) dX7_then_70 lk_7_245 cd_X7_putsBack (k_mback) (ly_68) (l84_68) rfl rfl (jroom_of rfl) (Nat.le_of_ble_eq_true rfl) rfl (fun w70 hw70 => ?_)
          refine J_iload_n (pc' := 74) dX7_then_73 rfl rfl ?_
          exact J_iret dX7_then_74  (by unfold sq_then; rw [if_pos (show (0 ≤ nI n0 ∧ nI n0 ≤ 60) ∧ (0 ≤ m ∧ m ≤ 2) from ⟨jb_n h_7, jb_n h_16⟩), nn_nI (by omega)]; exact ⟨jv (by unfold sThn; first | (rw [if_neg (by rw [show m = 2 from by first | exact h_37 | exact Decidable.not_not.mp h_37]; decide), if_neg (by rw [show m = 2 from by first | exact h_37 | exact Decidable.not_not.mp h_37]; decide)]) | (rw [if_neg (by rw [show m = 1 from by first | exact h_51 | exact Decidable.not_not.mp h_51]; decide), if_pos (by first | exact h_51 | exact Decidable.not_not.mp h_51)]) | (rw [if_pos (show m = 0 from by obtain ⟨c, hc, rfl⟩ := rng0_ex (n := 2) (by omega) (show 0 ≤ m ∧ m ≤ nI 2 from jb_n h_16); have q1 : ¬ c = 1 := fun q => h_51 ((congrArg nI q).trans nIc_1.symm); have q2 : ¬ c = 2 := fun q => h_37 ((congrArg nI q).trans nIc_2.symm); have q0 : c = 0 := (by omega); exact (congrArg nI q0).trans nI_0)])), mq_bk hV (mTh.back hI hT t32 hw70)⟩)
        · refine J_aload_n (pc' := 55) dX7_then_54 rfl rfl ?_
          refine J_V0v (pc' := 58) dX7_then_55 lk_7_96 cd_X7_onOnes ((by have h := k_mon (G := G) (w := w32) (by rw [e32]; exact hIg); rw [e32] at h; exact h)) (ly_68) (l84_68) rfl rfl (jroom_of rfl) (Nat.le_of_ble_eq_true rfl) rfl ?_
          refine J_goto (pc' := 0) 68 dX7_then_58 (by decide) ?_
          refine J_istore_n (pc' := 69) dX7_then_68 (Nat.le_of_ble_eq_true rfl) (jst3 rfl rfl) rfl ?_
          refine J_aload_n (pc' := 70) dX7_then_69 rfl rfl ?_
          refine J_V0w (pc' := 73) dX7_then_70 lk_7_245 cd_X7_putsBack (k_mback) (ly_68) (l84_68) rfl rfl (jroom_of rfl) (Nat.le_of_ble_eq_true rfl) rfl (fun w70 hw70 => ?_)
          refine J_iload_n (pc' := 74) dX7_then_73 rfl rfl ?_
          exact J_iret dX7_then_74  (by unfold sq_then; rw [if_pos (show (0 ≤ nI n0 ∧ nI n0 ≤ 60) ∧ (0 ≤ m ∧ m ≤ 2) from ⟨jb_n h_7, jb_n h_16⟩), nn_nI (by omega)]; exact ⟨jv (by unfold sThn; first | (rw [if_neg (by rw [show m = 2 from by first | exact h_37 | exact Decidable.not_not.mp h_37]; decide), if_neg (by rw [show m = 2 from by first | exact h_37 | exact Decidable.not_not.mp h_37]; decide)]) | (rw [if_neg (by rw [show m = 1 from by first | exact h_51 | exact Decidable.not_not.mp h_51]; decide), if_pos (by first | exact h_51 | exact Decidable.not_not.mp h_51)]) | (rw [if_pos (show m = 0 from by obtain ⟨c, hc, rfl⟩ := rng0_ex (n := 2) (by omega) (show 0 ≤ m ∧ m ≤ nI 2 from jb_n h_16); have q1 : ¬ c = 1 := fun q => h_51 ((congrArg nI q).trans nIc_1.symm); have q2 : ¬ c = 2 := fun q => h_37 ((congrArg nI q).trans nIc_2.symm); have q0 : c = 0 := (by omega); exact (congrArg nI q0).trans nI_0)])), mq_bk hV (mTh.back hI hT t32 hw70)⟩)
      · refine J_aload_n (pc' := 41) dX7_then_40 rfl rfl ?_
        refine J_getR (pc' := 44) dX7_then_41 fl_7_9 (ly_68) (l84_68) rfl rfl ?_
        refine J_iconst (v := 5) (pc' := 45) dX7_then_44 (by decide) rfl ?_
        refine J_iald 5 (pc' := 46) dX7_then_45 (ly_69) (l84_69) nIc_5 (by decide) (by decide) rfl ?_
        rw [show w32.1 69 5 = sGoN (abM (w.1 69)) n0 6 4 from congrFun (congrFun e32 6) 4]
        refine J_goto (pc' := 0) 68 dX7_then_46 (by decide) ?_
        refine J_istore_n (pc' := 69) dX7_then_68 (Nat.le_of_ble_eq_true rfl) (jst3 rfl rfl) rfl ?_
        refine J_aload_n (pc' := 70) dX7_then_69 rfl rfl ?_
        refine J_V0w (pc' := 73) dX7_then_70 lk_7_245 cd_X7_putsBack (k_mback) (ly_68) (l84_68) rfl rfl (jroom_of rfl) (Nat.le_of_ble_eq_true rfl) rfl (fun w70 hw70 => ?_)
        refine J_iload_n (pc' := 74) dX7_then_73 rfl rfl ?_
        exact J_iret dX7_then_74  (by unfold sq_then; rw [if_pos (show (0 ≤ nI n0 ∧ nI n0 ≤ 60) ∧ (0 ≤ m ∧ m ≤ 2) from ⟨jb_n h_7, jb_n h_16⟩), nn_nI (by omega)]; exact ⟨jv (by unfold sThn; first | (rw [if_neg (by rw [show m = 2 from by first | exact h_37 | exact Decidable.not_not.mp h_37]; decide), if_neg (by rw [show m = 2 from by first | exact h_37 | exact Decidable.not_not.mp h_37]; decide)]) | (rw [if_neg (by rw [show m = 1 from by first | exact h_51 | exact Decidable.not_not.mp h_51]; decide), if_pos (by first | exact h_51 | exact Decidable.not_not.mp h_51)]) | (rw [if_pos (show m = 0 from by obtain ⟨c, hc, rfl⟩ := rng0_ex (n := 2) (by omega) (show 0 ≤ m ∧ m ≤ nI 2 from jb_n h_16); have q1 : ¬ c = 1 := fun q => h_51 ((congrArg nI q).trans nIc_1.symm); have q2 : ¬ c = 2 := fun q => h_37 ((congrArg nI q).trans nIc_2.symm); have q0 : c = 0 := (by omega); exact (congrArg nI q0).trans nI_0)])), mq_bk hV (mTh.back hI hT t32 hw70)⟩)
    · refine J_aload_n (pc' := 20) dX7_then_19 rfl rfl ?_
      refine J_ldc (pc' := 22) dX7_then_20 kc_7_125 rfl ?_
      refine J_V1v (pc' := 25) dX7_then_22 lk_7_126 cd_X7_error (k_merr (k := 1) (by decide) (by decide)) (ly_68) (l84_68) rfl rfl (jroom_of rfl) (Nat.le_of_ble_eq_true rfl) rfl ?_
      exact J_iret dX7_then_25  (by unfold sq_then; rw [if_neg (show ¬ ((0 ≤ n ∧ n ≤ 60) ∧ (0 ≤ m ∧ m ≤ 2)) from fun q => by first | exact jb_0.mp h_7 q.1 | exact jb_0.mp h_16 q.2)]; exact ⟨rfl, mq_err hV (by decide)⟩)
theorem nle60 {j : Nat} (hj : j ≤ 61) : (nI j ≤ 60 ↔ j ≤ 60) := by rw [nIc_60]; exact nI_leI (by omega) (by omega)
set_option maxHeartbeats 4000000 in
set_option maxRecDepth 100000 in
theorem l_mso {G : jG} {w0 : jWd} (hE : goEq) (hI0 : sInv (abM (w0.1 69))) (hT0 : mT (w0.1 69)) (hR : sR (abM (w0.1 69)) ≤ 9999) {k : Nat} (hk : k < sM (abM (w0.1 69))) {Q : Option Value → jWd → Prop} (hK : ∀ j w2, j ≤ 61 → sRu (abM (w0.1 69)) k 61 0 = (if j ≤ 60 then nI j else -1) → mTh w0 w2 → J G (jM G 9 RX7 cX7_soonest 3 (some .int) (Q)) w2 47 [some (.ref 68), some (.int (nI k)), some (.int (nI j))] []) : ∀ n j : Nat, j + n = 61 → ∀ (w2 : jWd) (_ : abM (w2.1 69) = sGoN (abM (w0.1 69)) j) (_ : mTh w0 w2) (_ : mT (w2.1 69)) (_ : sRu (abM (w0.1 69)) k 61 0 = sRu (abM (w0.1 69)) k n j), J G (jM G 9 RX7 cX7_soonest 3 (some .int) (Q)) w2 21 [some (.ref 68), some (.int (nI k)), some (.int (nI j))] [] := by
  have h8 : k < 8 := Nat.lt_of_lt_of_le hk (sIM hI0).2
  intro n
  induction n with
  | zero =>
    intro j hj w2 e2 t2 mt2 hr
    refine J_iload_n (pc' := 22) dX7_soonest_21 rfl rfl ?_
    refine J_bipush (v := 60) (pc' := 24) dX7_soonest_22 (by decide) rfl ?_
    refine J_icmp_gt 47 (pc' := 27) dX7_soonest_24 (by decide) rfl (fun h_24 => ?_) (fun h_24 => absurd (Int32.not_le.mp (fun q => by have := (nle60 (by omega)).mp q; omega)) h_24)
    exact hK j w2 (by omega) (by rw [hr, if_neg (by omega)]; rfl) t2
  | succ n ih =>
    intro j hj w2 e2 t2 mt2 hr
    refine J_iload_n (pc' := 22) dX7_soonest_21 rfl rfl ?_
    refine J_bipush (v := 60) (pc' := 24) dX7_soonest_22 (by decide) rfl ?_
    refine J_icmp_gt 47 (pc' := 27) dX7_soonest_24 (by decide) rfl (fun h_24 => absurd h_24 (fun q => absurd ((nle60 (by omega)).mpr (by omega)) (Int32.not_le.mpr q))) (fun h_24 => ?_)
    refine J_aload_n (pc' := 28) dX7_soonest_27 rfl rfl ?_
    refine J_iload_n (pc' := 29) dX7_soonest_28 rfl rfl ?_
    refine J_iconst (v := 5) (pc' := 30) dX7_soonest_29 (by decide) rfl ?_
    refine J_V2v (pc' := 33) dX7_soonest_30 lk_7_65 cd_X7_of (k_mof5 h8) (ly_68) (l84_68) rfl rfl (jroom_of rfl) (Nat.le_of_ble_eq_true rfl) rfl ?_
    rw [e2]
    refine J_iconst (v := 1) (pc' := 34) dX7_soonest_33 (by decide) rfl ?_
    refine J_icmp_ne 47 (pc' := 37) dX7_soonest_34 (by decide) rfl (fun h_34 => ?_) (fun h_34 => ?_)
    · exact hK j w2 (by omega) (by rw [hr, if_pos (by omega)]; exact if_neg h_34) t2
    · have hon : sGoN (abM (w0.1 69)) j 5 k = 1 := by first | exact h_34 | exact Decidable.not_not.mp h_34
      refine J_aload_n (pc' := 38) dX7_soonest_37 rfl rfl ?_
      refine J_V0w (pc' := 41) dX7_soonest_38 lk_7_212 cd_X7_goes (k_mgoE hE (by rw [e2]; exact (inv_goN hI0 j (by omega)).1) mt2) (ly_68) (l84_68) rfl rfl (jroom_of rfl) (Nat.le_of_ble_eq_true rfl) rfl (fun w38 hw38 => ?_)
      refine J_iinc (pc' := 44) dX7_soonest_41 rfl (Nat.le_of_ble_eq_true rfl) (jst2 rfl rfl) rfl ?_
      refine J_goto (pc' := 0) 21 dX7_soonest_44 (by decide) ?_
      have h2 := ih (j + 1) (by omega) w38 (by rw [hw38.1, e2]; rfl) (t2.g hw38.2) (hw38.2.mt mt2) (by rw [hr]; exact if_pos hon)
      rw [← z1 j] at h2
      exact h2
set_option maxHeartbeats 4000000 in
set_option maxRecDepth 100000 in
theorem b_X7_soonest {G : jG} {w : jWd} (hV : MInv w) (hI : sInv (abM (w.1 69))) (hE : goEq) (hR : sR (abM (w.1 69)) ≤ 9999) {x : Int32} : jKp G 9 yX7_soonest cX7_soonest 3 (some .int) [.ref 68, .int x] w (some (.int (sq_soonest (abM (w.1 69)) (abM (w.1 70)) (restM w) x).1)) (fun w' => RQ w w' (sq_soonest (abM (w.1 69)) (abM (w.1 70)) (restM w) x).2) := by
  have hT := hV.1
  refine jK_of (own := RX7) [some (.ref 68), some (.int x), none] pn7 rfl (Nat.le_of_ble_eq_true rfl) rfl ?_
  refine J_aload_n (pc' := 1) dX7_soonest_0 rfl rfl ?_
  refine J_iload_n (pc' := 2) dX7_soonest_1 rfl rfl ?_
  refine J_V1v (pc' := 5) dX7_soonest_2 lk_7_134 cd_X7_isMark (k_X7_isMark) (ly_68) (l84_68) rfl rfl (jroom_of rfl) (Nat.le_of_ble_eq_true rfl) rfl ?_
  refine J_if_ne 15 (pc' := 8) dX7_soonest_5 (by decide) rfl (fun h_5 => ?_) (fun h_5 => ?_)
  · obtain ⟨k, hk, rfl⟩ := sIsM_ex hI (jb_n h_5)
    have h8 : k < 8 := Nat.lt_of_lt_of_le hk (sIM hI).2
    refine J_aload_n (pc' := 16) dX7_soonest_15 rfl rfl ?_
    refine J_V0w (pc' := 19) dX7_soonest_16 lk_7_242 cd_X7_thinks (k_mthinks) (ly_68) (l84_68) rfl rfl (jroom_of rfl) (Nat.le_of_ble_eq_true rfl) rfl (fun w16 hw16 => ?_)
    obtain ⟨t16, e16⟩ := mTh.start hw16
    refine J_iconst (v := 0) (pc' := 20) dX7_soonest_19 (by decide) rfl ?_
    refine J_istore_n (pc' := 21) dX7_soonest_20 (Nat.le_of_ble_eq_true rfl) (jst2 rfl rfl) rfl ?_
    refine l_mso (w0 := w) hE hI hT hR hk (fun j w2 hj hr t2 => ?_) 61 0 rfl w16 (by rw [e16]; rfl) t16 (by rw [e16]; exact hT) rfl
    refine J_aload_n (pc' := 48) dX7_soonest_47 rfl rfl ?_
    refine J_V0w (pc' := 51) dX7_soonest_48 lk_7_245 cd_X7_putsBack (k_mback) (ly_68) (l84_68) rfl rfl (jroom_of rfl) (Nat.le_of_ble_eq_true rfl) rfl (fun w48 hw48 => ?_)
    refine J_iload_n (pc' := 52) dX7_soonest_51 rfl rfl ?_
    refine J_bipush (v := 60) (pc' := 54) dX7_soonest_52 (by decide) rfl ?_
    refine J_icmp_le 66 (pc' := 57) dX7_soonest_54 (by decide) rfl (fun h_54 => ?_) (fun h_54 => ?_)
    · refine J_iload_n (pc' := 67) dX7_soonest_66 rfl rfl ?_
      have hB := mTh.back hI hT t2 hw48
      first | exact J_iret dX7_soonest_67  (by unfold sq_soonest; rw [if_pos (show sIsM (abM (w.1 69)) (nI k) from jb_n h_5), nn_nI (by omega), hr, if_pos ((nle60 hj).mp h_54), if_pos (by rw [nIc_0]; exact nI_le (by omega) (by omega))]; exact ⟨rfl, mq_bk hV hB⟩) | exact J_iret dX7_soonest_67  (by unfold sq_soonest; rw [if_pos (show sIsM (abM (w.1 69)) (nI k) from jb_n h_5), nn_nI (by omega), hr, if_neg (fun q => h_54 ((nle60 hj).mpr q)), if_neg (by decide)]; exact ⟨rfl, mq_err2 (mq_bk hV hB) (by decide)⟩)
    · refine J_aload_n (pc' := 58) dX7_soonest_57 rfl rfl ?_
      refine J_ldc (pc' := 60) dX7_soonest_58 kc_7_248 rfl ?_
      refine J_V1v (pc' := 63) dX7_soonest_60 lk_7_126 cd_X7_error (k_merr (k := 2) (by decide) (by decide)) (ly_68) (l84_68) rfl rfl (jroom_of rfl) (Nat.le_of_ble_eq_true rfl) rfl ?_
      refine J_goto (pc' := 0) 67 dX7_soonest_63 (by decide) ?_
      have hB := mTh.back hI hT t2 hw48
      first | exact J_iret dX7_soonest_67  (by unfold sq_soonest; rw [if_pos (show sIsM (abM (w.1 69)) (nI k) from jb_n h_5), nn_nI (by omega), hr, if_pos ((nle60 hj).mp h_54), if_pos (by rw [nIc_0]; exact nI_le (by omega) (by omega))]; exact ⟨rfl, mq_bk hV hB⟩) | exact J_iret dX7_soonest_67  (by unfold sq_soonest; rw [if_pos (show sIsM (abM (w.1 69)) (nI k) from jb_n h_5), nn_nI (by omega), hr, if_neg (fun q => h_54 ((nle60 hj).mpr q)), if_neg (by decide)]; exact ⟨rfl, mq_err2 (mq_bk hV hB) (by decide)⟩)
  · refine J_aload_n (pc' := 9) dX7_soonest_8 rfl rfl ?_
    refine J_ldc (pc' := 11) dX7_soonest_9 kc_7_125 rfl ?_
    refine J_V1v (pc' := 14) dX7_soonest_11 lk_7_126 cd_X7_error (k_merr (k := 1) (by decide) (by decide)) (ly_68) (l84_68) rfl rfl (jroom_of rfl) (Nat.le_of_ble_eq_true rfl) rfl ?_
    exact J_iret dX7_soonest_14  (by unfold sq_soonest; rw [if_neg (show ¬ (sIsM (abM (w.1 69)) x) from fun q => by first | exact jb_0.mp (by first | exact h_5 | exact Decidable.not_not.mp h_5) q)]; exact ⟨rfl, mq_err hV (by decide)⟩)
