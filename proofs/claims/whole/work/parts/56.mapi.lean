/-! ===== the reference: calls ===== -/
/-! ===== the reference: calls ===== -/
def MInv (w : jWd) : Prop := mT (w.1 69) ∧ mT (w.1 70)
def frX (w w2 : jWd) : Prop := ∀ a, a < 68 → w2.1 a = w.1 a ∧ w2.2 a = w.2 a
/-- the state behind a call of the reference -/
def RQ (w w2 : jWd) (q : sg × sg × sg) : Prop := abM (w2.1 69) = q.1 ∧ abM (w2.1 70) = q.2.1 ∧ restM w2 = q.2.2 ∧ MInv w2 ∧ frX w w2
theorem mq_rf {w : jWd} (hV : MInv w) : RQ w w (abM (w.1 69), abM (w.1 70), restM w) := ⟨rfl, rfl, rfl, hV, fun _ _ => ⟨rfl, rfl⟩⟩
theorem frG.rm {w w2 : jWd} (h : frG w w2) : restM w2 = restM w := restM_congr (fun a _ q _ _ => h.1 a q)
theorem frG.x {w w2 : jWd} (h : frG w w2) : frX w w2 := fun a q => ⟨h.1 a (by omega), h.2.1 a q⟩
theorem frG.v {w w2 : jWd} (h : frG w w2) (hV : MInv w) : MInv w2 := ⟨h.mt hV.1, by rw [h.1 70 (by decide)]; exact hV.2⟩
theorem mq_row {w w2 : jWd} {σ : sg} (hV : MInv w) (h : frG w w2) (e : abM (w2.1 69) = σ) : RQ w w2 (σ, abM (w.1 70), restM w) := ⟨e, by rw [h.1 70 (by decide)], h.rm, h.v hV, h.x⟩
theorem mq_any {w w2 : jWd} {r : sg} (hV : MInv w) (h69 : w2.1 69 = w.1 69) (h70 : w2.1 70 = w.1 70) (hx : frX w w2) (hr : restM w2 = r) : RQ w w2 (abM (w.1 69), abM (w.1 70), r) := ⟨by rw [h69], by rw [h70], hr, ⟨by rw [h69]; exact hV.1, by rw [h70]; exact hV.2⟩, hx⟩
theorem mx_set {w w2 : jWd} (h : frX w w2) {a k : Nat} {v : Int32} (ha : 68 ≤ a) : frX w (jset w2 a k v) := fun b q => ⟨by rw [jset_off (by omega)]; exact (h b q).1, (h b q).2⟩
theorem rm_err {w : jWd} {k : Nat} (hk : k < 7) : restM (jset w 72 k (w.1 72 k + 1)) = sEr (restM w) k := by
  have e0 : restM w 0 k = w.1 72 k := if_pos hk
  funext f j
  unfold sEr
  rw [e0]
  match f with
  | 0 =>
    show (if j < 7 then (jset w 72 k (w.1 72 k + 1)).1 72 j else 0) = (if 0 = 0 ∧ j = k then w.1 72 k + 1 else if j < 7 then w.1 72 j else 0)
    rw [jset_1, if_pos rfl]
    by_cases e : j = k
    · rw [if_pos (show 0 = 0 ∧ j = k from ⟨rfl, e⟩), if_pos (show j < 7 by omega), if_pos e]
    · rw [if_neg (show ¬ (0 = 0 ∧ j = k) from fun q => e q.2), if_neg e]
  | 1 => rfl
  | 2 => rfl
  | 3 => rfl
  | 4 => rfl
  | 5 => rfl
  | 6 => rfl
  | 7 => rfl
  | 8 => rfl
  | 9 => rfl
  | n + 10 => rfl
theorem sg1_sw {σ : sg} {f g k j : Nat} {a b : Int32} (h : f ≠ g) : sg1 (sg1 σ f k a) g j b = sg1 (sg1 σ g j b) f k a := by
  funext x i
  unfold sg1
  by_cases e : x = g ∧ i = j
  · rw [if_pos e, if_neg (fun q => h (q.1.symm.trans e.1)), if_pos e]
  · rw [if_neg e]
    by_cases e2 : x = f ∧ i = k
    · rw [if_pos e2, if_pos e2]
    · rw [if_neg e2, if_neg e2, if_neg e]
theorem mq_err2 {w v : jWd} {q : sg × sg × sg} (h : RQ w v q) {k : Nat} (hk : k < 7) : RQ w (jset v 72 k (v.1 72 k + 1)) (q.1, q.2.1, sEr q.2.2 k) :=
  ⟨by rw [jset_off (by decide)]; exact h.1, by rw [jset_off (by decide)]; exact h.2.1, by rw [rm_err hk, h.2.2.1], ⟨by rw [jset_off (by decide)]; exact h.2.2.2.1.1, by rw [jset_off (by decide)]; exact h.2.2.2.1.2⟩, mx_set h.2.2.2.2 (by decide)⟩
theorem mq_err {w : jWd} (hV : MInv w) {k : Nat} (hk : k < 7) : RQ w (jset w 72 k (w.1 72 k + 1)) (abM (w.1 69), abM (w.1 70), sEr (restM w) k) := mq_err2 (mq_rf hV) hk
set_option maxHeartbeats 4000000 in
set_option maxRecDepth 100000 in
theorem b_X7_become {G : jG} {w : jWd} (hV : MInv w) (hI : sInv (abM (w.1 69))) {x : Int32} {km : Int32} : jKp G 3 yX7_become cX7_become 3 (some .int) [.ref 68, .int x, .int km] w (some (.int (sq_become (abM (w.1 69)) (abM (w.1 70)) (restM w) x km).1)) (fun w' => RQ w w' (sq_become (abM (w.1 69)) (abM (w.1 70)) (restM w) x km).2) := by
  have hT := hV.1
  refine jK_of (own := RX7) [some (.ref 68), some (.int x), some (.int km)] pn7 rfl (Nat.le_of_ble_eq_true rfl) rfl ?_
  refine J_aload_n (pc' := 1) dX7_become_0 rfl rfl ?_
  refine J_iload_n (pc' := 2) dX7_become_1 rfl rfl ?_
  refine J_V1v (pc' := 5) dX7_become_2 lk_7_134 cd_X7_isMark (k_X7_isMark) (ly_68) (l84_68) rfl rfl (jroom_of rfl) (Nat.le_of_ble_eq_true rfl) rfl ?_
  refine J_if_eq 15 (pc' := 8) dX7_become_5 (by decide) rfl (fun h_5 => ?_) (fun h_5 => ?_)
  · refine J_aload_n (pc' := 16) dX7_become_15 rfl rfl ?_
    refine J_ldc (pc' := 18) dX7_become_16 kc_7_125 rfl ?_
    refine J_V1v (pc' := 21) dX7_become_18 lk_7_126 cd_X7_error (k_merr (k := 1) (by decide) (by decide)) (ly_68) (l84_68) rfl rfl (jroom_of rfl) (Nat.le_of_ble_eq_true rfl) rfl ?_
    exact J_iret dX7_become_21  (by unfold sq_become; rw [if_neg (show ¬ (sIsM (abM (w.1 69)) x ∧ (0 ≤ km ∧ km ≤ 69)) from fun q => by first | exact jb_0.mp h_5 q.1 | exact jb_0.mp h_12 q.2)]; exact ⟨rfl, mq_err hV (by decide)⟩)
  · refine J_iload_n (pc' := 9) dX7_become_8 rfl rfl ?_
    refine J_S1v (pc' := 12) dX7_become_9 lk_7_119 cd_X7_isKm (k_X7_isKm) (jroom_of rfl) (Nat.le_of_ble_eq_true rfl) rfl ?_
    refine J_if_ne 22 (pc' := 15) dX7_become_12 (by decide) rfl (fun h_12 => ?_) (fun h_12 => ?_)
    · obtain ⟨k, hk, rfl⟩ := sIsM_ex hI (jb_n h_5)
      have h8 : k < 8 := Nat.lt_of_lt_of_le hk (sIM hI).2
      refine J_aload_n (pc' := 23) dX7_become_22 rfl rfl ?_
      refine J_iload_n (pc' := 24) dX7_become_23 rfl rfl ?_
      refine J_iconst (v := 1) (pc' := 25) dX7_become_24 (by decide) rfl ?_
      refine J_iload_n (pc' := 26) dX7_become_25 rfl rfl ?_
      refine J_bipush (v := 10) (pc' := 28) dX7_become_26 (by decide) rfl ?_
      refine J_irem (pc' := 29) dX7_become_28 (by decide) rfl ?_
      refine J_V30 (pc' := 32) dX7_become_29 lk_7_130 cd_X7_puts (k_mputs h8 (c := 1) (by decide) nIc_1) (ly_68) (l84_68) rfl rfl (jroom_of rfl) (Nat.le_of_ble_eq_true rfl) rfl ?_
      refine J_aload_n (pc' := 33) dX7_become_32 rfl rfl ?_
      refine J_bipush (v := 8) (pc' := 35) dX7_become_33 (by decide) rfl ?_
      refine J_bipush (v := 6) (pc' := 37) dX7_become_35 (by decide) rfl ?_
      refine J_iload_n (pc' := 38) dX7_become_37 rfl rfl ?_
      refine J_imul (pc' := 39) dX7_become_38 rfl ?_
      refine J_iadd (pc' := 40) dX7_become_39 rfl ?_
      refine J_iload_n (pc' := 41) dX7_become_40 rfl rfl ?_
      refine J_bipush (v := 10) (pc' := 43) dX7_become_41 (by decide) rfl ?_
      refine J_idiv (pc' := 44) dX7_become_43 (by decide) rfl ?_
      refine J_V2v (pc' := 47) dX7_become_44 lk_7_137 cd_X7_becomes (k_mbec (i := 8 + 6 * k) (by omega) (jadd nIc_8 (jmul nIc_6 rfl))) (ly_68) (l84_68) rfl rfl (jroom_of rfl) (Nat.le_of_ble_eq_true rfl) rfl ?_
      exact J_iret dX7_become_47  (by unfold sq_become; rw [if_pos (show sIsM (abM (w.1 69)) (nI k) ∧ (0 ≤ km ∧ km ≤ 69) from ⟨jb_n h_5, jb_n h_12⟩), nn_nI (by omega)]; exact ⟨jv (by show (jset w 69 (8 + 6 * k + 1) _).1 69 (8 + 6 * k + 0) = _; rw [jset_1, if_pos rfl, if_neg (by omega), am0 h8]), mq_row hV (((frG.rf w).set (by omega)).set (by omega)) (by show abM ((jset (jset w 69 (8 + 6 * k + 1) _) 69 (8 + 6 * k + 0) _).1 69) = _; rw [ams0 h8, ams1 h8]; exact sg1_sw (by decide))⟩)
    · refine J_aload_n (pc' := 16) dX7_become_15 rfl rfl ?_
      refine J_ldc (pc' := 18) dX7_become_16 kc_7_125 rfl ?_
      refine J_V1v (pc' := 21) dX7_become_18 lk_7_126 cd_X7_error (k_merr (k := 1) (by decide) (by decide)) (ly_68) (l84_68) rfl rfl (jroom_of rfl) (Nat.le_of_ble_eq_true rfl) rfl ?_
      exact J_iret dX7_become_21  (by unfold sq_become; rw [if_neg (show ¬ (sIsM (abM (w.1 69)) x ∧ (0 ≤ km ∧ km ≤ 69)) from fun q => by first | exact jb_0.mp h_5 q.1 | exact jb_0.mp h_12 q.2)]; exact ⟨rfl, mq_err hV (by decide)⟩)
set_option maxHeartbeats 4000000 in
set_option maxRecDepth 100000 in
theorem b_X7_measure {G : jG} {w : jWd} (hV : MInv w) (hI : sInv (abM (w.1 69))) {x : Int32} {v : Int32} : jKp G 2 yX7_measure cX7_measure 3 (some .int) [.ref 68, .int x, .int v] w (some (.int (sq_measure (abM (w.1 69)) (abM (w.1 70)) (restM w) x v).1)) (fun w' => RQ w w' (sq_measure (abM (w.1 69)) (abM (w.1 70)) (restM w) x v).2) := by
  have hT := hV.1
  refine jK_of (own := RX7) [some (.ref 68), some (.int x), some (.int v)] pn7 rfl (Nat.le_of_ble_eq_true rfl) rfl ?_
  refine J_aload_n (pc' := 1) dX7_measure_0 rfl rfl ?_
  refine J_iload_n (pc' := 2) dX7_measure_1 rfl rfl ?_
  refine J_V1v (pc' := 5) dX7_measure_2 lk_7_134 cd_X7_isMark (k_X7_isMark) (ly_68) (l84_68) rfl rfl (jroom_of rfl) (Nat.le_of_ble_eq_true rfl) rfl ?_
  refine J_if_eq 36 (pc' := 8) dX7_measure_5 (by decide) rfl (fun h_5 => ?_) (fun h_5 => ?_)
  · refine J_aload_n (pc' := 37) dX7_measure_36 rfl rfl ?_
    refine J_ldc (pc' := 39) dX7_measure_37 kc_7_125 rfl ?_
    refine J_V1v (pc' := 42) dX7_measure_39 lk_7_126 cd_X7_error (k_merr (k := 1) (by decide) (by decide)) (ly_68) (l84_68) rfl rfl (jroom_of rfl) (Nat.le_of_ble_eq_true rfl) rfl ?_
    first | exact J_iret dX7_measure_42  (by unfold sq_measure; rw [if_pos (show sIsM (abM (w.1 69)) (nI k) ∧ (-20 ≤ v ∧ v ≤ 20) from ⟨jb_n h_5, jb_n h_16⟩), nn_nI (by omega)]; exact ⟨jv (am4 h8), mq_row hV ((frG.rf w).set (by omega)) (ams4 h8)⟩) | exact J_iret dX7_measure_42  (by unfold sq_measure; rw [if_neg (show ¬ (sIsM (abM (w.1 69)) x ∧ (-20 ≤ v ∧ v ≤ 20)) from fun q => by first | exact jb_0.mp h_5 q.1 | exact jb_0.mp h_16 q.2)]; exact ⟨rfl, mq_err hV (by decide)⟩)
  · refine J_iload_n (pc' := 9) dX7_measure_8 rfl rfl ?_
    refine J_bipush (v := (-20)) (pc' := 11) dX7_measure_9 (by decide) rfl ?_
    refine J_bipush (v := 20) (pc' := 13) dX7_measure_11 (by decide) rfl ?_
    refine J_S3v (pc' := 16) dX7_measure_13 lk_7_61 cd_X7_in (k_X7_in) (jroom_of rfl) (Nat.le_of_ble_eq_true rfl) rfl ?_
    refine J_if_eq 36 (pc' := 19) dX7_measure_16 (by decide) rfl (fun h_16 => ?_) (fun h_16 => ?_)
    · refine J_aload_n (pc' := 37) dX7_measure_36 rfl rfl ?_
      refine J_ldc (pc' := 39) dX7_measure_37 kc_7_125 rfl ?_
      refine J_V1v (pc' := 42) dX7_measure_39 lk_7_126 cd_X7_error (k_merr (k := 1) (by decide) (by decide)) (ly_68) (l84_68) rfl rfl (jroom_of rfl) (Nat.le_of_ble_eq_true rfl) rfl ?_
      first | exact J_iret dX7_measure_42  (by unfold sq_measure; rw [if_pos (show sIsM (abM (w.1 69)) (nI k) ∧ (-20 ≤ v ∧ v ≤ 20) from ⟨jb_n h_5, jb_n h_16⟩), nn_nI (by omega)]; exact ⟨jv (am4 h8), mq_row hV ((frG.rf w).set (by omega)) (ams4 h8)⟩) | exact J_iret dX7_measure_42  (by unfold sq_measure; rw [if_neg (show ¬ (sIsM (abM (w.1 69)) x ∧ (-20 ≤ v ∧ v ≤ 20)) from fun q => by first | exact jb_0.mp h_5 q.1 | exact jb_0.mp h_16 q.2)]; exact ⟨rfl, mq_err hV (by decide)⟩)
    · obtain ⟨k, hk, rfl⟩ := sIsM_ex hI (jb_n h_5)
      have h8 : k < 8 := Nat.lt_of_lt_of_le hk (sIM hI).2
      refine J_aload_n (pc' := 20) dX7_measure_19 rfl rfl ?_
      refine J_bipush (v := 8) (pc' := 22) dX7_measure_20 (by decide) rfl ?_
      refine J_bipush (v := 6) (pc' := 24) dX7_measure_22 (by decide) rfl ?_
      refine J_iload_n (pc' := 25) dX7_measure_24 rfl rfl ?_
      refine J_imul (pc' := 26) dX7_measure_25 rfl ?_
      refine J_iadd (pc' := 27) dX7_measure_26 rfl ?_
      refine J_iconst (v := 4) (pc' := 28) dX7_measure_27 (by decide) rfl ?_
      refine J_iadd (pc' := 29) dX7_measure_28 rfl ?_
      refine J_iload_n (pc' := 30) dX7_measure_29 rfl rfl ?_
      refine J_V2v (pc' := 33) dX7_measure_30 lk_7_137 cd_X7_becomes (k_mbec (i := 8 + 6 * k + 4) (by omega) (jadd (jadd nIc_8 (jmul nIc_6 rfl)) nIc_4)) (ly_68) (l84_68) rfl rfl (jroom_of rfl) (Nat.le_of_ble_eq_true rfl) rfl ?_
      refine J_goto (pc' := 0) 42 dX7_measure_33 (by decide) ?_
      first | exact J_iret dX7_measure_42  (by unfold sq_measure; rw [if_pos (show sIsM (abM (w.1 69)) (nI k) ∧ (-20 ≤ v ∧ v ≤ 20) from ⟨jb_n h_5, jb_n h_16⟩), nn_nI (by omega)]; exact ⟨jv (am4 h8), mq_row hV ((frG.rf w).set (by omega)) (ams4 h8)⟩) | exact J_iret dX7_measure_42  (by unfold sq_measure; rw [if_neg (show ¬ (sIsM (abM (w.1 69)) x ∧ (-20 ≤ v ∧ v ≤ 20)) from fun q => by first | exact jb_0.mp h_5 q.1 | exact jb_0.mp h_16 q.2)]; exact ⟨rfl, mq_err hV (by decide)⟩)
theorem v01 {v : Int32} (h : 0 ≤ v ∧ v ≤ 1) : (if v = 1 then (1 : Int32) else 0) = v := by
  obtain ⟨j, h0, h1, e⟩ := nI_wi (a := 0) (b := 1) (by decide) (by decide) h
  obtain rfl | rfl : j = 0 ∨ j = 1 := by omega
  · rw [e]; decide
  · rw [e]; decide
set_option maxHeartbeats 4000000 in
set_option maxRecDepth 100000 in
theorem b_X7_on {G : jG} {w : jWd} (hV : MInv w) (hI : sInv (abM (w.1 69))) {x : Int32} {v : Int32} : jKp G 2 yX7_on cX7_on 3 (some .int) [.ref 68, .int x, .int v] w (some (.int (sq_on (abM (w.1 69)) (abM (w.1 70)) (restM w) x v).1)) (fun w' => RQ w w' (sq_on (abM (w.1 69)) (abM (w.1 70)) (restM w) x v).2) := by
  have hT := hV.1
  refine jK_of (own := RX7) [some (.ref 68), some (.int x), some (.int v)] pn7 rfl (Nat.le_of_ble_eq_true rfl) rfl ?_
  refine J_aload_n (pc' := 1) dX7_on_0 rfl rfl ?_
  refine J_iload_n (pc' := 2) dX7_on_1 rfl rfl ?_
  refine J_V1v (pc' := 5) dX7_on_2 lk_7_134 cd_X7_isMark (k_X7_isMark) (ly_68) (l84_68) rfl rfl (jroom_of rfl) (Nat.le_of_ble_eq_true rfl) rfl ?_
  refine J_if_eq 34 (pc' := 8) dX7_on_5 (by decide) rfl (fun h_5 => ?_) (fun h_5 => ?_)
  · refine J_aload_n (pc' := 35) dX7_on_34 rfl rfl ?_
    refine J_ldc (pc' := 37) dX7_on_35 kc_7_125 rfl ?_
    refine J_V1v (pc' := 40) dX7_on_37 lk_7_126 cd_X7_error (k_merr (k := 1) (by decide) (by decide)) (ly_68) (l84_68) rfl rfl (jroom_of rfl) (Nat.le_of_ble_eq_true rfl) rfl ?_
    first | exact J_iret dX7_on_40  (by unfold sq_on; rw [if_pos (show sIsM (abM (w.1 69)) (nI k) ∧ (0 ≤ v ∧ v ≤ 1) from ⟨jb_n h_5, jb_n h_14⟩), nn_nI (by omega), v01 (jb_n h_14)]; exact ⟨jv (am5 h8), mq_row hV ((frG.rf w).set (by omega)) (ams5 h8)⟩) | exact J_iret dX7_on_40  (by unfold sq_on; rw [if_neg (show ¬ (sIsM (abM (w.1 69)) x ∧ (0 ≤ v ∧ v ≤ 1)) from fun q => by first | exact jb_0.mp h_5 q.1 | exact jb_0.mp h_14 q.2)]; exact ⟨rfl, mq_err hV (by decide)⟩)
  · refine J_iload_n (pc' := 9) dX7_on_8 rfl rfl ?_
    refine J_iconst (v := 0) (pc' := 10) dX7_on_9 (by decide) rfl ?_
    refine J_iconst (v := 1) (pc' := 11) dX7_on_10 (by decide) rfl ?_
    refine J_S3v (pc' := 14) dX7_on_11 lk_7_61 cd_X7_in (k_X7_in) (jroom_of rfl) (Nat.le_of_ble_eq_true rfl) rfl ?_
    refine J_if_eq 34 (pc' := 17) dX7_on_14 (by decide) rfl (fun h_14 => ?_) (fun h_14 => ?_)
    · refine J_aload_n (pc' := 35) dX7_on_34 rfl rfl ?_
      refine J_ldc (pc' := 37) dX7_on_35 kc_7_125 rfl ?_
      refine J_V1v (pc' := 40) dX7_on_37 lk_7_126 cd_X7_error (k_merr (k := 1) (by decide) (by decide)) (ly_68) (l84_68) rfl rfl (jroom_of rfl) (Nat.le_of_ble_eq_true rfl) rfl ?_
      first | exact J_iret dX7_on_40  (by unfold sq_on; rw [if_pos (show sIsM (abM (w.1 69)) (nI k) ∧ (0 ≤ v ∧ v ≤ 1) from ⟨jb_n h_5, jb_n h_14⟩), nn_nI (by omega), v01 (jb_n h_14)]; exact ⟨jv (am5 h8), mq_row hV ((frG.rf w).set (by omega)) (ams5 h8)⟩) | exact J_iret dX7_on_40  (by unfold sq_on; rw [if_neg (show ¬ (sIsM (abM (w.1 69)) x ∧ (0 ≤ v ∧ v ≤ 1)) from fun q => by first | exact jb_0.mp h_5 q.1 | exact jb_0.mp h_14 q.2)]; exact ⟨rfl, mq_err hV (by decide)⟩)
    · obtain ⟨k, hk, rfl⟩ := sIsM_ex hI (jb_n h_5)
      have h8 : k < 8 := Nat.lt_of_lt_of_le hk (sIM hI).2
      refine J_aload_n (pc' := 18) dX7_on_17 rfl rfl ?_
      refine J_bipush (v := 8) (pc' := 20) dX7_on_18 (by decide) rfl ?_
      refine J_bipush (v := 6) (pc' := 22) dX7_on_20 (by decide) rfl ?_
      refine J_iload_n (pc' := 23) dX7_on_22 rfl rfl ?_
      refine J_imul (pc' := 24) dX7_on_23 rfl ?_
      refine J_iadd (pc' := 25) dX7_on_24 rfl ?_
      refine J_iconst (v := 5) (pc' := 26) dX7_on_25 (by decide) rfl ?_
      refine J_iadd (pc' := 27) dX7_on_26 rfl ?_
      refine J_iload_n (pc' := 28) dX7_on_27 rfl rfl ?_
      refine J_V2v (pc' := 31) dX7_on_28 lk_7_137 cd_X7_becomes (k_mbec (i := 8 + 6 * k + 5) (by omega) (jadd (jadd nIc_8 (jmul nIc_6 rfl)) nIc_5)) (ly_68) (l84_68) rfl rfl (jroom_of rfl) (Nat.le_of_ble_eq_true rfl) rfl ?_
      refine J_goto (pc' := 0) 40 dX7_on_31 (by decide) ?_
      first | exact J_iret dX7_on_40  (by unfold sq_on; rw [if_pos (show sIsM (abM (w.1 69)) (nI k) ∧ (0 ≤ v ∧ v ≤ 1) from ⟨jb_n h_5, jb_n h_14⟩), nn_nI (by omega), v01 (jb_n h_14)]; exact ⟨jv (am5 h8), mq_row hV ((frG.rf w).set (by omega)) (ams5 h8)⟩) | exact J_iret dX7_on_40  (by unfold sq_on; rw [if_neg (show ¬ (sIsM (abM (w.1 69)) x ∧ (0 ≤ v ∧ v ≤ 1)) from fun q => by first | exact jb_0.mp h_5 q.1 | exact jb_0.mp h_14 q.2)]; exact ⟨rfl, mq_err hV (by decide)⟩)
set_option maxHeartbeats 4000000 in
set_option maxRecDepth 100000 in
theorem b_X7_markIs {G : jG} {w : jWd} (hV : MInv w) (hI : sInv (abM (w.1 69))) {x : Int32} {y : Int32} : jKp G 5 yX7_markIs cX7_markIs 3 (some .int) [.ref 68, .int x, .int y] w (some (.int (sq_markIs (abM (w.1 69)) (abM (w.1 70)) (restM w) x y).1)) (fun w' => RQ w w' (sq_markIs (abM (w.1 69)) (abM (w.1 70)) (restM w) x y).2) := by
  have hT := hV.1
  refine jK_of (own := RX7) [some (.ref 68), some (.int x), some (.int y)] pn7 rfl (Nat.le_of_ble_eq_true rfl) rfl ?_
  refine J_aload_n (pc' := 1) dX7_markIs_0 rfl rfl ?_
  refine J_iload_n (pc' := 2) dX7_markIs_1 rfl rfl ?_
  refine J_V1v (pc' := 5) dX7_markIs_2 lk_7_134 cd_X7_isMark (k_X7_isMark) (ly_68) (l84_68) rfl rfl (jroom_of rfl) (Nat.le_of_ble_eq_true rfl) rfl ?_
  refine J_if_eq 18 (pc' := 8) dX7_markIs_5 (by decide) rfl (fun h_5 => ?_) (fun h_5 => ?_)
  · refine J_aload_n (pc' := 19) dX7_markIs_18 rfl rfl ?_
    refine J_ldc (pc' := 21) dX7_markIs_19 kc_7_125 rfl ?_
    refine J_V1v (pc' := 24) dX7_markIs_21 lk_7_126 cd_X7_error (k_merr (k := 1) (by decide) (by decide)) (ly_68) (l84_68) rfl rfl (jroom_of rfl) (Nat.le_of_ble_eq_true rfl) rfl ?_
    first | exact J_iret dX7_markIs_24  (by unfold sq_markIs; rw [if_neg (show ¬ sIsM (abM (w.1 69)) x from jb_0.mp h_5)]; exact ⟨rfl, mq_err hV (by decide)⟩) | exact J_iret dX7_markIs_24  (by unfold sq_markIs; rw [if_pos (show sIsM (abM (w.1 69)) x from jb_n h_5), if_neg (show ¬ y = 0 from fun q => by rw [q] at h_15; exact absurd (jb_0.mp h_15) (by decide)), if_neg (show ¬ y = 1 from fun q => by rw [q] at h_15; exact absurd (jb_0.mp h_15) (by decide)), if_neg (show ¬ y = 2 from fun q => by rw [q] at h_15; exact absurd (jb_0.mp h_15) (by decide)), if_neg (show ¬ y = 3 from fun q => by rw [q] at h_15; exact absurd (jb_0.mp h_15) (by decide)), if_neg (show ¬ y = 4 from fun q => by rw [q] at h_15; exact absurd (jb_0.mp h_15) (by decide)), if_neg (show ¬ y = 5 from fun q => by rw [q] at h_15; exact absurd (jb_0.mp h_15) (by decide)), if_neg (show ¬ y = 6 from fun q => by rw [q] at h_15; exact absurd (jb_0.mp h_15) (by decide)), if_neg (show ¬ y = 7 from fun q => by rw [q] at h_15; exact absurd (jb_0.mp h_15) (by decide))]; exact ⟨rfl, mq_err hV (by decide)⟩)
  · refine J_iload_n (pc' := 9) dX7_markIs_8 rfl rfl ?_
    refine J_iconst (v := 0) (pc' := 10) dX7_markIs_9 (by decide) rfl ?_
    refine J_bipush (v := 7) (pc' := 12) dX7_markIs_10 (by decide) rfl ?_
    refine J_S3v (pc' := 15) dX7_markIs_12 lk_7_61 cd_X7_in (k_X7_in) (jroom_of rfl) (Nat.le_of_ble_eq_true rfl) rfl ?_
    refine J_if_ne 25 (pc' := 18) dX7_markIs_15 (by decide) rfl (fun h_15 => ?_) (fun h_15 => ?_)
    · obtain ⟨k, hk, rfl⟩ := sIsM_ex hI (jb_n h_5)
      have h8 : k < 8 := Nat.lt_of_lt_of_le hk (sIM hI).2
      obtain ⟨c, hc0, hc7, rfl⟩ := nI_wi (a := 0) (b := 7) (by decide) (by decide) (jb_n h_15)
      refine J_iload_n (pc' := 26) dX7_markIs_25 rfl rfl ?_
      refine J_bipush (v := 6) (pc' := 28) dX7_markIs_26 (by decide) rfl ?_
      refine J_icmp_ge 40 (pc' := 31) dX7_markIs_28 (by decide) rfl (fun h_28 => ?_) (fun h_28 => ?_)
      · refine J_iload_n (pc' := 41) dX7_markIs_40 rfl rfl ?_
        refine J_bipush (v := 6) (pc' := 43) dX7_markIs_41 (by decide) rfl ?_
        refine J_icmp_ne 54 (pc' := 46) dX7_markIs_43 (by decide) rfl (fun h_43 => ?_) (fun h_43 => ?_)
        · refine J_aload_n (pc' := 55) dX7_markIs_54 rfl rfl ?_
          refine J_iload_n (pc' := 56) dX7_markIs_55 rfl rfl ?_
          refine J_V1v (pc' := 59) dX7_markIs_56 lk_7_93 cd_X7_saysOf (k_msy hI hT hk) (ly_68) (l84_68) rfl rfl (jroom_of rfl) (Nat.le_of_ble_eq_true rfl) rfl ?_
          have hm : ∀ c2, c2 ≤ 7 → sq_markIs (abM (w.1 69)) (abM (w.1 70)) (restM w) (nI k) (nI c2) = (if c2 < 6 then w.1 69 (8 + 6 * k + c2) else if c2 = 6 then sW (abM (w.1 69)) k else sS (abM (w.1 69)) k, abM (w.1 69), abM (w.1 70), restM w) := by
            intro c2 h2
            unfold sq_markIs
            rw [if_pos (show sIsM (abM (w.1 69)) (nI k) from jb_n h_5), nn_nI (by omega)]
            match c2, h2 with
            | 0, _ => rw [if_pos (by decide)]; rw [← am0 h8]; rfl
            | 1, _ => rw [if_neg (by decide), if_pos (by decide)]; rw [← am1 h8]; rfl
            | 2, _ => rw [if_neg (by decide), if_neg (by decide), if_pos (by decide)]; rw [← am2 h8]; rfl
            | 3, _ => rw [if_neg (by decide), if_neg (by decide), if_neg (by decide), if_pos (by decide)]; rw [← am3 h8]; rfl
            | 4, _ => rw [if_neg (by decide), if_neg (by decide), if_neg (by decide), if_neg (by decide), if_pos (by decide)]; rw [← am4 h8]; rfl
            | 5, _ => rw [if_neg (by decide), if_neg (by decide), if_neg (by decide), if_neg (by decide), if_neg (by decide), if_pos (by decide)]; rw [← am5 h8]; rfl
            | 6, _ => rw [if_neg (by decide), if_neg (by decide), if_neg (by decide), if_neg (by decide), if_neg (by decide), if_neg (by decide), if_pos (by decide)]; rfl
            | 7, _ => rw [if_neg (by decide), if_neg (by decide), if_neg (by decide), if_neg (by decide), if_neg (by decide), if_neg (by decide), if_neg (by decide), if_pos (by decide)]; rfl
          have hc6 : (6 : Int32) ≤ nI c ↔ 6 ≤ c := by rw [nIc_6]; exact nI_leI (by omega) (by omega)
          have hc6e : nI c = 6 ↔ c = 6 := by rw [nIc_6]; exact nI_eq (by omega) (by omega)
          first | exact J_iret dX7_markIs_59  (by rw [hm c hc7, if_pos (show c < 6 from by have q := mt hc6.mpr h_28; omega)]; exact ⟨rfl, mq_rf hV⟩) | exact J_iret dX7_markIs_59  (by rw [hm c hc7, if_neg (show ¬ c < 6 from by have q := hc6.mp h_28; omega), if_pos (hc6e.mp (by first | exact h_43 | exact Decidable.not_not.mp h_43))]; exact ⟨rfl, mq_rf hV⟩) | exact J_iret dX7_markIs_59  (by rw [hm c hc7, if_neg (show ¬ c < 6 from by have q := hc6.mp h_28; omega), if_neg (fun q => h_43 (hc6e.mpr q))]; exact ⟨rfl, mq_rf hV⟩)
        · refine J_aload_n (pc' := 47) dX7_markIs_46 rfl rfl ?_
          refine J_iload_n (pc' := 48) dX7_markIs_47 rfl rfl ?_
          refine J_V1v (pc' := 51) dX7_markIs_48 lk_7_90 cd_X7_weight (k_mwt hI hT hk) (ly_68) (l84_68) rfl rfl (jroom_of rfl) (Nat.le_of_ble_eq_true rfl) rfl ?_
          refine J_goto (pc' := 0) 59 dX7_markIs_51 (by decide) ?_
          have hm : ∀ c2, c2 ≤ 7 → sq_markIs (abM (w.1 69)) (abM (w.1 70)) (restM w) (nI k) (nI c2) = (if c2 < 6 then w.1 69 (8 + 6 * k + c2) else if c2 = 6 then sW (abM (w.1 69)) k else sS (abM (w.1 69)) k, abM (w.1 69), abM (w.1 70), restM w) := by
            intro c2 h2
            unfold sq_markIs
            rw [if_pos (show sIsM (abM (w.1 69)) (nI k) from jb_n h_5), nn_nI (by omega)]
            match c2, h2 with
            | 0, _ => rw [if_pos (by decide)]; rw [← am0 h8]; rfl
            | 1, _ => rw [if_neg (by decide), if_pos (by decide)]; rw [← am1 h8]; rfl
            | 2, _ => rw [if_neg (by decide), if_neg (by decide), if_pos (by decide)]; rw [← am2 h8]; rfl
            | 3, _ => rw [if_neg (by decide), if_neg (by decide), if_neg (by decide), if_pos (by decide)]; rw [← am3 h8]; rfl
            | 4, _ => rw [if_neg (by decide), if_neg (by decide), if_neg (by decide), if_neg (by decide), if_pos (by decide)]; rw [← am4 h8]; rfl
            | 5, _ => rw [if_neg (by decide), if_neg (by decide), if_neg (by decide), if_neg (by decide), if_neg (by decide), if_pos (by decide)]; rw [← am5 h8]; rfl
            | 6, _ => rw [if_neg (by decide), if_neg (by decide), if_neg (by decide), if_neg (by decide), if_neg (by decide), if_neg (by decide), if_pos (by decide)]; rfl
            | 7, _ => rw [if_neg (by decide), if_neg (by decide), if_neg (by decide), if_neg (by decide), if_neg (by decide), if_neg (by decide), if_neg (by decide), if_pos (by decide)]; rfl
          have hc6 : (6 : Int32) ≤ nI c ↔ 6 ≤ c := by rw [nIc_6]; exact nI_leI (by omega) (by omega)
          have hc6e : nI c = 6 ↔ c = 6 := by rw [nIc_6]; exact nI_eq (by omega) (by omega)
          first | exact J_iret dX7_markIs_59  (by rw [hm c hc7, if_pos (show c < 6 from by have q := mt hc6.mpr h_28; omega)]; exact ⟨rfl, mq_rf hV⟩) | exact J_iret dX7_markIs_59  (by rw [hm c hc7, if_neg (show ¬ c < 6 from by have q := hc6.mp h_28; omega), if_pos (hc6e.mp (by first | exact h_43 | exact Decidable.not_not.mp h_43))]; exact ⟨rfl, mq_rf hV⟩) | exact J_iret dX7_markIs_59  (by rw [hm c hc7, if_neg (show ¬ c < 6 from by have q := hc6.mp h_28; omega), if_neg (fun q => h_43 (hc6e.mpr q))]; exact ⟨rfl, mq_rf hV⟩)
      · refine J_aload_n (pc' := 32) dX7_markIs_31 rfl rfl ?_
        refine J_iload_n (pc' := 33) dX7_markIs_32 rfl rfl ?_
        refine J_iload_n (pc' := 34) dX7_markIs_33 rfl rfl ?_
        refine J_V2v (pc' := 37) dX7_markIs_34 lk_7_65 cd_X7_of (k_mof h8 (c := c) (by have := h_28; rw [nIc_6] at this; have q := mt (nI_leI (by omega) (by omega)).mpr this; omega) rfl) (ly_68) (l84_68) rfl rfl (jroom_of rfl) (Nat.le_of_ble_eq_true rfl) rfl ?_
        refine J_goto (pc' := 0) 59 dX7_markIs_37 (by decide) ?_
        have hm : ∀ c2, c2 ≤ 7 → sq_markIs (abM (w.1 69)) (abM (w.1 70)) (restM w) (nI k) (nI c2) = (if c2 < 6 then w.1 69 (8 + 6 * k + c2) else if c2 = 6 then sW (abM (w.1 69)) k else sS (abM (w.1 69)) k, abM (w.1 69), abM (w.1 70), restM w) := by
          intro c2 h2
          unfold sq_markIs
          rw [if_pos (show sIsM (abM (w.1 69)) (nI k) from jb_n h_5), nn_nI (by omega)]
          match c2, h2 with
          | 0, _ => rw [if_pos (by decide)]; rw [← am0 h8]; rfl
          | 1, _ => rw [if_neg (by decide), if_pos (by decide)]; rw [← am1 h8]; rfl
          | 2, _ => rw [if_neg (by decide), if_neg (by decide), if_pos (by decide)]; rw [← am2 h8]; rfl
          | 3, _ => rw [if_neg (by decide), if_neg (by decide), if_neg (by decide), if_pos (by decide)]; rw [← am3 h8]; rfl
          | 4, _ => rw [if_neg (by decide), if_neg (by decide), if_neg (by decide), if_neg (by decide), if_pos (by decide)]; rw [← am4 h8]; rfl
          | 5, _ => rw [if_neg (by decide), if_neg (by decide), if_neg (by decide), if_neg (by decide), if_neg (by decide), if_pos (by decide)]; rw [← am5 h8]; rfl
          | 6, _ => rw [if_neg (by decide), if_neg (by decide), if_neg (by decide), if_neg (by decide), if_neg (by decide), if_neg (by decide), if_pos (by decide)]; rfl
          | 7, _ => rw [if_neg (by decide), if_neg (by decide), if_neg (by decide), if_neg (by decide), if_neg (by decide), if_neg (by decide), if_neg (by decide), if_pos (by decide)]; rfl
        have hc6 : (6 : Int32) ≤ nI c ↔ 6 ≤ c := by rw [nIc_6]; exact nI_leI (by omega) (by omega)
        have hc6e : nI c = 6 ↔ c = 6 := by rw [nIc_6]; exact nI_eq (by omega) (by omega)
        first | exact J_iret dX7_markIs_59  (by rw [hm c hc7, if_pos (show c < 6 from by have q := mt hc6.mpr h_28; omega)]; exact ⟨rfl, mq_rf hV⟩) | exact J_iret dX7_markIs_59  (by rw [hm c hc7, if_neg (show ¬ c < 6 from by have q := hc6.mp h_28; omega), if_pos (hc6e.mp (by first | exact h_43 | exact Decidable.not_not.mp h_43))]; exact ⟨rfl, mq_rf hV⟩) | exact J_iret dX7_markIs_59  (by rw [hm c hc7, if_neg (show ¬ c < 6 from by have q := hc6.mp h_28; omega), if_neg (fun q => h_43 (hc6e.mpr q))]; exact ⟨rfl, mq_rf hV⟩)
    · refine J_aload_n (pc' := 19) dX7_markIs_18 rfl rfl ?_
      refine J_ldc (pc' := 21) dX7_markIs_19 kc_7_125 rfl ?_
      refine J_V1v (pc' := 24) dX7_markIs_21 lk_7_126 cd_X7_error (k_merr (k := 1) (by decide) (by decide)) (ly_68) (l84_68) rfl rfl (jroom_of rfl) (Nat.le_of_ble_eq_true rfl) rfl ?_
      first | exact J_iret dX7_markIs_24  (by unfold sq_markIs; rw [if_neg (show ¬ sIsM (abM (w.1 69)) x from jb_0.mp h_5)]; exact ⟨rfl, mq_err hV (by decide)⟩) | exact J_iret dX7_markIs_24  (by unfold sq_markIs; rw [if_pos (show sIsM (abM (w.1 69)) x from jb_n h_5), if_neg (show ¬ y = 0 from fun q => by rw [q] at h_15; exact absurd (jb_0.mp h_15) (by decide)), if_neg (show ¬ y = 1 from fun q => by rw [q] at h_15; exact absurd (jb_0.mp h_15) (by decide)), if_neg (show ¬ y = 2 from fun q => by rw [q] at h_15; exact absurd (jb_0.mp h_15) (by decide)), if_neg (show ¬ y = 3 from fun q => by rw [q] at h_15; exact absurd (jb_0.mp h_15) (by decide)), if_neg (show ¬ y = 4 from fun q => by rw [q] at h_15; exact absurd (jb_0.mp h_15) (by decide)), if_neg (show ¬ y = 5 from fun q => by rw [q] at h_15; exact absurd (jb_0.mp h_15) (by decide)), if_neg (show ¬ y = 6 from fun q => by rw [q] at h_15; exact absurd (jb_0.mp h_15) (by decide)), if_neg (show ¬ y = 7 from fun q => by rw [q] at h_15; exact absurd (jb_0.mp h_15) (by decide))]; exact ⟨rfl, mq_err hV (by decide)⟩)
theorem sOf_iff (k c : Int32) : sOf k c = true ↔ (c = 0 ∨ c = k ∨ (c = 1 ∧ k = 4) ∨ (c = 2 ∧ k = 5)) := by
  unfold sOf
  simp only [Bool.or_eq_true, Bool.and_eq_true, beq_iff_eq]
  constructor
  · rintro (((h | h) | h) | h)
    · exact Or.inr (Or.inl h)
    · exact Or.inl h
    · exact Or.inr (Or.inr (Or.inl h))
    · exact Or.inr (Or.inr (Or.inr h))
  · rintro (h | h | h | h)
    · exact Or.inl (Or.inl (Or.inr h))
    · exact Or.inl (Or.inl (Or.inl h))
    · exact Or.inl (Or.inr h)
    · exact Or.inr h
set_option maxHeartbeats 4000000 in
set_option maxRecDepth 100000 in
theorem b_X7_as {G : jG} {w : jWd} (hV : MInv w) (hI : sInv (abM (w.1 69))) {x : Int32} {c : Int32} : jKp G 2 yX7_as cX7_as 5 (some .int) [.ref 68, .int x, .int c] w (some (.int (sq_as (abM (w.1 69)) (abM (w.1 70)) (restM w) x c).1)) (fun w' => RQ w w' (sq_as (abM (w.1 69)) (abM (w.1 70)) (restM w) x c).2) := by
  have hT := hV.1
  refine jK_of (own := RX7) [some (.ref 68), some (.int x), some (.int c), none, none] pn7 rfl (Nat.le_of_ble_eq_true rfl) rfl ?_
  refine J_aload_n (pc' := 1) dX7_as_0 rfl rfl ?_
  refine J_iload_n (pc' := 2) dX7_as_1 rfl rfl ?_
  refine J_V1v (pc' := 5) dX7_as_2 lk_7_134 cd_X7_isMark (k_X7_isMark) (ly_68) (l84_68) rfl rfl (jroom_of rfl) (Nat.le_of_ble_eq_true rfl) rfl ?_
  refine J_if_eq 18 (pc' := 8) dX7_as_5 (by decide) rfl (fun h_5 => ?_) (fun h_5 => ?_)
  · refine J_aload_n (pc' := 19) dX7_as_18 rfl rfl ?_
    refine J_ldc (pc' := 21) dX7_as_19 kc_7_125 rfl ?_
    refine J_V1v (pc' := 24) dX7_as_21 lk_7_126 cd_X7_error (k_merr (k := 1) (by decide) (by decide)) (ly_68) (l84_68) rfl rfl (jroom_of rfl) (Nat.le_of_ble_eq_true rfl) rfl ?_
    exact J_iret dX7_as_24  (by unfold sq_as; rw [if_neg (show ¬ (sIsM (abM (w.1 69)) x ∧ (0 ≤ c ∧ c ≤ 6)) from fun q => by first | exact jb_0.mp h_5 q.1 | exact jb_0.mp h_15 q.2)]; exact ⟨rfl, mq_err hV (by decide)⟩)
  · refine J_iload_n (pc' := 9) dX7_as_8 rfl rfl ?_
    refine J_iconst (v := 0) (pc' := 10) dX7_as_9 (by decide) rfl ?_
    refine J_bipush (v := 6) (pc' := 12) dX7_as_10 (by decide) rfl ?_
    refine J_S3v (pc' := 15) dX7_as_12 lk_7_61 cd_X7_in (k_X7_in) (jroom_of rfl) (Nat.le_of_ble_eq_true rfl) rfl ?_
    refine J_if_ne 25 (pc' := 18) dX7_as_15 (by decide) rfl (fun h_15 => ?_) (fun h_15 => ?_)
    · obtain ⟨k, hk, rfl⟩ := sIsM_ex hI (jb_n h_5)
      have h8 : k < 8 := Nat.lt_of_lt_of_le hk (sIM hI).2
      refine J_aload_n (pc' := 26) dX7_as_25 rfl rfl ?_
      refine J_iload_n (pc' := 27) dX7_as_26 rfl rfl ?_
      refine J_iconst (v := 0) (pc' := 28) dX7_as_27 (by decide) rfl ?_
      refine J_V2v (pc' := 31) dX7_as_28 lk_7_65 cd_X7_of (k_mof0 h8) (ly_68) (l84_68) rfl rfl (jroom_of rfl) (Nat.le_of_ble_eq_true rfl) rfl ?_
      refine J_istore_n (pc' := 32) dX7_as_31 (Nat.le_of_ble_eq_true rfl) (jst3 rfl rfl) rfl ?_
      refine J_iload_n (pc' := 33) dX7_as_32 rfl rfl ?_
      refine J_if_eq 61 (pc' := 36) dX7_as_33 (by decide) rfl (fun h_33 => ?_) (fun h_33 => ?_)
      · refine J_iconst (v := 1) (pc' := 62) dX7_as_61 (by decide) rfl ?_
        refine J_goto (pc' := 0) 66 dX7_as_62 (by decide) ?_
        refine J_istore (pc' := 68) dX7_as_66 (Nat.le_of_ble_eq_true rfl) (jst4 rfl rfl) rfl ?_
        refine J_iload (pc' := 70) dX7_as_68 rfl rfl ?_
        refine J_if_eq 82 (pc' := 73) dX7_as_70 (by decide) rfl (fun h_70 => absurd h_70 (by decide)) (fun h_70 => ?_)
        refine J_aload_n (pc' := 74) dX7_as_73 rfl rfl ?_
        refine J_iload_n (pc' := 75) dX7_as_74 rfl rfl ?_
        refine J_iconst (v := 1) (pc' := 76) dX7_as_75 (by decide) rfl ?_
        refine J_V2v (pc' := 79) dX7_as_76 lk_7_65 cd_X7_of (k_mof1 h8) (ly_68) (l84_68) rfl rfl (jroom_of rfl) (Nat.le_of_ble_eq_true rfl) rfl ?_
        refine J_goto (pc' := 0) 88 dX7_as_79 (by decide) ?_
        first | exact J_iret dX7_as_88  (by unfold sq_as; rw [if_pos (show sIsM (abM (w.1 69)) (nI k) ∧ (0 ≤ c ∧ c ≤ 6) from ⟨jb_n h_5, jb_n h_15⟩), nn_nI (by omega), if_pos ((sOf_iff _ _).mpr (by first | exact Or.inl h_33 | exact Or.inr (Or.inl h_38) | exact Or.inr (Or.inr (Or.inl ⟨by first | exact h_43 | exact Decidable.not_not.mp h_43, h_48⟩)) | exact Or.inr (Or.inr (Or.inr ⟨by first | exact h_53 | exact Decidable.not_not.mp h_53, by first | exact h_58 | exact Decidable.not_not.mp h_58⟩))))]; exact ⟨rfl, mq_rf hV⟩) | exact J_iret dX7_as_88  (by unfold sq_as; rw [if_pos (show sIsM (abM (w.1 69)) (nI k) ∧ (0 ≤ c ∧ c ≤ 6) from ⟨jb_n h_5, jb_n h_15⟩), nn_nI (by omega), if_neg (fun q => absurd ((sOf_iff _ _).mp q) (fun q => by rcases q with q | q | q | q <;> first | exact h_33 q | exact h_38 q | exact h_43 q.1 | exact h_48 q.2 | exact h_53 q.1 | exact h_58 q.2))]; exact ⟨rfl, mq_err hV (by decide)⟩)
      · refine J_iload_n (pc' := 37) dX7_as_36 rfl rfl ?_
        refine J_iload_n (pc' := 38) dX7_as_37 rfl rfl ?_
        refine J_icmp_eq 61 (pc' := 41) dX7_as_38 (by decide) rfl (fun h_38 => ?_) (fun h_38 => ?_)
        · refine J_iconst (v := 1) (pc' := 62) dX7_as_61 (by decide) rfl ?_
          refine J_goto (pc' := 0) 66 dX7_as_62 (by decide) ?_
          refine J_istore (pc' := 68) dX7_as_66 (Nat.le_of_ble_eq_true rfl) (jst4 rfl rfl) rfl ?_
          refine J_iload (pc' := 70) dX7_as_68 rfl rfl ?_
          refine J_if_eq 82 (pc' := 73) dX7_as_70 (by decide) rfl (fun h_70 => absurd h_70 (by decide)) (fun h_70 => ?_)
          refine J_aload_n (pc' := 74) dX7_as_73 rfl rfl ?_
          refine J_iload_n (pc' := 75) dX7_as_74 rfl rfl ?_
          refine J_iconst (v := 1) (pc' := 76) dX7_as_75 (by decide) rfl ?_
          refine J_V2v (pc' := 79) dX7_as_76 lk_7_65 cd_X7_of (k_mof1 h8) (ly_68) (l84_68) rfl rfl (jroom_of rfl) (Nat.le_of_ble_eq_true rfl) rfl ?_
          refine J_goto (pc' := 0) 88 dX7_as_79 (by decide) ?_
          first | exact J_iret dX7_as_88  (by unfold sq_as; rw [if_pos (show sIsM (abM (w.1 69)) (nI k) ∧ (0 ≤ c ∧ c ≤ 6) from ⟨jb_n h_5, jb_n h_15⟩), nn_nI (by omega), if_pos ((sOf_iff _ _).mpr (by first | exact Or.inl h_33 | exact Or.inr (Or.inl h_38) | exact Or.inr (Or.inr (Or.inl ⟨by first | exact h_43 | exact Decidable.not_not.mp h_43, h_48⟩)) | exact Or.inr (Or.inr (Or.inr ⟨by first | exact h_53 | exact Decidable.not_not.mp h_53, by first | exact h_58 | exact Decidable.not_not.mp h_58⟩))))]; exact ⟨rfl, mq_rf hV⟩) | exact J_iret dX7_as_88  (by unfold sq_as; rw [if_pos (show sIsM (abM (w.1 69)) (nI k) ∧ (0 ≤ c ∧ c ≤ 6) from ⟨jb_n h_5, jb_n h_15⟩), nn_nI (by omega), if_neg (fun q => absurd ((sOf_iff _ _).mp q) (fun q => by rcases q with q | q | q | q <;> first | exact h_33 q | exact h_38 q | exact h_43 q.1 | exact h_48 q.2 | exact h_53 q.1 | exact h_58 q.2))]; exact ⟨rfl, mq_err hV (by decide)⟩)
        · refine J_iload_n (pc' := 42) dX7_as_41 rfl rfl ?_
          refine J_iconst (v := 1) (pc' := 43) dX7_as_42 (by decide) rfl ?_
          refine J_icmp_ne 51 (pc' := 46) dX7_as_43 (by decide) rfl (fun h_43 => ?_) (fun h_43 => ?_)
          · refine J_iload_n (pc' := 52) dX7_as_51 rfl rfl ?_
            refine J_iconst (v := 2) (pc' := 53) dX7_as_52 (by decide) rfl ?_
            refine J_icmp_ne 65 (pc' := 56) dX7_as_53 (by decide) rfl (fun h_53 => ?_) (fun h_53 => ?_)
            · refine J_iconst (v := 0) (pc' := 66) dX7_as_65 (by decide) rfl ?_
              refine J_istore (pc' := 68) dX7_as_66 (Nat.le_of_ble_eq_true rfl) (jst4 rfl rfl) rfl ?_
              refine J_iload (pc' := 70) dX7_as_68 rfl rfl ?_
              refine J_if_eq 82 (pc' := 73) dX7_as_70 (by decide) rfl (fun h_70 => ?_) (fun h_70 => absurd rfl h_70)
              refine J_aload_n (pc' := 83) dX7_as_82 rfl rfl ?_
              refine J_ldc (pc' := 85) dX7_as_83 kc_7_140 rfl ?_
              refine J_V1v (pc' := 88) dX7_as_85 lk_7_126 cd_X7_error (k_merr (k := 5) (by decide) (by decide)) (ly_68) (l84_68) rfl rfl (jroom_of rfl) (Nat.le_of_ble_eq_true rfl) rfl ?_
              first | exact J_iret dX7_as_88  (by unfold sq_as; rw [if_pos (show sIsM (abM (w.1 69)) (nI k) ∧ (0 ≤ c ∧ c ≤ 6) from ⟨jb_n h_5, jb_n h_15⟩), nn_nI (by omega), if_pos ((sOf_iff _ _).mpr (by first | exact Or.inl h_33 | exact Or.inr (Or.inl h_38) | exact Or.inr (Or.inr (Or.inl ⟨by first | exact h_43 | exact Decidable.not_not.mp h_43, h_48⟩)) | exact Or.inr (Or.inr (Or.inr ⟨by first | exact h_53 | exact Decidable.not_not.mp h_53, by first | exact h_58 | exact Decidable.not_not.mp h_58⟩))))]; exact ⟨rfl, mq_rf hV⟩) | exact J_iret dX7_as_88  (by unfold sq_as; rw [if_pos (show sIsM (abM (w.1 69)) (nI k) ∧ (0 ≤ c ∧ c ≤ 6) from ⟨jb_n h_5, jb_n h_15⟩), nn_nI (by omega), if_neg (fun q => absurd ((sOf_iff _ _).mp q) (fun q => by rcases q with q | q | q | q <;> first | exact h_33 q | exact h_38 q | exact h_43 q.1 | exact h_48 q.2 | exact h_53 q.1 | exact h_58 q.2))]; exact ⟨rfl, mq_err hV (by decide)⟩)
            · refine J_iload_n (pc' := 57) dX7_as_56 rfl rfl ?_
              refine J_iconst (v := 5) (pc' := 58) dX7_as_57 (by decide) rfl ?_
              refine J_icmp_ne 65 (pc' := 61) dX7_as_58 (by decide) rfl (fun h_58 => ?_) (fun h_58 => ?_)
              · refine J_iconst (v := 0) (pc' := 66) dX7_as_65 (by decide) rfl ?_
                refine J_istore (pc' := 68) dX7_as_66 (Nat.le_of_ble_eq_true rfl) (jst4 rfl rfl) rfl ?_
                refine J_iload (pc' := 70) dX7_as_68 rfl rfl ?_
                refine J_if_eq 82 (pc' := 73) dX7_as_70 (by decide) rfl (fun h_70 => ?_) (fun h_70 => absurd rfl h_70)
                refine J_aload_n (pc' := 83) dX7_as_82 rfl rfl ?_
                refine J_ldc (pc' := 85) dX7_as_83 kc_7_140 rfl ?_
                refine J_V1v (pc' := 88) dX7_as_85 lk_7_126 cd_X7_error (k_merr (k := 5) (by decide) (by decide)) (ly_68) (l84_68) rfl rfl (jroom_of rfl) (Nat.le_of_ble_eq_true rfl) rfl ?_
                first | exact J_iret dX7_as_88  (by unfold sq_as; rw [if_pos (show sIsM (abM (w.1 69)) (nI k) ∧ (0 ≤ c ∧ c ≤ 6) from ⟨jb_n h_5, jb_n h_15⟩), nn_nI (by omega), if_pos ((sOf_iff _ _).mpr (by first | exact Or.inl h_33 | exact Or.inr (Or.inl h_38) | exact Or.inr (Or.inr (Or.inl ⟨by first | exact h_43 | exact Decidable.not_not.mp h_43, h_48⟩)) | exact Or.inr (Or.inr (Or.inr ⟨by first | exact h_53 | exact Decidable.not_not.mp h_53, by first | exact h_58 | exact Decidable.not_not.mp h_58⟩))))]; exact ⟨rfl, mq_rf hV⟩) | exact J_iret dX7_as_88  (by unfold sq_as; rw [if_pos (show sIsM (abM (w.1 69)) (nI k) ∧ (0 ≤ c ∧ c ≤ 6) from ⟨jb_n h_5, jb_n h_15⟩), nn_nI (by omega), if_neg (fun q => absurd ((sOf_iff _ _).mp q) (fun q => by rcases q with q | q | q | q <;> first | exact h_33 q | exact h_38 q | exact h_43 q.1 | exact h_48 q.2 | exact h_53 q.1 | exact h_58 q.2))]; exact ⟨rfl, mq_err hV (by decide)⟩)
              · refine J_iconst (v := 1) (pc' := 62) dX7_as_61 (by decide) rfl ?_
                refine J_goto (pc' := 0) 66 dX7_as_62 (by decide) ?_
                refine J_istore (pc' := 68) dX7_as_66 (Nat.le_of_ble_eq_true rfl) (jst4 rfl rfl) rfl ?_
                refine J_iload (pc' := 70) dX7_as_68 rfl rfl ?_
                refine J_if_eq 82 (pc' := 73) dX7_as_70 (by decide) rfl (fun h_70 => absurd h_70 (by decide)) (fun h_70 => ?_)
                refine J_aload_n (pc' := 74) dX7_as_73 rfl rfl ?_
                refine J_iload_n (pc' := 75) dX7_as_74 rfl rfl ?_
                refine J_iconst (v := 1) (pc' := 76) dX7_as_75 (by decide) rfl ?_
                refine J_V2v (pc' := 79) dX7_as_76 lk_7_65 cd_X7_of (k_mof1 h8) (ly_68) (l84_68) rfl rfl (jroom_of rfl) (Nat.le_of_ble_eq_true rfl) rfl ?_
                refine J_goto (pc' := 0) 88 dX7_as_79 (by decide) ?_
                first | exact J_iret dX7_as_88  (by unfold sq_as; rw [if_pos (show sIsM (abM (w.1 69)) (nI k) ∧ (0 ≤ c ∧ c ≤ 6) from ⟨jb_n h_5, jb_n h_15⟩), nn_nI (by omega), if_pos ((sOf_iff _ _).mpr (by first | exact Or.inl h_33 | exact Or.inr (Or.inl h_38) | exact Or.inr (Or.inr (Or.inl ⟨by first | exact h_43 | exact Decidable.not_not.mp h_43, h_48⟩)) | exact Or.inr (Or.inr (Or.inr ⟨by first | exact h_53 | exact Decidable.not_not.mp h_53, by first | exact h_58 | exact Decidable.not_not.mp h_58⟩))))]; exact ⟨rfl, mq_rf hV⟩) | exact J_iret dX7_as_88  (by unfold sq_as; rw [if_pos (show sIsM (abM (w.1 69)) (nI k) ∧ (0 ≤ c ∧ c ≤ 6) from ⟨jb_n h_5, jb_n h_15⟩), nn_nI (by omega), if_neg (fun q => absurd ((sOf_iff _ _).mp q) (fun q => by rcases q with q | q | q | q <;> first | exact h_33 q | exact h_38 q | exact h_43 q.1 | exact h_48 q.2 | exact h_53 q.1 | exact h_58 q.2))]; exact ⟨rfl, mq_err hV (by decide)⟩)
          · refine J_iload_n (pc' := 47) dX7_as_46 rfl rfl ?_
            refine J_iconst (v := 4) (pc' := 48) dX7_as_47 (by decide) rfl ?_
            refine J_icmp_eq 61 (pc' := 51) dX7_as_48 (by decide) rfl (fun h_48 => ?_) (fun h_48 => ?_)
            · refine J_iconst (v := 1) (pc' := 62) dX7_as_61 (by decide) rfl ?_
              refine J_goto (pc' := 0) 66 dX7_as_62 (by decide) ?_
              refine J_istore (pc' := 68) dX7_as_66 (Nat.le_of_ble_eq_true rfl) (jst4 rfl rfl) rfl ?_
              refine J_iload (pc' := 70) dX7_as_68 rfl rfl ?_
              refine J_if_eq 82 (pc' := 73) dX7_as_70 (by decide) rfl (fun h_70 => absurd h_70 (by decide)) (fun h_70 => ?_)
              refine J_aload_n (pc' := 74) dX7_as_73 rfl rfl ?_
              refine J_iload_n (pc' := 75) dX7_as_74 rfl rfl ?_
              refine J_iconst (v := 1) (pc' := 76) dX7_as_75 (by decide) rfl ?_
              refine J_V2v (pc' := 79) dX7_as_76 lk_7_65 cd_X7_of (k_mof1 h8) (ly_68) (l84_68) rfl rfl (jroom_of rfl) (Nat.le_of_ble_eq_true rfl) rfl ?_
              refine J_goto (pc' := 0) 88 dX7_as_79 (by decide) ?_
              first | exact J_iret dX7_as_88  (by unfold sq_as; rw [if_pos (show sIsM (abM (w.1 69)) (nI k) ∧ (0 ≤ c ∧ c ≤ 6) from ⟨jb_n h_5, jb_n h_15⟩), nn_nI (by omega), if_pos ((sOf_iff _ _).mpr (by first | exact Or.inl h_33 | exact Or.inr (Or.inl h_38) | exact Or.inr (Or.inr (Or.inl ⟨by first | exact h_43 | exact Decidable.not_not.mp h_43, h_48⟩)) | exact Or.inr (Or.inr (Or.inr ⟨by first | exact h_53 | exact Decidable.not_not.mp h_53, by first | exact h_58 | exact Decidable.not_not.mp h_58⟩))))]; exact ⟨rfl, mq_rf hV⟩) | exact J_iret dX7_as_88  (by unfold sq_as; rw [if_pos (show sIsM (abM (w.1 69)) (nI k) ∧ (0 ≤ c ∧ c ≤ 6) from ⟨jb_n h_5, jb_n h_15⟩), nn_nI (by omega), if_neg (fun q => absurd ((sOf_iff _ _).mp q) (fun q => by rcases q with q | q | q | q <;> first | exact h_33 q | exact h_38 q | exact h_43 q.1 | exact h_48 q.2 | exact h_53 q.1 | exact h_58 q.2))]; exact ⟨rfl, mq_err hV (by decide)⟩)
            · refine J_iload_n (pc' := 52) dX7_as_51 rfl rfl ?_
              refine J_iconst (v := 2) (pc' := 53) dX7_as_52 (by decide) rfl ?_
              refine J_icmp_ne 65 (pc' := 56) dX7_as_53 (by decide) rfl (fun h_53 => ?_) (fun h_53 => ?_)
              · refine J_iconst (v := 0) (pc' := 66) dX7_as_65 (by decide) rfl ?_
                refine J_istore (pc' := 68) dX7_as_66 (Nat.le_of_ble_eq_true rfl) (jst4 rfl rfl) rfl ?_
                refine J_iload (pc' := 70) dX7_as_68 rfl rfl ?_
                refine J_if_eq 82 (pc' := 73) dX7_as_70 (by decide) rfl (fun h_70 => ?_) (fun h_70 => absurd rfl h_70)
                refine J_aload_n (pc' := 83) dX7_as_82 rfl rfl ?_
                refine J_ldc (pc' := 85) dX7_as_83 kc_7_140 rfl ?_
                refine J_V1v (pc' := 88) dX7_as_85 lk_7_126 cd_X7_error (k_merr (k := 5) (by decide) (by decide)) (ly_68) (l84_68) rfl rfl (jroom_of rfl) (Nat.le_of_ble_eq_true rfl) rfl ?_
                first | exact J_iret dX7_as_88  (by unfold sq_as; rw [if_pos (show sIsM (abM (w.1 69)) (nI k) ∧ (0 ≤ c ∧ c ≤ 6) from ⟨jb_n h_5, jb_n h_15⟩), nn_nI (by omega), if_pos ((sOf_iff _ _).mpr (by first | exact Or.inl h_33 | exact Or.inr (Or.inl h_38) | exact Or.inr (Or.inr (Or.inl ⟨by first | exact h_43 | exact Decidable.not_not.mp h_43, h_48⟩)) | exact Or.inr (Or.inr (Or.inr ⟨by first | exact h_53 | exact Decidable.not_not.mp h_53, by first | exact h_58 | exact Decidable.not_not.mp h_58⟩))))]; exact ⟨rfl, mq_rf hV⟩) | exact J_iret dX7_as_88  (by unfold sq_as; rw [if_pos (show sIsM (abM (w.1 69)) (nI k) ∧ (0 ≤ c ∧ c ≤ 6) from ⟨jb_n h_5, jb_n h_15⟩), nn_nI (by omega), if_neg (fun q => absurd ((sOf_iff _ _).mp q) (fun q => by rcases q with q | q | q | q <;> first | exact h_33 q | exact h_38 q | exact h_43 q.1 | exact h_48 q.2 | exact h_53 q.1 | exact h_58 q.2))]; exact ⟨rfl, mq_err hV (by decide)⟩)
              · refine J_iload_n (pc' := 57) dX7_as_56 rfl rfl ?_
                refine J_iconst (v := 5) (pc' := 58) dX7_as_57 (by decide) rfl ?_
                refine J_icmp_ne 65 (pc' := 61) dX7_as_58 (by decide) rfl (fun h_58 => ?_) (fun h_58 => ?_)
                · refine J_iconst (v := 0) (pc' := 66) dX7_as_65 (by decide) rfl ?_
                  refine J_istore (pc' := 68) dX7_as_66 (Nat.le_of_ble_eq_true rfl) (jst4 rfl rfl) rfl ?_
                  refine J_iload (pc' := 70) dX7_as_68 rfl rfl ?_
                  refine J_if_eq 82 (pc' := 73) dX7_as_70 (by decide) rfl (fun h_70 => ?_) (fun h_70 => absurd rfl h_70)
                  refine J_aload_n (pc' := 83) dX7_as_82 rfl rfl ?_
                  refine J_ldc (pc' := 85) dX7_as_83 kc_7_140 rfl ?_
                  refine J_V1v (pc' := 88) dX7_as_85 lk_7_126 cd_X7_error (k_merr (k := 5) (by decide) (by decide)) (ly_68) (l84_68) rfl rfl (jroom_of rfl) (Nat.le_of_ble_eq_true rfl) rfl ?_
                  first | exact J_iret dX7_as_88  (by unfold sq_as; rw [if_pos (show sIsM (abM (w.1 69)) (nI k) ∧ (0 ≤ c ∧ c ≤ 6) from ⟨jb_n h_5, jb_n h_15⟩), nn_nI (by omega), if_pos ((sOf_iff _ _).mpr (by first | exact Or.inl h_33 | exact Or.inr (Or.inl h_38) | exact Or.inr (Or.inr (Or.inl ⟨by first | exact h_43 | exact Decidable.not_not.mp h_43, h_48⟩)) | exact Or.inr (Or.inr (Or.inr ⟨by first | exact h_53 | exact Decidable.not_not.mp h_53, by first | exact h_58 | exact Decidable.not_not.mp h_58⟩))))]; exact ⟨rfl, mq_rf hV⟩) | exact J_iret dX7_as_88  (by unfold sq_as; rw [if_pos (show sIsM (abM (w.1 69)) (nI k) ∧ (0 ≤ c ∧ c ≤ 6) from ⟨jb_n h_5, jb_n h_15⟩), nn_nI (by omega), if_neg (fun q => absurd ((sOf_iff _ _).mp q) (fun q => by rcases q with q | q | q | q <;> first | exact h_33 q | exact h_38 q | exact h_43 q.1 | exact h_48 q.2 | exact h_53 q.1 | exact h_58 q.2))]; exact ⟨rfl, mq_err hV (by decide)⟩)
                · refine J_iconst (v := 1) (pc' := 62) dX7_as_61 (by decide) rfl ?_
                  refine J_goto (pc' := 0) 66 dX7_as_62 (by decide) ?_
                  refine J_istore (pc' := 68) dX7_as_66 (Nat.le_of_ble_eq_true rfl) (jst4 rfl rfl) rfl ?_
                  refine J_iload (pc' := 70) dX7_as_68 rfl rfl ?_
                  refine J_if_eq 82 (pc' := 73) dX7_as_70 (by decide) rfl (fun h_70 => absurd h_70 (by decide)) (fun h_70 => ?_)
                  refine J_aload_n (pc' := 74) dX7_as_73 rfl rfl ?_
                  refine J_iload_n (pc' := 75) dX7_as_74 rfl rfl ?_
                  refine J_iconst (v := 1) (pc' := 76) dX7_as_75 (by decide) rfl ?_
                  refine J_V2v (pc' := 79) dX7_as_76 lk_7_65 cd_X7_of (k_mof1 h8) (ly_68) (l84_68) rfl rfl (jroom_of rfl) (Nat.le_of_ble_eq_true rfl) rfl ?_
                  refine J_goto (pc' := 0) 88 dX7_as_79 (by decide) ?_
                  first | exact J_iret dX7_as_88  (by unfold sq_as; rw [if_pos (show sIsM (abM (w.1 69)) (nI k) ∧ (0 ≤ c ∧ c ≤ 6) from ⟨jb_n h_5, jb_n h_15⟩), nn_nI (by omega), if_pos ((sOf_iff _ _).mpr (by first | exact Or.inl h_33 | exact Or.inr (Or.inl h_38) | exact Or.inr (Or.inr (Or.inl ⟨by first | exact h_43 | exact Decidable.not_not.mp h_43, h_48⟩)) | exact Or.inr (Or.inr (Or.inr ⟨by first | exact h_53 | exact Decidable.not_not.mp h_53, by first | exact h_58 | exact Decidable.not_not.mp h_58⟩))))]; exact ⟨rfl, mq_rf hV⟩) | exact J_iret dX7_as_88  (by unfold sq_as; rw [if_pos (show sIsM (abM (w.1 69)) (nI k) ∧ (0 ≤ c ∧ c ≤ 6) from ⟨jb_n h_5, jb_n h_15⟩), nn_nI (by omega), if_neg (fun q => absurd ((sOf_iff _ _).mp q) (fun q => by rcases q with q | q | q | q <;> first | exact h_33 q | exact h_38 q | exact h_43 q.1 | exact h_48 q.2 | exact h_53 q.1 | exact h_58 q.2))]; exact ⟨rfl, mq_err hV (by decide)⟩)
    · refine J_aload_n (pc' := 19) dX7_as_18 rfl rfl ?_
      refine J_ldc (pc' := 21) dX7_as_19 kc_7_125 rfl ?_
      refine J_V1v (pc' := 24) dX7_as_21 lk_7_126 cd_X7_error (k_merr (k := 1) (by decide) (by decide)) (ly_68) (l84_68) rfl rfl (jroom_of rfl) (Nat.le_of_ble_eq_true rfl) rfl ?_
      exact J_iret dX7_as_24  (by unfold sq_as; rw [if_neg (show ¬ (sIsM (abM (w.1 69)) x ∧ (0 ≤ c ∧ c ≤ 6)) from fun q => by first | exact jb_0.mp h_5 q.1 | exact jb_0.mp h_15 q.2)]; exact ⟨rfl, mq_err hV (by decide)⟩)
set_option maxHeartbeats 4000000 in
set_option maxRecDepth 100000 in
theorem b_X7_limit {G : jG} {w : jWd} (hV : MInv w) (hI : sInv (abM (w.1 69))) {v : Int32} : jKp G 2 yX7_limit cX7_limit 2 (some .int) [.ref 68, .int v] w (some (.int (sq_limit (abM (w.1 69)) (abM (w.1 70)) (restM w) v).1)) (fun w' => RQ w w' (sq_limit (abM (w.1 69)) (abM (w.1 70)) (restM w) v).2) := by
  have hT := hV.1
  refine jK_of (own := RX7) [some (.ref 68), some (.int v)] pn7 rfl (Nat.le_of_ble_eq_true rfl) rfl ?_
  refine J_iload_n (pc' := 1) dX7_limit_0 rfl rfl ?_
  refine J_iconst (v := 0) (pc' := 2) dX7_limit_1 (by decide) rfl ?_
  refine J_bipush (v := 99) (pc' := 4) dX7_limit_2 (by decide) rfl ?_
  refine J_S3v (pc' := 7) dX7_limit_4 lk_7_61 cd_X7_in (k_X7_in) (jroom_of rfl) (Nat.le_of_ble_eq_true rfl) rfl ?_
  refine J_if_eq 19 (pc' := 10) dX7_limit_7 (by decide) rfl (fun h_7 => ?_) (fun h_7 => ?_)
  · refine J_aload_n (pc' := 20) dX7_limit_19 rfl rfl ?_
    refine J_ldc (pc' := 22) dX7_limit_20 kc_7_125 rfl ?_
    refine J_V1v (pc' := 25) dX7_limit_22 lk_7_126 cd_X7_error (k_merr (k := 1) (by decide) (by decide)) (ly_68) (l84_68) rfl rfl (jroom_of rfl) (Nat.le_of_ble_eq_true rfl) rfl ?_
    first | exact J_iret dX7_limit_25  (by unfold sq_limit; rw [if_pos (show 0 ≤ v ∧ v ≤ 99 from jb_n h_7)]; exact ⟨rfl, mq_row hV ((frG.rf w).set (by omega)) amc4⟩) | exact J_iret dX7_limit_25  (by unfold sq_limit; rw [if_neg (show ¬ (0 ≤ v ∧ v ≤ 99) from fun q => by first | exact jb_0.mp h_7 q)]; exact ⟨rfl, mq_err hV (by decide)⟩)
  · refine J_aload_n (pc' := 11) dX7_limit_10 rfl rfl ?_
    refine J_iconst (v := 4) (pc' := 12) dX7_limit_11 (by decide) rfl ?_
    refine J_iload_n (pc' := 13) dX7_limit_12 rfl rfl ?_
    refine J_V2v (pc' := 16) dX7_limit_13 lk_7_137 cd_X7_becomes (k_mbec (i := 4) (by omega) nIc_4) (ly_68) (l84_68) rfl rfl (jroom_of rfl) (Nat.le_of_ble_eq_true rfl) rfl ?_
    refine J_goto (pc' := 0) 25 dX7_limit_16 (by decide) ?_
    first | exact J_iret dX7_limit_25  (by unfold sq_limit; rw [if_pos (show 0 ≤ v ∧ v ≤ 99 from jb_n h_7)]; exact ⟨rfl, mq_row hV ((frG.rf w).set (by omega)) amc4⟩) | exact J_iret dX7_limit_25  (by unfold sq_limit; rw [if_neg (show ¬ (0 ≤ v ∧ v ≤ 99) from fun q => by first | exact jb_0.mp h_7 q)]; exact ⟨rfl, mq_err hV (by decide)⟩)
set_option maxHeartbeats 4000000 in
set_option maxRecDepth 100000 in
theorem b_X7_round {G : jG} {w : jWd} (hV : MInv w) (hI : sInv (abM (w.1 69))) {v : Int32} : jKp G 2 yX7_round cX7_round 2 (some .int) [.ref 68, .int v] w (some (.int (sq_round (abM (w.1 69)) (abM (w.1 70)) (restM w) v).1)) (fun w' => RQ w w' (sq_round (abM (w.1 69)) (abM (w.1 70)) (restM w) v).2) := by
  have hT := hV.1
  refine jK_of (own := RX7) [some (.ref 68), some (.int v)] pn7 rfl (Nat.le_of_ble_eq_true rfl) rfl ?_
  refine J_iload_n (pc' := 1) dX7_round_0 rfl rfl ?_
  refine J_iconst (v := 0) (pc' := 2) dX7_round_1 (by decide) rfl ?_
  refine J_sipush (v := 9999) (pc' := 5) dX7_round_2 (by decide) rfl ?_
  refine J_S3v (pc' := 8) dX7_round_5 lk_7_61 cd_X7_in (k_X7_in) (jroom_of rfl) (Nat.le_of_ble_eq_true rfl) rfl ?_
  refine J_if_eq 20 (pc' := 11) dX7_round_8 (by decide) rfl (fun h_8 => ?_) (fun h_8 => ?_)
  · refine J_aload_n (pc' := 21) dX7_round_20 rfl rfl ?_
    refine J_ldc (pc' := 23) dX7_round_21 kc_7_125 rfl ?_
    refine J_V1v (pc' := 26) dX7_round_23 lk_7_126 cd_X7_error (k_merr (k := 1) (by decide) (by decide)) (ly_68) (l84_68) rfl rfl (jroom_of rfl) (Nat.le_of_ble_eq_true rfl) rfl ?_
    first | exact J_iret dX7_round_26  (by unfold sq_round; rw [if_pos (show 0 ≤ v ∧ v ≤ 9999 from jb_n h_8)]; exact ⟨rfl, mq_row hV ((frG.rf w).set (by omega)) amc0⟩) | exact J_iret dX7_round_26  (by unfold sq_round; rw [if_neg (show ¬ (0 ≤ v ∧ v ≤ 9999) from fun q => by first | exact jb_0.mp h_8 q)]; exact ⟨rfl, mq_err hV (by decide)⟩)
  · refine J_aload_n (pc' := 12) dX7_round_11 rfl rfl ?_
    refine J_iconst (v := 0) (pc' := 13) dX7_round_12 (by decide) rfl ?_
    refine J_iload_n (pc' := 14) dX7_round_13 rfl rfl ?_
    refine J_V2v (pc' := 17) dX7_round_14 lk_7_137 cd_X7_becomes (k_mbec (i := 0) (by omega) nIc_0) (ly_68) (l84_68) rfl rfl (jroom_of rfl) (Nat.le_of_ble_eq_true rfl) rfl ?_
    refine J_goto (pc' := 0) 26 dX7_round_17 (by decide) ?_
    first | exact J_iret dX7_round_26  (by unfold sq_round; rw [if_pos (show 0 ≤ v ∧ v ≤ 9999 from jb_n h_8)]; exact ⟨rfl, mq_row hV ((frG.rf w).set (by omega)) amc0⟩) | exact J_iret dX7_round_26  (by unfold sq_round; rw [if_neg (show ¬ (0 ≤ v ∧ v ≤ 9999) from fun q => by first | exact jb_0.mp h_8 q)]; exact ⟨rfl, mq_err hV (by decide)⟩)
set_option maxHeartbeats 4000000 in
set_option maxRecDepth 100000 in
theorem b_X7_seed {G : jG} {w : jWd} (hV : MInv w) (hI : sInv (abM (w.1 69))) {v : Int32} : jKp G 1 yX7_seed cX7_seed 2 (some .int) [.ref 68, .int v] w (some (.int (sq_seed (abM (w.1 69)) (abM (w.1 70)) (restM w) v).1)) (fun w' => RQ w w' (sq_seed (abM (w.1 69)) (abM (w.1 70)) (restM w) v).2) := by
  have hT := hV.1
  refine jK_of (own := RX7) [some (.ref 68), some (.int v)] pn7 rfl (Nat.le_of_ble_eq_true rfl) rfl ?_
  refine J_aload_n (pc' := 1) dX7_seed_0 rfl rfl ?_
  refine J_iconst (v := 1) (pc' := 2) dX7_seed_1 (by decide) rfl ?_
  refine J_iload_n (pc' := 3) dX7_seed_2 rfl rfl ?_
  refine J_V2v (pc' := 6) dX7_seed_3 lk_7_137 cd_X7_becomes (k_mbec (i := 1) (by omega) nIc_1) (ly_68) (l84_68) rfl rfl (jroom_of rfl) (Nat.le_of_ble_eq_true rfl) rfl ?_
  exact J_iret dX7_seed_6  ⟨rfl, mq_row hV ((frG.rf w).set (by omega)) amc1⟩
set_option maxHeartbeats 4000000 in
set_option maxRecDepth 100000 in
theorem b_X7_told {G : jG} {w : jWd} (hV : MInv w) (hI : sInv (abM (w.1 69))) {x : Int32} : jKp G 1 yX7_told cX7_told 2 (some .int) [.ref 68, .int x] w (some (.int (sq_told (abM (w.1 69)) (abM (w.1 70)) (restM w) x).1)) (fun w' => RQ w w' (sq_told (abM (w.1 69)) (abM (w.1 70)) (restM w) x).2) := by
  have hT := hV.1
  refine jK_of (own := RX7) [some (.ref 68), some (.int x)] pn7 rfl (Nat.le_of_ble_eq_true rfl) rfl ?_
  refine J_iload_n (pc' := 1) dX7_told_0 rfl rfl ?_
  refine J_iconst (v := 1) (pc' := 2) dX7_told_1 (by decide) rfl ?_
  refine J_bipush (v := 6) (pc' := 4) dX7_told_2 (by decide) rfl ?_
  refine J_S3v (pc' := 7) dX7_told_4 lk_7_61 cd_X7_in (k_X7_in) (jroom_of rfl) (Nat.le_of_ble_eq_true rfl) rfl ?_
  refine J_if_eq 19 (pc' := 10) dX7_told_7 (by decide) rfl (fun h_7 => ?_) (fun h_7 => ?_)
  · refine J_aload_n (pc' := 20) dX7_told_19 rfl rfl ?_
    refine J_ldc (pc' := 22) dX7_told_20 kc_7_125 rfl ?_
    refine J_V1v (pc' := 25) dX7_told_22 lk_7_126 cd_X7_error (k_merr (k := 1) (by decide) (by decide)) (ly_68) (l84_68) rfl rfl (jroom_of rfl) (Nat.le_of_ble_eq_true rfl) rfl ?_
    first | exact J_iret dX7_told_25  (by unfold sq_told; rw [if_pos (show 1 ≤ nI c ∧ nI c ≤ 6 from jb_n h_7), nn_nI (by omega)]; exact ⟨jv (show w.1 72 c = restM w 0 c from (if_pos (by omega)).symm), mq_rf hV⟩) | exact J_iret dX7_told_25  (by unfold sq_told; rw [if_neg (show ¬ (1 ≤ x ∧ x ≤ 6) from fun q => by first | exact jb_0.mp h_7 q)]; exact ⟨rfl, mq_err hV (by decide)⟩)
  · obtain ⟨c, hc0, hc7, rfl⟩ := nI_wi (a := 1) (b := 6) (by decide) (by decide) (jb_n h_7)
    refine J_aload_n (pc' := 11) dX7_told_10 rfl rfl ?_
    refine J_getR (pc' := 14) dX7_told_11 fl_7_19 (ly_68) (l84_68) rfl rfl ?_
    refine J_iload_n (pc' := 15) dX7_told_14 rfl rfl ?_
    refine J_iald c (pc' := 16) dX7_told_15 (ly_72) (l84_72) rfl (by omega) (by decide) rfl ?_
    refine J_goto (pc' := 0) 25 dX7_told_16 (by decide) ?_
    first | exact J_iret dX7_told_25  (by unfold sq_told; rw [if_pos (show 1 ≤ nI c ∧ nI c ≤ 6 from jb_n h_7), nn_nI (by omega)]; exact ⟨jv (show w.1 72 c = restM w 0 c from (if_pos (by omega)).symm), mq_rf hV⟩) | exact J_iret dX7_told_25  (by unfold sq_told; rw [if_neg (show ¬ (1 ≤ x ∧ x ≤ 6) from fun q => by first | exact jb_0.mp h_7 q)]; exact ⟨rfl, mq_err hV (by decide)⟩)
set_option maxHeartbeats 4000000 in
set_option maxRecDepth 100000 in
theorem b_X7_body {G : jG} {w : jWd} (hV : MInv w) (hI : sInv (abM (w.1 69))) (hR : rInv (restM w)) {x : Int32} : jKp G 1 yX7_body cX7_body 2 (some .int) [.ref 68, .int x] w (some (.int (sq_body (abM (w.1 69)) (abM (w.1 70)) (restM w) x).1)) (fun w' => RQ w w' (sq_body (abM (w.1 69)) (abM (w.1 70)) (restM w) x).2) := by
  have hT := hV.1
  refine jK_of (own := RX7) [some (.ref 68), some (.int x)] pn7 rfl (Nat.le_of_ble_eq_true rfl) rfl ?_
  refine J_iload_n (pc' := 1) dX7_body_0 rfl rfl ?_
  refine J_iconst (v := 0) (pc' := 2) dX7_body_1 (by decide) rfl ?_
  refine J_aload_n (pc' := 3) dX7_body_2 rfl rfl ?_
  refine J_getI (pc' := 6) dX7_body_3 fl_7_262 (ly_68) (l84_68) rfl rfl ?_
  refine J_iconst (v := 1) (pc' := 7) dX7_body_6 (by decide) rfl ?_
  refine J_isub (pc' := 8) dX7_body_7 rfl ?_
  refine J_S3v (pc' := 11) dX7_body_8 lk_7_61 cd_X7_in (k_X7_in) (jroom_of rfl) (Nat.le_of_ble_eq_true rfl) rfl ?_
  refine J_if_eq 23 (pc' := 14) dX7_body_11 (by decide) rfl (fun h_11 => ?_) (fun h_11 => ?_)
  · refine J_aload_n (pc' := 24) dX7_body_23 rfl rfl ?_
    refine J_ldc (pc' := 26) dX7_body_24 kc_7_248 rfl ?_
    refine J_V1v (pc' := 29) dX7_body_26 lk_7_126 cd_X7_error (k_merr (k := 2) (by decide) (by decide)) (ly_68) (l84_68) rfl rfl (jroom_of rfl) (Nat.le_of_ble_eq_true rfl) rfl ?_
    first | exact J_iret dX7_body_29  (by unfold sq_body; rw [if_pos (show 0 ≤ nI c ∧ nI c ≤ restM w 9 0 - 1 from jb_n h_11), nn_nI (by omega)]; exact ⟨jv (show w.1 83 c = restM w 8 c from (if_pos (by rw [show w.1 68 22 = nI n from hn, nn_nI (by omega)]; exact hc)).symm), mq_rf hV⟩) | exact J_iret dX7_body_29  (by unfold sq_body; rw [if_neg (show ¬ (0 ≤ x ∧ x ≤ restM w 9 0 - 1) from jb_0.mp h_11)]; exact ⟨rfl, mq_err hV (by decide)⟩)
  · obtain ⟨n, hn, hn30⟩ := hR.1
    obtain ⟨c, hc, rfl⟩ := sIs_ex (show restM w 9 0 = nI n from hn) (by omega) (jb_n h_11)
    refine J_aload_n (pc' := 15) dX7_body_14 rfl rfl ?_
    refine J_getR (pc' := 18) dX7_body_15 fl_7_53 (ly_68) (l84_68) rfl rfl ?_
    refine J_iload_n (pc' := 19) dX7_body_18 rfl rfl ?_
    refine J_iald c (pc' := 20) dX7_body_19 (ly_83) (l84_83) rfl (by omega) (by decide) rfl ?_
    refine J_goto (pc' := 0) 29 dX7_body_20 (by decide) ?_
    first | exact J_iret dX7_body_29  (by unfold sq_body; rw [if_pos (show 0 ≤ nI c ∧ nI c ≤ restM w 9 0 - 1 from jb_n h_11), nn_nI (by omega)]; exact ⟨jv (show w.1 83 c = restM w 8 c from (if_pos (by rw [show w.1 68 22 = nI n from hn, nn_nI (by omega)]; exact hc)).symm), mq_rf hV⟩) | exact J_iret dX7_body_29  (by unfold sq_body; rw [if_neg (show ¬ (0 ≤ x ∧ x ≤ restM w 9 0 - 1) from jb_0.mp h_11)]; exact ⟨rfl, mq_err hV (by decide)⟩)
set_option maxHeartbeats 4000000 in
set_option maxRecDepth 100000 in
theorem b_X7_tell {G : jG} {w : jWd} (hV : MInv w) (hI : sInv (abM (w.1 69))) {v : Int32} : jKp G 1 yX7_tell cX7_tell 2 (some .int) [.ref 68, .int v] w (some (.int (sq_tell (abM (w.1 69)) (abM (w.1 70)) (restM w) v).1)) (fun w' => RQ w w' (sq_tell (abM (w.1 69)) (abM (w.1 70)) (restM w) v).2) := by
  obtain ⟨W, hW, hW24⟩ : ∃ n, (abM (w.1 69)) 6 7 = nI n ∧ n ≤ 24 := hI.2.2.2.2.2.2.1
  have hW2 : w.1 69 7 = nI W := hW
  have h24 : nI W = 24 ↔ W = 24 := by rw [nIc_24]; exact nI_eq (by omega) (by omega)
  have h24b : 24 ≤ (abM (w.1 69)) 6 7 ↔ 24 ≤ W := by rw [hW, nIc_24]; exact nI_leI (by omega) (by omega)
  have hT := hV.1
  refine jK_of (own := RX7) [some (.ref 68), some (.int v)] pn7 rfl (Nat.le_of_ble_eq_true rfl) rfl ?_
  refine J_aload_n (pc' := 1) dX7_tell_0 rfl rfl ?_
  refine J_getR (pc' := 4) dX7_tell_1 fl_7_9 (ly_68) (l84_68) rfl rfl ?_
  refine J_bipush (v := 7) (pc' := 6) dX7_tell_4 (by decide) rfl ?_
  refine J_iald 7 (pc' := 7) dX7_tell_6 (ly_69) (l84_69) nIc_7 (by decide) (by decide) rfl ?_
  rw [hW2]
  refine J_bipush (v := 24) (pc' := 9) dX7_tell_7 (by decide) rfl ?_
  refine J_icmp_ne 19 (pc' := 12) dX7_tell_9 (by decide) rfl (fun h_9 => ?_) (fun h_9 => ?_)
  · refine J_aload_n (pc' := 20) dX7_tell_19 rfl rfl ?_
    refine J_getR (pc' := 23) dX7_tell_20 fl_7_9 (ly_68) (l84_68) rfl rfl ?_
    refine J_bipush (v := 116) (pc' := 25) dX7_tell_23 (by decide) rfl ?_
    refine J_aload_n (pc' := 26) dX7_tell_25 rfl rfl ?_
    refine J_getR (pc' := 29) dX7_tell_26 fl_7_9 (ly_68) (l84_68) rfl rfl ?_
    refine J_bipush (v := 7) (pc' := 31) dX7_tell_29 (by decide) rfl ?_
    refine J_iald 7 (pc' := 32) dX7_tell_31 (ly_69) (l84_69) nIc_7 (by decide) (by decide) rfl ?_
    rw [hW2]
    refine J_iadd (pc' := 33) dX7_tell_32 rfl ?_
    refine J_iload_n (pc' := 34) dX7_tell_33 rfl rfl ?_
    refine J_iast (116 + W) (pc' := 35) dX7_tell_34 (ly_69) (l84_69) (jadd (by decide) rfl) (by have : ¬ W = 24 := fun q => h_9 (h24.mpr q); omega) (by decide) rfl ?_
    refine J_aload_n (pc' := 36) dX7_tell_35 rfl rfl ?_
    refine J_getR (pc' := 39) dX7_tell_36 fl_7_9 (ly_68) (l84_68) rfl rfl ?_
    refine J_bipush (v := 7) (pc' := 41) dX7_tell_39 (by decide) rfl ?_
    refine J_dup2 (pc' := 42) dX7_tell_41 rfl rfl rfl ?_
    refine J_iald 7 (pc' := 43) dX7_tell_42 (ly_69) (l84_69) nIc_7 (by decide) (by decide) rfl ?_
    rw [show (jset w 69 (116 + W) v).1 69 7 = nI W from by rw [jset_1, if_pos rfl, if_neg (by omega)]; exact hW2]
    refine J_iconst (v := 1) (pc' := 44) dX7_tell_43 (by decide) rfl ?_
    refine J_iadd (pc' := 45) dX7_tell_44 rfl ?_
    refine J_iast 7 (pc' := 46) dX7_tell_45 (ly_69) (l84_69) nIc_7 (by decide) (by decide) rfl ?_
    refine J_aload_n (pc' := 47) dX7_tell_46 rfl rfl ?_
    refine J_getR (pc' := 50) dX7_tell_47 fl_7_9 (ly_68) (l84_68) rfl rfl ?_
    refine J_bipush (v := 7) (pc' := 52) dX7_tell_50 (by decide) rfl ?_
    refine J_iald 7 (pc' := 53) dX7_tell_52 (ly_69) (l84_69) nIc_7 (by decide) (by decide) rfl ?_
    rw [show (jset (jset w 69 (116 + W) v) 69 7 (nI W + 1)).1 69 7 = nI W + 1 from by rw [jset_1, if_pos rfl, if_pos rfl]]
    have hW23 : W < 24 := by have : ¬ W = 24 := fun q => h_9 (h24.mpr q); omega
    have hn24 : ¬ 24 ≤ (abM (w.1 69)) 6 7 := fun q => by have := h24b.mp q; omega
    exact J_iret dX7_tell_53  (by unfold sq_tell; rw [if_neg hn24, hW, nn_nI (show W < 2 ^ 31 by omega)]; exact ⟨rfl, mq_row hV (((frG.rf w).set (i := 116 + W) (by omega)).set (i := 7) (by omega)) (by rw [amc7, amw hW23])⟩)
  · refine J_aload_n (pc' := 13) dX7_tell_12 rfl rfl ?_
    refine J_ldc (pc' := 15) dX7_tell_13 kc_7_129 rfl ?_
    refine J_V1v (pc' := 18) dX7_tell_15 lk_7_126 cd_X7_error (k_merr (k := 4) (by decide) (by decide)) (ly_68) (l84_68) rfl rfl (jroom_of rfl) (Nat.le_of_ble_eq_true rfl) rfl ?_
    exact J_iret dX7_tell_18  (by unfold sq_tell; rw [if_pos (h24b.mpr (by have := h24.mp (by first | exact h_9 | exact Decidable.not_not.mp h_9); omega))]; exact ⟨rfl, mq_err hV (by decide)⟩)
