/-! ===== the reference: calls ===== -/
/-! ===== the reference: calls ===== -/
def MInv (w : jWd) : Prop := mT (w.1 69) ∧ mT (w.1 70)
def frX (w w2 : jWd) : Prop := ∀ a, a < 68 → w2.1 a = w.1 a ∧ w2.2 a = w.2 a
/-- the state behind a call of the reference -/
def RQ (w w2 : jWd) (q : sg × sg × sg) : Prop := abM (w2.1 69) = q.1 ∧ abM (w2.1 70) = q.2.1 ∧ restM w2 = q.2.2 ∧ MInv w2 ∧ frX w w2
theorem mq_rf {w : jWd} (hV : MInv w) : RQ w w (abM (w.1 69), abM (w.1 70), restM w) := ⟨rfl, rfl, rfl, hV, fun _ _ => ⟨rfl, rfl⟩⟩
theorem frG.rm {w w2 : jWd} (h : frG w w2) : restM w2 = restM w := restM_congr (fun a _ q _ _ => h.1 a q)
theorem frG.x {w w2 : jWd} (h : frG w w2) : frX w w2 := fun a q => ⟨h.1 a (by omega), h.2.1 a q⟩
theorem frG.v {w w2 : jWd} (h : frG w w2) (hV : MInv w) : MInv w2 := ⟨h.mt hV.1, by rw [h.1 70 (by decide)]; exact hV.2⟩
theorem mq_row {w w2 : jWd} {σ : sg} (hV : MInv w) (h : frG w w2) (e : abM (w2.1 69) = σ) : RQ w w2 (σ, abM (w.1 70), restM w) := ⟨e, by rw [h.1 70 (by decide)], h.rm, h.v hV, h.x⟩
theorem mq_any {w w2 : jWd} {r : sg} (hV : MInv w) (h69 : w2.1 69 = w.1 69) (h70 : w2.1 70 = w.1 70) (hx : frX w w2) (hr : restM w2 = r) : RQ w w2 (abM (w.1 69), abM (w.1 70), r) := ⟨by rw [h69], by rw [h70], hr, ⟨by rw [h69]; exact hV.1, by rw [h70]; exact hV.2⟩, hx⟩
theorem mx_set {w w2 : jWd} (h : frX w w2) {a k : Nat} {v : Int32} (ha : 68 ≤ a) : frX w (jset w2 a k v) := fun b q => ⟨by rw [jset_off (by omega)]; exact (h b q).1, (h b q).2⟩
theorem rm_err {w : jWd} {k : Nat} (hk : k < 7) : restM (jset w 72 k (w.1 72 k + 1)) = sEr (restM w) k := by
  have e0 : restM w 0 k = w.1 72 k := if_pos hk
  funext f j
  unfold sEr
  rw [e0]
  match f with
  | 0 =>
    show (if j < 7 then (jset w 72 k (w.1 72 k + 1)).1 72 j else 0) = (if 0 = 0 ∧ j = k then w.1 72 k + 1 else if j < 7 then w.1 72 j else 0)
    rw [jset_1, if_pos rfl]
    by_cases e : j = k
    · rw [if_pos (show 0 = 0 ∧ j = k from ⟨rfl, e⟩), if_pos (show j < 7 by omega), if_pos e]
    · rw [if_neg (show ¬ (0 = 0 ∧ j = k) from fun q => e q.2), if_neg e]
  | 1 => rfl
  | 2 => rfl
  | 3 => rfl
  | 4 => rfl
  | 5 => rfl
  | 6 => rfl
  | 7 => rfl
  | 8 => rfl
  | 9 => rfl
  | n + 10 => rfl
theorem sg1_sw {σ : sg} {f g k j : Nat} {a b : Int32} (h : f ≠ g) : sg1 (sg1 σ f k a) g j b = sg1 (sg1 σ g j b) f k a := by
  funext x i
  unfold sg1
  by_cases e : x = g ∧ i = j
  · rw [if_pos e, if_neg (fun q => h (q.1.symm.trans e.1)), if_pos e]
  · rw [if_neg e]
    by_cases e2 : x = f ∧ i = k
    · rw [if_pos e2, if_pos e2]
    · rw [if_neg e2, if_neg e2, if_neg e]
theorem mq_err2 {w v : jWd} {q : sg × sg × sg} (h : RQ w v q) {k : Nat} (hk : k < 7) : RQ w (jset v 72 k (v.1 72 k + 1)) (q.1, q.2.1, sEr q.2.2 k) :=
  ⟨by rw [jset_off (by decide)]; exact h.1, by rw [jset_off (by decide)]; exact h.2.1, by rw [rm_err hk, h.2.2.1], ⟨by rw [jset_off (by decide)]; exact h.2.2.2.1.1, by rw [jset_off (by decide)]; exact h.2.2.2.1.2⟩, mx_set h.2.2.2.2 (by decide)⟩
theorem mq_err {w : jWd} (hV : MInv w) {k : Nat} (hk : k < 7) : RQ w (jset w 72 k (w.1 72 k + 1)) (abM (w.1 69), abM (w.1 70), sEr (restM w) k) := mq_err2 (mq_rf hV) hk
set_option maxHeartbeats 4000000 in
set_option maxRecDepth 100000 in
theorem b_X7_become {G : jG} {w : jWd} (hV : MInv w) (hI : sInv (abM (w.1 69))) {x : Int32} {km : Int32} : jKp G 3 yX7_become cX7_become 3 (some .int) [.ref 68, .int x, .int km] w (some (.int (sq_become (abM (w.1 69)) (abM (w.1 70)) (restM w) x km).1)) (fun w' => RQ w w' (sq_become (abM (w.1 69)) (abM (w.1 70)) (restM w) x km).2) := by
  have hT := hV.1
  refine jK_of (own := RX7) [some (.ref 68), some (.int x), some (.int km)] pn7 rfl (Nat.le_of_ble_eq_true rfl) rfl ?_
  refine J_aload_n (pc' := 1) dX7_become_0 rfl rfl ?_
  refine J_iload_n (pc' := 2) dX7_become_1 rfl rfl ?_
  refine J_V1v (pc' := 5) dX7_become_2 lk_7_134 cd_X7_isMark (k_X7_isMark) (ly_68) (l84_68) rfl rfl (jroom_of rfl) (Nat.le_of_ble_eq_true rfl) rfl ?_
  refine J_if_eq 15 (pc' := 8) dX7_become_5 (by decide) rfl (fun h_5 => ?_) (fun h_5 => ?_)
  · refine J_aload_n (pc' := 16) dX7_become_15 rfl rfl ?_
    refine J_ldc (pc' := 18) dX7_become_16 kc_7_125 rfl ?_
    refine J_V1v (pc' := 21) dX7_become_18 lk_7_126 cd_X7_error (k_merr (k := 1) (by decide) (by decide)) (ly_68) (l84_68) rfl rfl (jroom_of rfl) (Nat.le_of_ble_eq_true rfl) rfl ?_
    exact J_iret dX7_become_21  (by unfold sq_become; rw [if_neg (show ¬ (sIsM (abM (w.1 69)) x ∧ (0 ≤ km ∧ km ≤ 69)) from fun q => by first | exact jb_0.mp h_5 q.1 | exact jb_0.mp h_12 q.2)]; exact ⟨rfl, mq_err hV (by decide)⟩)
  · refine J_iload_n (pc' := 9) dX7_become_8 rfl rfl ?_
    refine J_S1v (pc' := 12) dX7_become_9 lk_7_119 cd_X7_isKm (k_X7_isKm) (jroom_of rfl) (Nat.le_of_ble_eq_true rfl) rfl ?_
    refine J_if_ne 22 (pc' := 15) dX7_become_12 (by decide) rfl (fun h_12 => ?_) (fun h_12 => ?_)
    · obtain ⟨k, hk, rfl⟩ := sIsM_ex hI (jb_n h_5)
      have h8 : k < 8 := Nat.lt_of_lt_of_le hk (sIM hI).2
      refine J_aload_n (pc' := 23) dX7_become_22 rfl rfl ?_
      refine J_iload_n (pc' := 24) dX7_become_23 rfl rfl ?_
      refine J_iconst (v := 1) (pc' := 25) dX7_become_24 (by decide) rfl ?_
      refine J_iload_n (pc' := 26) dX7_become_25 rfl rfl ?_
      refine J_bipush (v := 10) (pc' := 28) dX7_become_26 (by decide) rfl ?_
      refine J_irem (pc' := 29) dX7_become_28 (by decide) rfl ?_
      refine J_V30 (pc' := 32) dX7_become_29 lk_7_130 cd_X7_puts (k_mputs h8 (c := 1) (by decide) nIc_1) (ly_68) (l84_68) rfl rfl (jroom_of rfl) (Nat.le_of_ble_eq_true rfl) rfl ?_
      refine J_aload_n (pc' := 33) dX7_become_32 rfl rfl ?_
      refine J_bipush (v := 8) (pc' := 35) dX7_become_33 (by decide) rfl ?_
      refine J_bipush (v := 6) (pc' := 37) dX7_become_35 (by decide) rfl ?_
      refine J_iload_n (pc' := 38) dX7_become_37 rfl rfl ?_
      refine J_imul (pc' := 39) dX7_become_38 rfl ?_
      refine J_iadd (pc' := 40) dX7_become_39 rfl ?_
      refine J_iload_n (pc' := 41) dX7_become_40 rfl rfl ?_
      refine J_bipush (v := 10) (pc' := 43) dX7_become_41 (by decide) rfl ?_
      refine J_idiv (pc' := 44) dX7_become_43 (by decide) rfl ?_
      refine J_V2v (pc' := 47) dX7_become_44 lk_7_137 cd_X7_becomes (k_mbec (i := 8 + 6 * k) (by omega) (jadd nIc_8 (jmul nIc_6 rfl))) (ly_68) (l84_68) rfl rfl (jroom_of rfl) (Nat.le_of_ble_eq_true rfl) rfl ?_
      exact J_iret dX7_become_47  (by unfold sq_become; rw [if_pos (show sIsM (abM (w.1 69)) (nI k) ∧ (0 ≤ km ∧ km ≤ 69) from ⟨jb_n h_5, jb_n h_12⟩), nn_nI (by omega)]; exact ⟨jv (by show (jset w 69 (8 + 6 * k + 1) _).1 69 (8 + 6 * k + 0) = _; rw [jset_1, if_pos rfl, if_neg (by omega), am0 h8]), mq_row hV (((frG.rf w).set (by omega)).set (by omega)) (by show abM ((jset (jset w 69 (8 + 6 * k + 1) _) 69 (8 + 6 * k + 0) _).1 69) = _; rw [ams0 h8, ams1 h8]; exact sg1_sw (by decide))⟩)
    · refine J_aload_n (pc' := 16) dX7_become_15 rfl rfl ?_
      refine J_ldc (pc' := 18) dX7_become_16 kc_7_125 rfl ?_
      refine J_V1v (pc' := 21) dX7_become_18 lk_7_126 cd_X7_error (k_merr (k := 1) (by decide) (by decide)) (ly_68) (l84_68) rfl rfl (jroom_of rfl) (Nat.le_of_ble_eq_true rfl) rfl ?_
      exact J_iret dX7_become_21  (by unfold sq_become; rw [if_neg (show ¬ (sIsM (abM (w.1 69)) x ∧ (0 ≤ km ∧ km ≤ 69)) from fun q => by first | exact jb_0.mp h_5 q.1 | exact jb_0.mp h_12 q.2)]; exact ⟨rfl, mq_err hV (by decide)⟩)
