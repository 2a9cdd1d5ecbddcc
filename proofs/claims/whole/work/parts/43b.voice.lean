/-! ===== voice ===== -/
theorem bq_any {w w2 : jWd} {r : sg} (hX : XInv w) (h : ∀ a, (1 ≤ a ∧ a < 46) ∨ 68 ≤ a → w2.1 a = w.1 a) (hL : w2.2 = w.2) (hr : restX w2 = r) : BQ w w2 (abX w 1, abX w 16, r) :=
  ⟨abX_congr (fun a q1 q2 => h a (by omega)), abX_congr (fun a q1 q2 => h a (by omega)), hr, ⟨xB_congr (fun a q1 q2 => h a (by omega)) hX.1, xB_congr (fun a q1 q2 => h a (by omega)) hX.2.1, xB_congr (fun a q1 q2 => h a (by omega)) hX.2.2⟩, fun a q => ⟨h a (by omega), by rw [hL]⟩⟩
/-- what is left besides the block, behind a voice -/
def rT (r : sg) (z : vS) : sg := fun f k => match f with
  | 8 => if k < nn z.2.1 then z.1 k else 0
  | 9 => if k = 0 then z.2.1 else 0
  | f => r f k
theorem rx_vp {w : jWd} {k m kd : Int32} {z z' : vS} (h : vEq z z') : restX (vPut (vW5 w k m kd) z) = rT (restX w) z' := by
  funext f j
  match f with
  | 0 => rfl
  | 1 => rfl
  | 2 => rfl
  | 3 => rfl
  | 4 => rfl
  | 5 => rfl
  | 6 => rfl
  | 7 => rfl
  | 8 =>
    show (if j < nn z.2.1 then z.1 j else 0) = (if j < nn z'.2.1 then z'.1 j else 0)
    by_cases e : j < nn z.2.1
    · rw [if_pos e, if_pos (by rw [← h.1]; exact e)]; exact h.2 j e
    · rw [if_neg e, if_neg (by rw [← h.1]; exact e)]
  | 9 =>
    show (if j = 0 then z.2.1 else 0) = (if j = 0 then z'.2.1 else 0)
    rw [h.1]
  | n + 10 => rfl
theorem vp_off {w : jWd} {k m kd : Int32} {z : vS} {a : Nat} (h7 : a ≠ 57) (h8 : a ≠ 58) : (vPut (vW5 w k m kd) z).1 a = w.1 a := by
  show (if a = 58 then _ else if a = 57 then _ else _) = _
  rw [if_neg h8, if_neg h7]
  show (jset (jset (jset (jset (jset w 57 3 k) 57 4 m) 57 2 kd) 57 5 0) 57 1 0).1 a = _
  rw [jset_off h7, jset_off h7, jset_off h7, jset_off h7, jset_off h7]
def vAn (s r : sg) (x u v : Int32) : Int32 × vS := vSp vB (s 0 (nn x)) x (s 1 (nn x)) 21 (s 0 (nn x)) u v (r 8, 0, 0)
def sq_voice (s k r : sg) (x : Int32) (u : Int32) (v : Int32) : sQI := if sIsM s x ∧ (0 ≤ u ∧ u ≤ 3) then (if (vAn s r x u v).2.2.2 = 0 then ((vAn s r x u v).1, s, k, rT r (vAn s r x u v).2) else (sErr 6, s, k, sEr (rT r (vAn s r x u v).2) 6)) else (sErr 1, s, k, sEr r 1)
set_option maxHeartbeats 4000000 in
set_option maxRecDepth 100000 in
theorem a_X6_voice {G : jG} {w : jWd} (hX : XInv w) (hI : sInv (abX w 1)) {x : Int32} {u : Int32} {v : Int32} : jKp G 45 yX6_voice cX6_voice 5 (some .int) [.ref 0, .int x, .int u, .int v] w (some (.int (sq_voice (abX w 1) (abX w 16) (restX w) x u v).1)) (fun w' => BQ w w' (sq_voice (abX w 1) (abX w 16) (restX w) x u v).2) := by
  refine jK_of (own := RX6) [some (.ref 0), some (.int x), some (.int u), some (.int v), none] pn6 rfl (Nat.le_of_ble_eq_true rfl) rfl ?_
  refine J_aload_n (pc' := 1) dX6_voice_0 rfl rfl ?_
  refine J_iload_n (pc' := 2) dX6_voice_1 rfl rfl ?_
  refine J_V1v (pc' := 5) dX6_voice_2 lk_6_81 cd_X6_isMark (k_X6_isMark) (ly_0) (l84_0) rfl rfl (jroom_of rfl) (Nat.le_of_ble_eq_true rfl) rfl ?_
  refine J_if_eq 17 (pc' := 8) dX6_voice_5 (by decide) rfl (fun h_5 => ?_) (fun h_5 => ?_)
  · refine J_aload_n (pc' := 18) dX6_voice_17 rfl rfl ?_
    refine J_iconst (v := 1) (pc' := 19) dX6_voice_18 (by decide) rfl ?_
    refine J_V1v (pc' := 22) dX6_voice_19 lk_6_69 cd_X6_error (k_err1) (ly_0) (l84_0) rfl rfl (jroom_of rfl) (Nat.le_of_ble_eq_true rfl) rfl ?_
    exact J_iret dX6_voice_22  (by unfold sq_voice; rw [if_neg (fun q => by first | exact jb_0.mp h_5 q.1 | exact jb_0.mp h_14 q.2)]; exact ⟨rfl, bq_err hX (by decide)⟩)
  · refine J_iload_n (pc' := 9) dX6_voice_8 rfl rfl ?_
    refine J_iconst (v := 0) (pc' := 10) dX6_voice_9 (by decide) rfl ?_
    refine J_iconst (v := 3) (pc' := 11) dX6_voice_10 (by decide) rfl ?_
    refine J_S3v (pc' := 14) dX6_voice_11 lk_6_108 cd_X6_isWithin (k_X6_isWithin) (jroom_of rfl) (Nat.le_of_ble_eq_true rfl) rfl ?_
    refine J_if_ne 23 (pc' := 17) dX6_voice_14 (by decide) rfl (fun h_14 => ?_) (fun h_14 => ?_)
    · obtain ⟨k, hk, rfl⟩ := sIsM_ex hI (jb_n h_5)
      have h8 : k < 8 := Nat.lt_of_lt_of_le hk (sIM hI).2
      refine J_aload_n (pc' := 24) dX6_voice_23 rfl rfl ?_
      refine J_getR (pc' := 27) dX6_voice_24 fl_6_45 (ly_0) (l84_0) rfl rfl ?_
      refine J_iload_n (pc' := 28) dX6_voice_27 rfl rfl ?_
      refine J_aload_n (pc' := 29) dX6_voice_28 rfl rfl ?_
      refine J_getR (pc' := 32) dX6_voice_29 fl_6_12 (ly_0) (l84_0) rfl rfl ?_
      refine J_getR (pc' := 35) dX6_voice_32 fl_6_87 (ly_1) (l84_1) rfl rfl ?_
      refine J_iload_n (pc' := 36) dX6_voice_35 rfl rfl ?_
      refine J_iald k (pc' := 37) dX6_voice_36 (ly_3) (l84_3) rfl h8 (by decide) rfl ?_
      refine J_aload_n (pc' := 38) dX6_voice_37 rfl rfl ?_
      refine J_getR (pc' := 41) dX6_voice_38 fl_6_12 (ly_0) (l84_0) rfl rfl ?_
      refine J_getR (pc' := 44) dX6_voice_41 fl_6_84 (ly_1) (l84_1) rfl rfl ?_
      refine J_iload_n (pc' := 45) dX6_voice_44 rfl rfl ?_
      refine J_iald k (pc' := 46) dX6_voice_45 (ly_2) (l84_2) rfl h8 (by decide) rfl ?_
      refine J_iload_n (pc' := 47) dX6_voice_46 rfl rfl ?_
      refine J_iload_n (pc' := 48) dX6_voice_47 rfl rfl ?_
      refine J_V5v (pc' := 51) dX6_voice_48 lk_6_264 cd_X5_answerOf (k_X5_answerOf) (ly_57) (l84_57) rfl rfl (jroom_of rfl) (Nat.le_of_ble_eq_true rfl) rfl ?_
      have hE : vEq2 (vSp vB (w.1 2 k) (nI k) (w.1 3 k) 21 (w.1 2 k) u v (w.1 58, 0, 0)) (vAn (abX w 1) (restX w) (nI k) u v) := by
        unfold vAn
        rw [nn_nI (by omega), ax0 h8, ax1 h8]
        exact vSp_eq 21 _ _ _ _ _ ⟨0, by omega, nIc_0⟩ ⟨rfl, fun j hj => absurd hj (by show ¬ j < nn 0; rw [show nn 0 = 0 from by decide]; omega)⟩
      have hE6 : (vSp vB (w.1 2 k) (nI k) (w.1 3 k) 21 (w.1 2 k) u v (w.1 58, 0, 0)).2.2.2 = (vAn (abX w 1) (restX w) (nI k) u v).2.2.2 := by rw [hE.2.1]
      have hB := bq_any (w2 := vPut (vW5 w (nI k) (w.1 3 k) (w.1 2 k)) (vSp vB (w.1 2 k) (nI k) (w.1 3 k) 21 (w.1 2 k) u v (w.1 58, 0, 0)).2) hX (fun a q => vp_off (by omega) (by omega)) rfl (rx_vp hE.2)
      refine J_istore (pc' := 53) dX6_voice_51 (Nat.le_of_ble_eq_true rfl) (jst4 rfl rfl) rfl ?_
      refine J_aload_n (pc' := 54) dX6_voice_53 rfl rfl ?_
      refine J_getR (pc' := 57) dX6_voice_54 fl_6_45 (ly_0) (l84_0) rfl rfl ?_
      refine J_getI (pc' := 60) dX6_voice_57 fl_6_268 (ly_57) (l84_57) rfl rfl ?_
      refine J_if_eq 72 (pc' := 63) dX6_voice_60 (by decide) rfl (fun h_60 => ?_) (fun h_60 => ?_)
      · refine J_iload (pc' := 74) dX6_voice_72 rfl rfl ?_
        first | exact J_iret dX6_voice_74  (by unfold sq_voice; rw [if_pos ⟨jb_n h_5, jb_n h_14⟩, if_pos (hE6 ▸ h_60)]; exact ⟨congrArg (fun q => some (Value.int q)) hE.1, hB⟩) | exact J_iret dX6_voice_74  (by unfold sq_voice; rw [if_pos ⟨jb_n h_5, jb_n h_14⟩, if_neg (fun q => h_60 (hE6.trans q))]; exact ⟨rfl, bq_err2 hB (by decide)⟩)
      · refine J_aload_n (pc' := 64) dX6_voice_63 rfl rfl ?_
        refine J_bipush (v := 6) (pc' := 66) dX6_voice_64 (by decide) rfl ?_
        refine J_V1v (pc' := 69) dX6_voice_66 lk_6_69 cd_X6_error (k_err6) (ly_0) (l84_0) rfl rfl (jroom_of rfl) (Nat.le_of_ble_eq_true rfl) rfl ?_
        refine J_goto (pc' := 0) 74 dX6_voice_69 (by decide) ?_
        first | exact J_iret dX6_voice_74  (by unfold sq_voice; rw [if_pos ⟨jb_n h_5, jb_n h_14⟩, if_pos (hE6 ▸ h_60)]; exact ⟨congrArg (fun q => some (Value.int q)) hE.1, hB⟩) | exact J_iret dX6_voice_74  (by unfold sq_voice; rw [if_pos ⟨jb_n h_5, jb_n h_14⟩, if_neg (fun q => h_60 (hE6.trans q))]; exact ⟨rfl, bq_err2 hB (by decide)⟩)
    · refine J_aload_n (pc' := 18) dX6_voice_17 rfl rfl ?_
      refine J_iconst (v := 1) (pc' := 19) dX6_voice_18 (by decide) rfl ?_
      refine J_V1v (pc' := 22) dX6_voice_19 lk_6_69 cd_X6_error (k_err1) (ly_0) (l84_0) rfl rfl (jroom_of rfl) (Nat.le_of_ble_eq_true rfl) rfl ?_
      exact J_iret dX6_voice_22  (by unfold sq_voice; rw [if_neg (fun q => by first | exact jb_0.mp h_5 q.1 | exact jb_0.mp h_14 q.2)]; exact ⟨rfl, bq_err hX (by decide)⟩)
