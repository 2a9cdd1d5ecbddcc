/-! ===== the class: texts, images ===== -/
/-- no text of a use any more -/
def sUnt (σ : sg) (u : Nat) : sg := fun f k => if f = 11 ∧ k = u then 0 else if f = 9 + u then 0 else σ f k
theorem abX_unt0 {w : jWd} {b : Nat} : abX (jset w (b + 9) 5 0) b = sUnt (abX w b) 0 := by
  have o : ∀ a, a ≠ b + 9 → (jset w (b + 9) 5 0).1 a = w.1 a := fun a h => jset_off h
  have e : (jset w (b + 9) 5 0).1 (b + 9) 5 = 0 := by rw [jset_1, if_pos rfl, if_pos rfl]
  funext f k
  match f with
  | 0 => unfold abX sUnt; simp [o]
  | 1 => unfold abX sUnt; simp [o]
  | 2 => unfold abX sUnt; simp [o]
  | 3 => unfold abX sUnt; simp [o]
  | 4 => unfold abX sUnt; simp [o]
  | 5 => unfold abX sUnt; simp [o]
  | 6 => unfold abX sUnt; simp [o]
  | 7 => unfold abX sUnt; simp [o]
  | 8 => unfold abX sUnt; simp [o]
  | 9 => unfold abX sUnt; simp [e, show (0 : Int32).toNatClampNeg = 0 from by decide]
  | 10 => unfold abX sUnt; simp [o]
  | 11 =>
    match k with
    | 0 => unfold abX sUnt; simp [e]
    | 1 => unfold abX sUnt; simp [o]
    | q + 2 => unfold abX sUnt; simp
  | n + 12 => unfold abX sUnt; simp
theorem abX_unt1 {w : jWd} {b : Nat} : abX (jset w (b + 12) 5 0) b = sUnt (abX w b) 1 := by
  have o : ∀ a, a ≠ b + 12 → (jset w (b + 12) 5 0).1 a = w.1 a := fun a h => jset_off h
  have e : (jset w (b + 12) 5 0).1 (b + 12) 5 = 0 := by rw [jset_1, if_pos rfl, if_pos rfl]
  funext f k
  match f with
  | 0 => unfold abX sUnt; simp [o]
  | 1 => unfold abX sUnt; simp [o]
  | 2 => unfold abX sUnt; simp [o]
  | 3 => unfold abX sUnt; simp [o]
  | 4 => unfold abX sUnt; simp [o]
  | 5 => unfold abX sUnt; simp [o]
  | 6 => unfold abX sUnt; simp [o]
  | 7 => unfold abX sUnt; simp [o]
  | 8 => unfold abX sUnt; simp [o]
  | 9 => unfold abX sUnt; simp [o]
  | 10 => unfold abX sUnt; simp [e, show (0 : Int32).toNatClampNeg = 0 from by decide]
  | 11 =>
    match k with
    | 0 => unfold abX sUnt; simp [o]
    | 1 => unfold abX sUnt; simp [e]
    | q + 2 => unfold abX sUnt; simp
  | n + 12 => unfold abX sUnt; simp
theorem jt10 : jT 10 := by simp [jT]
theorem jt13 : jT 13 := by simp [jT]
theorem sC_pos {σ : sg} (hI : sInv σ) {u : Nat} (hu : u < 2) : σ 11 u = nI (sC σ u) ∧ sC σ u ≤ 60 := ⟨(hI.2.2.2.2.2.2.2.2.2.1 u hu).1, (hI.2.2.2.2.2.2.2.2.2.1 u hu).2.1⟩
def sq_untell (s k r : sg) (x : Int32) : sQI := if 0 ≤ x ∧ x ≤ 1 then (jb (0 < s 11 (nn x)), sUnt s (nn x), k, r) else (sErr 1, s, k, sEr r 1)
set_option maxHeartbeats 4000000 in
set_option maxRecDepth 100000 in
theorem a_X6_untell {G : jG} {w : jWd} (hX : XInv w) (hI : sInv (abX w 1)) {x : Int32} : jKp G 2 yX6_untell cX6_untell 3 (some .int) [.ref 0, .int x] w (some (.int (sq_untell (abX w 1) (abX w 16) (restX w) x).1)) (fun w' => BQ w w' (sq_untell (abX w 1) (abX w 16) (restX w) x).2) := by
  refine jK_of (own := RX6) [some (.ref 0), some (.int x), none] pn6 rfl (Nat.le_of_ble_eq_true rfl) rfl ?_
  refine J_iload_n (pc' := 1) dX6_untell_0 rfl rfl ?_
  refine J_S1v (pc' := 4) dX6_untell_1 lk_6_133 cd_X6_isUse (k_X6_isUse) (jroom_of rfl) (Nat.le_of_ble_eq_true rfl) rfl ?_
  refine J_if_ne 13 (pc' := 7) dX6_untell_4 (by decide) rfl (fun h_4 => ?_) (fun h_4 => ?_)
  · obtain ⟨u, hu0, hu1, rfl⟩ := nI_wi (a := 0) (b := 1) (by decide) (by decide) (jb_n h_4)
    obtain rfl | rfl : u = 0 ∨ u = 1 := by omega
    · refine J_aload_n (pc' := 14) dX6_untell_13 rfl rfl ?_
      refine J_getR (pc' := 17) dX6_untell_14 fl_6_12 (ly_0) (l84_0) rfl rfl ?_
      refine J_getR (pc' := 20) dX6_untell_17 fl_6_136 (ly_1) (l84_1) rfl rfl ?_
      refine J_iload_n (pc' := 21) dX6_untell_20 rfl rfl ?_
      refine J_aald 0 (pc' := 22) dX6_untell_21 (ly_9) (Or.inr (Or.inr rfl)) (l84_9) rfl rfl (by decide) (by decide) rfl ?_
      refine J_V0v (pc' := 25) dX6_untell_22 lk_6_160 cd_X4_isThere (k_X4_isThere jt10) (ly_10) (l84_10) rfl rfl (jroom_of rfl) (Nat.le_of_ble_eq_true rfl) rfl ?_
      refine J_if_eq 32 (pc' := 28) dX6_untell_25 (by decide) rfl (fun h_25 => ?_) (fun h_25 => ?_)
      · refine J_iconst (v := 0) (pc' := 33) dX6_untell_32 (by decide) rfl ?_
        refine J_istore_n (pc' := 34) dX6_untell_33 (Nat.le_of_ble_eq_true rfl) (jst2 rfl rfl) rfl ?_
        refine J_aload_n (pc' := 35) dX6_untell_34 rfl rfl ?_
        refine J_getR (pc' := 38) dX6_untell_35 fl_6_12 (ly_0) (l84_0) rfl rfl ?_
        refine J_getR (pc' := 41) dX6_untell_38 fl_6_136 (ly_1) (l84_1) rfl rfl ?_
        refine J_iload_n (pc' := 42) dX6_untell_41 rfl rfl ?_
        refine J_aald 0 (pc' := 43) dX6_untell_42 (ly_9) (Or.inr (Or.inr rfl)) (l84_9) rfl rfl (by decide) (by decide) rfl ?_
        refine J_V00 (pc' := 46) dX6_untell_43 lk_6_164 cd_X4_clear (k_X4_clear jt10) (ly_10) (l84_10) rfl rfl (jroom_of rfl) (Nat.le_of_ble_eq_true rfl) rfl ?_
        refine J_iload_n (pc' := 47) dX6_untell_46 rfl rfl ?_
        exact J_iret dX6_untell_47  (by unfold sq_untell; rw [if_pos (by exact jb_n h_4), nn_nI (by omega)]; exact ⟨jv (by first | exact (jb_n h_25).symm.trans rfl | exact (jb_t (jb_n h_25)).symm | exact (jb_f (jb_0.mp h_25)).symm), bq_now hX ((frB.rf 1 w).set (by omega) (by omega)) abX_unt0 (xB_set hX.1 (by omega) (by omega) (by omega))⟩)
      · refine J_iconst (v := 1) (pc' := 29) dX6_untell_28 (by decide) rfl ?_
        refine J_goto (pc' := 0) 33 dX6_untell_29 (by decide) ?_
        refine J_istore_n (pc' := 34) dX6_untell_33 (Nat.le_of_ble_eq_true rfl) (jst2 rfl rfl) rfl ?_
        refine J_aload_n (pc' := 35) dX6_untell_34 rfl rfl ?_
        refine J_getR (pc' := 38) dX6_untell_35 fl_6_12 (ly_0) (l84_0) rfl rfl ?_
        refine J_getR (pc' := 41) dX6_untell_38 fl_6_136 (ly_1) (l84_1) rfl rfl ?_
        refine J_iload_n (pc' := 42) dX6_untell_41 rfl rfl ?_
        refine J_aald 0 (pc' := 43) dX6_untell_42 (ly_9) (Or.inr (Or.inr rfl)) (l84_9) rfl rfl (by decide) (by decide) rfl ?_
        refine J_V00 (pc' := 46) dX6_untell_43 lk_6_164 cd_X4_clear (k_X4_clear jt10) (ly_10) (l84_10) rfl rfl (jroom_of rfl) (Nat.le_of_ble_eq_true rfl) rfl ?_
        refine J_iload_n (pc' := 47) dX6_untell_46 rfl rfl ?_
        exact J_iret dX6_untell_47  (by unfold sq_untell; rw [if_pos (by exact jb_n h_4), nn_nI (by omega)]; exact ⟨jv (by first | exact (jb_n h_25).symm.trans rfl | exact (jb_t (jb_n h_25)).symm | exact (jb_f (jb_0.mp h_25)).symm), bq_now hX ((frB.rf 1 w).set (by omega) (by omega)) abX_unt0 (xB_set hX.1 (by omega) (by omega) (by omega))⟩)
    · refine J_aload_n (pc' := 14) dX6_untell_13 rfl rfl ?_
      refine J_getR (pc' := 17) dX6_untell_14 fl_6_12 (ly_0) (l84_0) rfl rfl ?_
      refine J_getR (pc' := 20) dX6_untell_17 fl_6_136 (ly_1) (l84_1) rfl rfl ?_
      refine J_iload_n (pc' := 21) dX6_untell_20 rfl rfl ?_
      refine J_aald 1 (pc' := 22) dX6_untell_21 (ly_9) (Or.inr (Or.inr rfl)) (l84_9) rfl rfl (by decide) (by decide) rfl ?_
      refine J_V0v (pc' := 25) dX6_untell_22 lk_6_160 cd_X4_isThere (k_X4_isThere jt13) (ly_13) (l84_13) rfl rfl (jroom_of rfl) (Nat.le_of_ble_eq_true rfl) rfl ?_
      refine J_if_eq 32 (pc' := 28) dX6_untell_25 (by decide) rfl (fun h_25 => ?_) (fun h_25 => ?_)
      · refine J_iconst (v := 0) (pc' := 33) dX6_untell_32 (by decide) rfl ?_
        refine J_istore_n (pc' := 34) dX6_untell_33 (Nat.le_of_ble_eq_true rfl) (jst2 rfl rfl) rfl ?_
        refine J_aload_n (pc' := 35) dX6_untell_34 rfl rfl ?_
        refine J_getR (pc' := 38) dX6_untell_35 fl_6_12 (ly_0) (l84_0) rfl rfl ?_
        refine J_getR (pc' := 41) dX6_untell_38 fl_6_136 (ly_1) (l84_1) rfl rfl ?_
        refine J_iload_n (pc' := 42) dX6_untell_41 rfl rfl ?_
        refine J_aald 1 (pc' := 43) dX6_untell_42 (ly_9) (Or.inr (Or.inr rfl)) (l84_9) rfl rfl (by decide) (by decide) rfl ?_
        refine J_V00 (pc' := 46) dX6_untell_43 lk_6_164 cd_X4_clear (k_X4_clear jt13) (ly_13) (l84_13) rfl rfl (jroom_of rfl) (Nat.le_of_ble_eq_true rfl) rfl ?_
        refine J_iload_n (pc' := 47) dX6_untell_46 rfl rfl ?_
        exact J_iret dX6_untell_47  (by unfold sq_untell; rw [if_pos (by exact jb_n h_4), nn_nI (by omega)]; exact ⟨jv (by first | exact (jb_n h_25).symm.trans rfl | exact (jb_t (jb_n h_25)).symm | exact (jb_f (jb_0.mp h_25)).symm), bq_now hX ((frB.rf 1 w).set (by omega) (by omega)) abX_unt1 (xB_set hX.1 (by omega) (by omega) (by omega))⟩)
      · refine J_iconst (v := 1) (pc' := 29) dX6_untell_28 (by decide) rfl ?_
        refine J_goto (pc' := 0) 33 dX6_untell_29 (by decide) ?_
        refine J_istore_n (pc' := 34) dX6_untell_33 (Nat.le_of_ble_eq_true rfl) (jst2 rfl rfl) rfl ?_
        refine J_aload_n (pc' := 35) dX6_untell_34 rfl rfl ?_
        refine J_getR (pc' := 38) dX6_untell_35 fl_6_12 (ly_0) (l84_0) rfl rfl ?_
        refine J_getR (pc' := 41) dX6_untell_38 fl_6_136 (ly_1) (l84_1) rfl rfl ?_
        refine J_iload_n (pc' := 42) dX6_untell_41 rfl rfl ?_
        refine J_aald 1 (pc' := 43) dX6_untell_42 (ly_9) (Or.inr (Or.inr rfl)) (l84_9) rfl rfl (by decide) (by decide) rfl ?_
        refine J_V00 (pc' := 46) dX6_untell_43 lk_6_164 cd_X4_clear (k_X4_clear jt13) (ly_13) (l84_13) rfl rfl (jroom_of rfl) (Nat.le_of_ble_eq_true rfl) rfl ?_
        refine J_iload_n (pc' := 47) dX6_untell_46 rfl rfl ?_
        exact J_iret dX6_untell_47  (by unfold sq_untell; rw [if_pos (by exact jb_n h_4), nn_nI (by omega)]; exact ⟨jv (by first | exact (jb_n h_25).symm.trans rfl | exact (jb_t (jb_n h_25)).symm | exact (jb_f (jb_0.mp h_25)).symm), bq_now hX ((frB.rf 1 w).set (by omega) (by omega)) abX_unt1 (xB_set hX.1 (by omega) (by omega) (by omega))⟩)
  · refine J_aload_n (pc' := 8) dX6_untell_7 rfl rfl ?_
    refine J_iconst (v := 1) (pc' := 9) dX6_untell_8 (by decide) rfl ?_
    refine J_V1v (pc' := 12) dX6_untell_9 lk_6_69 cd_X6_error (k_err1) (ly_0) (l84_0) rfl rfl (jroom_of rfl) (Nat.le_of_ble_eq_true rfl) rfl ?_
    exact J_iret dX6_untell_12  (by unfold sq_untell; rw [if_neg (fun q => by first | exact jb_0.mp h_4 q)]; exact ⟨rfl, bq_err hX (by decide)⟩)
def sq_law (s k r : sg) (x : Int32) (a : Int32) (b : Int32) (c : Int32) : sQI := if 0 ≤ x ∧ x ≤ 1 then (sGiv s (nn x) a b c, s, k, r) else (sErr 1, s, k, sEr r 1)
set_option maxHeartbeats 4000000 in
set_option maxRecDepth 100000 in
theorem a_X6_law {G : jG} {w : jWd} (hX : XInv w) (hI : sInv (abX w 1)) {x : Int32} {a : Int32} {b : Int32} {c : Int32} : jKp G 3 yX6_law cX6_law 5 (some .int) [.ref 0, .int x, .int a, .int b, .int c] w (some (.int (sq_law (abX w 1) (abX w 16) (restX w) x a b c).1)) (fun w' => BQ w w' (sq_law (abX w 1) (abX w 16) (restX w) x a b c).2) := by
  refine jK_of (own := RX6) [some (.ref 0), some (.int x), some (.int a), some (.int b), some (.int c)] pn6 rfl (Nat.le_of_ble_eq_true rfl) rfl ?_
  refine J_iload_n (pc' := 1) dX6_law_0 rfl rfl ?_
  refine J_S1v (pc' := 4) dX6_law_1 lk_6_133 cd_X6_isUse (k_X6_isUse) (jroom_of rfl) (Nat.le_of_ble_eq_true rfl) rfl ?_
  refine J_if_eq 26 (pc' := 7) dX6_law_4 (by decide) rfl (fun h_4 => ?_) (fun h_4 => ?_)
  · refine J_aload_n (pc' := 27) dX6_law_26 rfl rfl ?_
    refine J_iconst (v := 1) (pc' := 28) dX6_law_27 (by decide) rfl ?_
    refine J_V1v (pc' := 31) dX6_law_28 lk_6_69 cd_X6_error (k_err1) (ly_0) (l84_0) rfl rfl (jroom_of rfl) (Nat.le_of_ble_eq_true rfl) rfl ?_
    first | exact J_iret dX6_law_31  (by unfold sq_law; rw [if_neg (by exact jb_0.mp h_4)]; exact ⟨rfl, bq_err hX (by decide)⟩) | exact J_iret dX6_law_31  (by unfold sq_law; rw [if_pos (by exact jb_n h_4), nn_nI (by omega)]; exact ⟨rfl, bq_rf hX⟩)
  · obtain ⟨u, hu0, hu1, rfl⟩ := nI_wi (a := 0) (b := 1) (by decide) (by decide) (jb_n h_4)
    obtain rfl | rfl : u = 0 ∨ u = 1 := by omega
    · refine J_aload_n (pc' := 8) dX6_law_7 rfl rfl ?_
      refine J_getR (pc' := 11) dX6_law_8 fl_6_12 (ly_0) (l84_0) rfl rfl ?_
      refine J_getR (pc' := 14) dX6_law_11 fl_6_136 (ly_1) (l84_1) rfl rfl ?_
      refine J_iload_n (pc' := 15) dX6_law_14 rfl rfl ?_
      refine J_aald 0 (pc' := 16) dX6_law_15 (ly_9) (Or.inr (Or.inr rfl)) (l84_9) rfl rfl (by decide) (by decide) rfl ?_
      refine J_iload_n (pc' := 17) dX6_law_16 rfl rfl ?_
      refine J_iload_n (pc' := 18) dX6_law_17 rfl rfl ?_
      refine J_iload (pc' := 20) dX6_law_18 rfl rfl ?_
      refine J_V3v (pc' := 23) dX6_law_20 lk_6_167 cd_X4_given (k_giv0 jb1 hI hX.1) (ly_10) (l84_10) rfl rfl (jroom_of rfl) (Nat.le_of_ble_eq_true rfl) rfl ?_
      refine J_goto (pc' := 0) 31 dX6_law_23 (by decide) ?_
      first | exact J_iret dX6_law_31  (by unfold sq_law; rw [if_neg (by exact jb_0.mp h_4)]; exact ⟨rfl, bq_err hX (by decide)⟩) | exact J_iret dX6_law_31  (by unfold sq_law; rw [if_pos (by exact jb_n h_4), nn_nI (by omega)]; exact ⟨rfl, bq_rf hX⟩)
    · refine J_aload_n (pc' := 8) dX6_law_7 rfl rfl ?_
      refine J_getR (pc' := 11) dX6_law_8 fl_6_12 (ly_0) (l84_0) rfl rfl ?_
      refine J_getR (pc' := 14) dX6_law_11 fl_6_136 (ly_1) (l84_1) rfl rfl ?_
      refine J_iload_n (pc' := 15) dX6_law_14 rfl rfl ?_
      refine J_aald 1 (pc' := 16) dX6_law_15 (ly_9) (Or.inr (Or.inr rfl)) (l84_9) rfl rfl (by decide) (by decide) rfl ?_
      refine J_iload_n (pc' := 17) dX6_law_16 rfl rfl ?_
      refine J_iload_n (pc' := 18) dX6_law_17 rfl rfl ?_
      refine J_iload (pc' := 20) dX6_law_18 rfl rfl ?_
      refine J_V3v (pc' := 23) dX6_law_20 lk_6_167 cd_X4_given (k_giv1 jb1 hI hX.1) (ly_13) (l84_13) rfl rfl (jroom_of rfl) (Nat.le_of_ble_eq_true rfl) rfl ?_
      refine J_goto (pc' := 0) 31 dX6_law_23 (by decide) ?_
      first | exact J_iret dX6_law_31  (by unfold sq_law; rw [if_neg (by exact jb_0.mp h_4)]; exact ⟨rfl, bq_err hX (by decide)⟩) | exact J_iret dX6_law_31  (by unfold sq_law; rw [if_pos (by exact jb_n h_4), nn_nI (by omega)]; exact ⟨rfl, bq_rf hX⟩)
theorem bq_img {w w2 : jWd} {v : Int32} (hX : XInv w) (h1 : abX w2 16 = abX w 1) (hB : xB w2 16) (hf : frB 16 w w2) : BQ w (jset w2 0 8 v) (abX w 1, abX w 1, sg1 (restX w) 1 0 v) := by
  have o : ∀ a, a ≠ 0 → (jset w2 0 8 v).1 a = w2.1 a := fun a h => jset_off h
  refine ⟨(abX_congr (fun a q1 q2 => (o a (by omega)).trans (hf.1 a (by omega)))), (abX_congr (fun a q1 q2 => o a (by omega))).trans h1, ?_, ⟨xB_congr (fun a q1 q2 => (o a (by omega)).trans (hf.1 a (by omega))) hX.1, xB_congr (fun a q1 q2 => o a (by omega)) hB, xB_congr (fun a q1 q2 => (o a (by omega)).trans (hf.1 a (by omega))) hX.2.2⟩, fun a q => ⟨(o a (by omega)).trans (hf.1 a (by omega)), by rw [show (jset w2 0 8 v).2 = w2.2 from rfl, hf.2]⟩⟩
  have o2 : ∀ a, 57 ≤ a → (jset w2 0 8 v).1 a = w.1 a := fun a h => (o a (by omega)).trans (hf.1 a (by omega))
  have e : (jset w2 0 8 v).1 0 8 = v := by rw [jset_1, if_pos rfl, if_pos rfl]
  funext f j
  show restX (jset w2 0 8 v) f j = sg1 (restX w) 1 0 v f j
  match f with
  | 0 => unfold restX sg1; simp [o2 67]
  | 1 =>
    by_cases hj : j = 0
    · subst hj; rw [sg1_at]; exact e
    · rw [sg1_k hj]; show (if j = 0 then _ else 0) = (if j = 0 then _ else 0); rw [if_neg hj, if_neg hj]
  | 2 => unfold restX sg1; simp [o2 61]
  | 3 => unfold restX sg1; simp [o2 62]
  | 4 => unfold restX sg1; simp [o2 63]
  | 5 => unfold restX sg1; simp [o2 64]
  | 6 => unfold restX sg1; simp [o2 65]
  | 7 => unfold restX sg1; simp [o2 66]
  | 8 => unfold restX sg1; simp [o2 57, o2 58]
  | 9 => unfold restX sg1; simp [o2 57]
  | n + 10 => unfold restX sg1; simp
def sq_image (s k r : sg)  : sQI := (r 1 0 + 1, s, s, sg1 r 1 0 (r 1 0 + 1))
set_option maxHeartbeats 4000000 in
set_option maxRecDepth 100000 in
theorem a_X6_image {G : jG} {w : jWd} (hX : XInv w) (hI : sInv (abX w 1)) : jKp G 3 yX6_image cX6_image 1 (some .int) [.ref 0] w (some (.int (sq_image (abX w 1) (abX w 16) (restX w)).1)) (fun w' => BQ w w' (sq_image (abX w 1) (abX w 16) (restX w)).2) := by
  refine jK_of (own := RX6) [some (.ref 0)] pn6 rfl (Nat.le_of_ble_eq_true rfl) rfl ?_
  refine J_aload_n (pc' := 1) dX6_image_0 rfl rfl ?_
  refine J_getR (pc' := 4) dX6_image_1 fl_6_16 (ly_0) (l84_0) rfl rfl ?_
  refine J_aload_n (pc' := 5) dX6_image_4 rfl rfl ?_
  refine J_getR (pc' := 8) dX6_image_5 fl_6_12 (ly_0) (l84_0) rfl rfl ?_
  refine J_V1w (pc' := 11) dX6_image_8 lk_6_229 cd_X0_copy (k_X0_copy jb16 jb1 (Or.inr (Or.inl ⟨rfl, rfl⟩)) hI hX.2.1 hX.1) (ly_16) (l84_16) rfl rfl (jroom_of rfl) (Nat.le_of_ble_eq_true rfl) rfl (fun w8 hw8 => ?_)
  have e8 : w8.1 0 8 = w.1 0 8 := by rw [hw8.2.2.1 0 (by omega)]
  refine J_aload_n (pc' := 12) dX6_image_11 rfl rfl ?_
  refine J_dup (pc' := 13) dX6_image_12 rfl rfl ?_
  refine J_getI (pc' := 16) dX6_image_13 fl_6_307 (ly_0) (l84_0) rfl rfl ?_
  rw [e8]
  refine J_iconst (v := 1) (pc' := 17) dX6_image_16 (by decide) rfl ?_
  refine J_iadd (pc' := 18) dX6_image_17 rfl ?_
  refine J_putI (pc' := 21) dX6_image_18 fp_6_307 (ly_0) (l84_0) rfl rfl ?_
  refine J_aload_n (pc' := 22) dX6_image_21 rfl rfl ?_
  refine J_getI (pc' := 25) dX6_image_22 fl_6_307 (ly_0) (l84_0) rfl rfl ?_
  rw [jset_1, if_pos rfl, if_pos rfl]
  exact J_iret dX6_image_25  ⟨rfl, bq_img hX hw8.1 hw8.2.1 hw8.2.2⟩
theorem bq_res {w w2 : jWd} (hX : XInv w) (h1 : abX w2 1 = abX w 16) (hB : xB w2 1) (hf : frB 1 w w2) : BQ w w2 (abX w 16, abX w 16, restX w) := bq_now hX hf h1 hB
def sq_restore (s k r : sg)  : sQI := if r 1 0 = 0 then (sErr 2, s, k, sEr r 2) else (k 6 2, k, k, r)
set_option maxHeartbeats 4000000 in
set_option maxRecDepth 100000 in
theorem a_X6_restore {G : jG} {w : jWd} (hX : XInv w) (hI : sInv (abX w 1)) (hK : w.1 0 8 ≠ 0 → sInv (abX w 16)) : jKp G 3 yX6_restore cX6_restore 1 (some .int) [.ref 0] w (some (.int (sq_restore (abX w 1) (abX w 16) (restX w)).1)) (fun w' => BQ w w' (sq_restore (abX w 1) (abX w 16) (restX w)).2) := by
  refine jK_of (own := RX6) [some (.ref 0)] pn6 rfl (Nat.le_of_ble_eq_true rfl) rfl ?_
  refine J_aload_n (pc' := 1) dX6_restore_0 rfl rfl ?_
  refine J_getI (pc' := 4) dX6_restore_1 fl_6_307 (ly_0) (l84_0) rfl rfl ?_
  refine J_if_ne 13 (pc' := 7) dX6_restore_4 (by decide) rfl (fun h_4 => ?_) (fun h_4 => ?_)
  · refine J_aload_n (pc' := 14) dX6_restore_13 rfl rfl ?_
    refine J_getR (pc' := 17) dX6_restore_14 fl_6_12 (ly_0) (l84_0) rfl rfl ?_
    refine J_aload_n (pc' := 18) dX6_restore_17 rfl rfl ?_
    refine J_getR (pc' := 21) dX6_restore_18 fl_6_16 (ly_0) (l84_0) rfl rfl ?_
    refine J_V1w (pc' := 24) dX6_restore_21 lk_6_229 cd_X0_copy (k_X0_copy jb1 jb16 (Or.inr (Or.inr ⟨rfl, rfl⟩)) (hK h_4) hX.1 hX.2.1) (ly_1) (l84_1) rfl rfl (jroom_of rfl) (Nat.le_of_ble_eq_true rfl) rfl (fun w21 hw21 => ?_)
    have e21 : w21.1 1 11 = abX w 16 6 2 := congrFun (congrFun hw21.1 6) 2
    refine J_aload_n (pc' := 25) dX6_restore_24 rfl rfl ?_
    refine J_getR (pc' := 28) dX6_restore_25 fl_6_12 (ly_0) (l84_0) rfl rfl ?_
    refine J_getI (pc' := 31) dX6_restore_28 fl_6_171 (ly_1) (l84_1) rfl rfl ?_
    rw [e21]
    exact J_iret dX6_restore_31  (by unfold sq_restore; rw [if_neg (by exact h_4)]; exact ⟨rfl, bq_res hX hw21.1 hw21.2.1 hw21.2.2⟩)
  · refine J_aload_n (pc' := 8) dX6_restore_7 rfl rfl ?_
    refine J_iconst (v := 2) (pc' := 9) dX6_restore_8 (by decide) rfl ?_
    refine J_V1v (pc' := 12) dX6_restore_9 lk_6_69 cd_X6_error (k_err2) (ly_0) (l84_0) rfl rfl (jroom_of rfl) (Nat.le_of_ble_eq_true rfl) rfl ?_
    exact J_iret dX6_restore_12  (by unfold sq_restore; rw [if_pos (by exact h_4)]; exact ⟨rfl, bq_err hX (by decide)⟩)
def rInv (r : sg) : Prop := (∃ n, r 9 0 = nI n ∧ n ≤ 30) ∧ ∀ s, s < 4 → (∃ n, r 7 s = nI n ∧ n ≤ 24) ∧ (r 6 s = 0 ∨ r 6 s = 8 ∨ r 6 s = 16 ∨ r 6 s = 32)
def sq_body (s k r : sg) (x : Int32) : sQI := if 0 ≤ x ∧ x ≤ r 9 0 - 1 then (r 8 (nn x), s, k, r) else (sErr 2, s, k, sEr r 2)
set_option maxHeartbeats 4000000 in
set_option maxRecDepth 100000 in
theorem a_X6_body {G : jG} {w : jWd} (hX : XInv w) (hI : sInv (abX w 1)) (hR : rInv (restX w)) {x : Int32} : jKp G 1 yX6_body cX6_body 2 (some .int) [.ref 0, .int x] w (some (.int (sq_body (abX w 1) (abX w 16) (restX w) x).1)) (fun w' => BQ w w' (sq_body (abX w 1) (abX w 16) (restX w) x).2) := by
  refine jK_of (own := RX6) [some (.ref 0), some (.int x)] pn6 rfl (Nat.le_of_ble_eq_true rfl) rfl ?_
  refine J_iload_n (pc' := 1) dX6_body_0 rfl rfl ?_
  refine J_iconst (v := 0) (pc' := 2) dX6_body_1 (by decide) rfl ?_
  refine J_aload_n (pc' := 3) dX6_body_2 rfl rfl ?_
  refine J_getR (pc' := 6) dX6_body_3 fl_6_45 (ly_0) (l84_0) rfl rfl ?_
  refine J_getI (pc' := 9) dX6_body_6 fl_6_272 (ly_57) (l84_57) rfl rfl ?_
  refine J_iconst (v := 1) (pc' := 10) dX6_body_9 (by decide) rfl ?_
  refine J_isub (pc' := 11) dX6_body_10 rfl ?_
  refine J_S3v (pc' := 14) dX6_body_11 lk_6_108 cd_X6_isWithin (k_X6_isWithin) (jroom_of rfl) (Nat.le_of_ble_eq_true rfl) rfl ?_
  refine J_if_eq 29 (pc' := 17) dX6_body_14 (by decide) rfl (fun h_14 => ?_) (fun h_14 => ?_)
  · refine J_aload_n (pc' := 30) dX6_body_29 rfl rfl ?_
    refine J_iconst (v := 2) (pc' := 31) dX6_body_30 (by decide) rfl ?_
    refine J_V1v (pc' := 34) dX6_body_31 lk_6_69 cd_X6_error (k_err2) (ly_0) (l84_0) rfl rfl (jroom_of rfl) (Nat.le_of_ble_eq_true rfl) rfl ?_
    first | exact J_iret dX6_body_34  (by unfold sq_body; rw [if_neg (by exact jb_0.mp h_14)]; exact ⟨rfl, bq_err hX (by decide)⟩) | exact J_iret dX6_body_34  (by unfold sq_body; rw [if_pos (by exact jb_n h_14), nn_nI (by omega)]; exact ⟨jv (if_pos (show k < nn (w.1 57 1) by rw [hT, nn_nI (by omega)]; exact hk)).symm, bq_rf hX⟩)
  · obtain ⟨⟨T, hT, hT30⟩, -⟩ := hR
    have hT : w.1 57 1 = nI T := hT
    obtain ⟨k, hk, rfl⟩ := sIs_ex hT (by omega) (jb_n h_14)
    refine J_aload_n (pc' := 18) dX6_body_17 rfl rfl ?_
    refine J_getR (pc' := 21) dX6_body_18 fl_6_45 (ly_0) (l84_0) rfl rfl ?_
    refine J_getR (pc' := 24) dX6_body_21 fl_6_275 (ly_57) (l84_57) rfl rfl ?_
    refine J_iload_n (pc' := 25) dX6_body_24 rfl rfl ?_
    refine J_iald k (pc' := 26) dX6_body_25 (ly_58) (l84_58) rfl (by omega) (by decide) rfl ?_
    refine J_goto (pc' := 0) 34 dX6_body_26 (by decide) ?_
    first | exact J_iret dX6_body_34  (by unfold sq_body; rw [if_neg (by exact jb_0.mp h_14)]; exact ⟨rfl, bq_err hX (by decide)⟩) | exact J_iret dX6_body_34  (by unfold sq_body; rw [if_pos (by exact jb_n h_14), nn_nI (by omega)]; exact ⟨jv (if_pos (show k < nn (w.1 57 1) by rw [hT, nn_nI (by omega)]; exact hk)).symm, bq_rf hX⟩)
theorem sInv_w0 {σ : sg} (h : sInv σ) : sInv (sg1 σ 6 7 0) := by
  obtain ⟨h1, h2, h3, h4, h5, h6, h7, h8, h9, h10, h11⟩ := h
  have e : ∀ f k, (f ≠ 6 ∨ k ≠ 7) → sg1 σ 6 7 0 f k = σ f k := fun f k q => if_neg (fun z => q.elim (fun q => q z.1) (fun q => q z.2))
  refine ⟨h1, h2, h3, h4, h5, h6, ⟨0, ?_, by omega⟩, fun k hk => ?_, fun k hk => ?_, fun u hu => ?_, fun k hk => ?_⟩
  · rw [sg1_at]; exact nI_0.symm
  · have q := h8 k hk
    unfold sMk at q ⊢
    rw [e 0 k (by omega), e 1 k (by omega), e 2 k (by omega), e 3 k (by omega), e 4 k (by omega), e 5 k (by omega)]
    exact q
  · rw [e 5 k (by omega)]; exact h9 k hk
  · have q := h10 u hu
    have e9 : sg1 σ 6 7 0 (9 + u) = σ (9 + u) := funext fun k => e _ k (by omega)
    rw [e9, e 11 u (by omega)]
    exact q
  · rw [e 7 k (by omega)]; exact h11 k hk
/-- the first number that waits and isn't what its mark says -/
def sChk (σ : sg) (W : Nat) : Nat → Nat → Int32
  | 0, _ => 0
  | n + 1, i => if sM σ ≤ i ∨ σ 8 i ≠ sS σ i then 1 + nI i else sChk σ W n (i + 1)
def sq_check (s k r : sg) : sQI := (sChk (sg1 s 6 7 0) (nn (s 6 7)) (nn (s 6 7)) 0, sg1 s 6 7 0, k, r)
set_option maxHeartbeats 4000000 in
set_option maxRecDepth 100000 in
theorem l_check {G : jG} {w0 w : jWd} {q : sg × sg × sg} (hI : sInv (abX w 1)) (hX : xB w 1) (hB : BQ w0 w q) {W : Nat} (hW : W ≤ 24) {v : Int32} : ∀ n i : Nat, i + n = W → sChk (abX w 1) W n i = v → J G (jM G 4 RX6 cX6_check 3 (some .int) (fun r' w' => r' = some (.int v) ∧ BQ w0 w' q)) w 18 [some (.ref 0), some (.int (nI W)), some (.int (nI i))] [] := by
  have hM : w.1 1 8 = nI (sM (abX w 1)) := (sIM hI).1
  have hM8 := (sIM hI).2
  intro n
  induction n with
  | zero =>
    intro i hi hv
    refine J_iload_n (pc' := 19) dX6_check_18 rfl rfl ?_
    refine J_iload_n (pc' := 20) dX6_check_19 rfl rfl ?_
    refine J_icmp_ge 64 (pc' := 23) dX6_check_20 (by decide) rfl (fun h_20 => ?_) (fun h_20 => absurd (nI_le (by omega) (by omega)) h_20)
    refine J_iconst (v := 0) (pc' := 65) dX6_check_64 (by decide) rfl ?_
    exact J_iret dX6_check_65  ⟨jv hv, hB⟩
  | succ n ih =>
    intro i hi hv
    refine J_iload_n (pc' := 19) dX6_check_18 rfl rfl ?_
    refine J_iload_n (pc' := 20) dX6_check_19 rfl rfl ?_
    refine J_icmp_ge 64 (pc' := 23) dX6_check_20 (by decide) rfl (fun h_20 => absurd h_20 (nI_ge (by omega) (by omega))) (fun h_20 => ?_)
    refine J_iload_n (pc' := 24) dX6_check_23 rfl rfl ?_
    refine J_aload_n (pc' := 25) dX6_check_24 rfl rfl ?_
    refine J_getR (pc' := 28) dX6_check_25 fl_6_12 (ly_0) (l84_0) rfl rfl ?_
    refine J_getI (pc' := 31) dX6_check_28 fl_6_73 (ly_1) (l84_1) rfl rfl ?_
    rw [hM]
    refine J_icmp_ge 54 (pc' := 34) dX6_check_31 (by decide) rfl (fun h_31 => ?_) (fun h_31 => ?_)
    · refine J_iconst (v := 1) (pc' := 55) dX6_check_54 (by decide) rfl ?_
      refine J_iload_n (pc' := 56) dX6_check_55 rfl rfl ?_
      refine J_iadd (pc' := 57) dX6_check_56 rfl ?_
      rw [sChk, if_pos (by first | exact Or.inr (fun q => h_51 ((if_pos (show i < 24 by omega)).symm.trans q)) | (rcases Nat.lt_or_ge i (sM (abX w 1)) with q | q; exact absurd h_31 (nI_ge q (by omega)); exact Or.inl q))] at hv
      exact J_iret dX6_check_57  ⟨jv hv, hB⟩
    · have him : i < sM (abX w 1) := by
        rcases Nat.lt_or_ge i (sM (abX w 1)) with q | q
        · exact q
        · exact absurd (nI_le q (by omega)) h_31
      refine J_aload_n (pc' := 35) dX6_check_34 rfl rfl ?_
      refine J_getR (pc' := 38) dX6_check_35 fl_6_12 (ly_0) (l84_0) rfl rfl ?_
      refine J_getR (pc' := 41) dX6_check_38 fl_6_313 (ly_1) (l84_1) rfl rfl ?_
      refine J_iload_n (pc' := 42) dX6_check_41 rfl rfl ?_
      refine J_iald i (pc' := 43) dX6_check_42 (ly_8) (l84_8) rfl (by omega) (by decide) rfl ?_
      refine J_aload_n (pc' := 44) dX6_check_43 rfl rfl ?_
      refine J_getR (pc' := 47) dX6_check_44 fl_6_12 (ly_0) (l84_0) rfl rfl ?_
      refine J_iload_n (pc' := 48) dX6_check_47 rfl rfl ?_
      refine J_V1v (pc' := 51) dX6_check_48 lk_6_105 cd_X0_saidBy (k_X0_saidBy jb1 hI hX him) (ly_1) (l84_1) rfl rfl (jroom_of rfl) (Nat.le_of_ble_eq_true rfl) rfl ?_
      refine J_icmp_eq 58 (pc' := 54) dX6_check_51 (by decide) rfl (fun h_51 => ?_) (fun h_51 => ?_)
      · refine J_iinc (pc' := 61) dX6_check_58 rfl (Nat.le_of_ble_eq_true rfl) (jst2 rfl rfl) rfl ?_
        refine J_goto (pc' := 0) 18 dX6_check_61 (by decide) ?_
        rw [sChk, if_neg (fun q => q.elim (fun q => by omega) (fun q => q ((if_pos (show i < 24 by omega)).trans h_51)))] at hv
        have h2 := ih (i + 1) (by omega) hv
        rw [← z1 i] at h2
        exact h2
      · refine J_iconst (v := 1) (pc' := 55) dX6_check_54 (by decide) rfl ?_
        refine J_iload_n (pc' := 56) dX6_check_55 rfl rfl ?_
        refine J_iadd (pc' := 57) dX6_check_56 rfl ?_
        rw [sChk, if_pos (by first | exact Or.inr (fun q => h_51 ((if_pos (show i < 24 by omega)).symm.trans q)) | (rcases Nat.lt_or_ge i (sM (abX w 1)) with q | q; exact absurd h_31 (nI_ge q (by omega)); exact Or.inl q))] at hv
        exact J_iret dX6_check_57  ⟨jv hv, hB⟩
set_option maxHeartbeats 4000000 in
set_option maxRecDepth 100000 in
theorem a_X6_check {G : jG} {w : jWd} (hX : XInv w) (hI : sInv (abX w 1)) : jKp G 4 yX6_check cX6_check 3 (some .int) [.ref 0] w (some (.int (sq_check (abX w 1) (abX w 16) (restX w)).1)) (fun w' => BQ w w' (sq_check (abX w 1) (abX w 16) (restX w)).2) := by
  obtain ⟨W, hW, hW24⟩ : ∃ n, w.1 1 16 = nI n ∧ n ≤ 24 := hI.2.2.2.2.2.2.1
  have eσ : abX (jset w 1 16 0) 1 = sg1 (abX w 1) 6 7 0 := abX_f16
  have hI2 : sInv (abX (jset w 1 16 0) 1) := by rw [eσ]; exact sInv_w0 hI
  refine jK_of (own := RX6) [some (.ref 0), none, none] pn6 rfl (Nat.le_of_ble_eq_true rfl) rfl ?_
  refine J_aload_n (pc' := 1) dX6_check_0 rfl rfl ?_
  refine J_getR (pc' := 4) dX6_check_1 fl_6_12 (ly_0) (l84_0) rfl rfl ?_
  refine J_getI (pc' := 7) dX6_check_4 fl_6_310 (ly_1) (l84_1) rfl rfl ?_
  rw [hW]
  refine J_istore_n (pc' := 8) dX6_check_7 (Nat.le_of_ble_eq_true rfl) (jst1 rfl rfl) rfl ?_
  refine J_aload_n (pc' := 9) dX6_check_8 rfl rfl ?_
  refine J_getR (pc' := 12) dX6_check_9 fl_6_12 (ly_0) (l84_0) rfl rfl ?_
  refine J_iconst (v := 0) (pc' := 13) dX6_check_12 (by decide) rfl ?_
  refine J_putI (pc' := 16) dX6_check_13 fp_6_310 (ly_1) (l84_1) rfl rfl ?_
  refine J_iconst (v := 0) (pc' := 17) dX6_check_16 (by decide) rfl ?_
  refine J_istore_n (pc' := 18) dX6_check_17 (Nat.le_of_ble_eq_true rfl) (jst2 rfl rfl) rfl ?_
  refine l_check (q := (sq_check (abX w 1) (abX w 16) (restX w)).2) hI2 (xB_set hX.1 (by omega) (by omega) (by omega)) (bq_now hX ((frB.rf 1 w).set (by omega) (by omega)) eσ (xB_set hX.1 (by omega) (by omega) (by omega))) hW24 W 0 (by omega) ?_
  rw [eσ]
  unfold sq_check
  rw [show abX w 1 6 7 = nI W from hW, nn_nI (by omega)]
