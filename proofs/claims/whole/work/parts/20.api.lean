/-! ===== the class: calls ===== -/
/-! ===== the whole state of the class; what a call makes of it ===== -/
abbrev nn (x : Int32) : Nat := x.toNatClampNeg
/-- all but the block and the image: errors, images, sheets, the trace -/
def restX (w : jWd) : sg := fun f k => match f with
  | 0 => if k < 7 then w.1 67 k else 0
  | 1 => if k = 0 then w.1 0 8 else 0
  | 2 => if k < 24 then w.1 61 k else 0
  | 3 => if k < 24 then w.1 62 k else 0
  | 4 => if k < 24 then w.1 63 k else 0
  | 5 => if k < 24 then w.1 64 k else 0
  | 6 => if k < 4 then w.1 65 k else 0
  | 7 => if k < 4 then w.1 66 k else 0
  | 8 => if k < nn (w.1 57 1) then w.1 58 k else 0
  | 9 => if k = 0 then w.1 57 1 else 0
  | _ => 0
def restM (w : jWd) : sg := fun f k => match f with
  | 0 => if k < 7 then w.1 72 k else 0
  | 1 => if k = 0 then w.1 68 3 else 0
  | 2 => if k < 24 then w.1 75 k else 0
  | 3 => if k < 24 then w.1 75 (24 + k) else 0
  | 4 => if k < 24 then w.1 75 (48 + k) else 0
  | 5 => if k < 24 then w.1 75 (72 + k) else 0
  | 6 => if k < 4 then w.1 73 k else 0
  | 7 => if k < 4 then w.1 74 k else 0
  | 8 => if k < nn (w.1 68 22) then w.1 83 k else 0
  | 9 => if k = 0 then w.1 68 22 else 0
  | _ => 0
theorem restX_congr {w w2 : jWd} (h : ∀ a, a = 0 ∨ (57 ≤ a ∧ a ≤ 67) → w2.1 a = w.1 a) : restX w2 = restX w := by
  unfold restX
  rw [h 0 (by omega), h 57 (by omega), h 58 (by omega), h 61 (by omega), h 62 (by omega), h 63 (by omega), h 64 (by omega), h 65 (by omega), h 66 (by omega), h 67 (by omega)]
theorem restM_congr {w w2 : jWd} (h : ∀ a, 68 ≤ a → a ≠ 69 → a ≠ 70 → a ≠ 71 → w2.1 a = w.1 a) : restM w2 = restM w := by
  unfold restM
  rw [h 68 (by omega) (by omega) (by omega) (by omega), h 72 (by omega) (by omega) (by omega) (by omega), h 73 (by omega) (by omega) (by omega) (by omega), h 74 (by omega) (by omega) (by omega) (by omega), h 75 (by omega) (by omega) (by omega) (by omega), h 83 (by omega) (by omega) (by omega) (by omega)]
def XInv (w : jWd) : Prop := xB w 1 ∧ xB w 16 ∧ xB w 31
/-- the reference's cells as they were -/
def frM (w w2 : jWd) : Prop := ∀ a, 68 ≤ a → w2.1 a = w.1 a ∧ w2.2 a = w.2 a
/-- the state behind a call of the class -/
def BQ (w w2 : jWd) (q : sg × sg × sg) : Prop := abX w2 1 = q.1 ∧ abX w2 16 = q.2.1 ∧ restX w2 = q.2.2 ∧ XInv w2 ∧ frM w w2
abbrev sQI : Type := Int32 × sg × sg × sg
abbrev sQL : Type := Int64 × sg × sg × sg
theorem bq_rf {w : jWd} (hX : XInv w) : BQ w w (abX w 1, abX w 16, restX w) := ⟨rfl, rfl, rfl, hX, fun _ _ => ⟨rfl, rfl⟩⟩
/-- the block has changed, and what is only worked out -/
theorem bq_gen {w w2 : jWd} {σ : sg} (hX : XInv w) (h1 : abX w2 1 = σ) (hB : xB w2 1) (hB3 : xB w2 31) (h : ∀ a, (a = 0 ∨ (16 ≤ a ∧ a ≤ 30) ∨ (57 ≤ a)) → w2.1 a = w.1 a) (hL : ∀ a, 57 ≤ a → w2.2 a = w.2 a) : BQ w w2 (σ, abX w 16, restX w) :=
  ⟨h1, abX_congr (fun a q1 q2 => h a (by omega)), restX_congr (fun a q => h a (by omega)), ⟨hB, xB_congr (fun a q1 q2 => h a (by omega)) hX.2.1, hB3⟩, fun a q => ⟨h a (by omega), hL a (by omega)⟩⟩
theorem bq_now {w w2 : jWd} {σ : sg} (hX : XInv w) (hf : frB 1 w w2) (h1 : abX w2 1 = σ) (hB : xB w2 1) : BQ w w2 (σ, abX w 16, restX w) :=
  bq_gen hX h1 hB (xB_congr (fun a q1 q2 => hf.1 a (by omega)) hX.2.2) (fun a q => hf.1 a (by omega)) (fun a _ => by rw [hf.2])
def sEr (ρ : sg) (k : Nat) : sg := sg1 ρ 0 k (ρ 0 k + 1)
theorem bq_err {w : jWd} (hX : XInv w) {k : Nat} (hk : k < 7) : BQ w (jset w 67 k (w.1 67 k + 1)) (abX w 1, abX w 16, sEr (restX w) k) := by
  have o : ∀ a, a ≠ 67 → (jset w 67 k (w.1 67 k + 1)).1 a = w.1 a := fun a h => jset_off h
  refine ⟨abX_congr (fun a q1 q2 => o a (by omega)), abX_congr (fun a q1 q2 => o a (by omega)), ?_, ⟨xB_congr (fun a q1 q2 => o a (by omega)) hX.1, xB_congr (fun a q1 q2 => o a (by omega)) hX.2.1, xB_congr (fun a q1 q2 => o a (by omega)) hX.2.2⟩, fun a q => ⟨o a (by omega), rfl⟩⟩
  have e0 : restX w 0 k = w.1 67 k := if_pos hk
  funext f j
  unfold sEr
  rw [e0]
  by_cases hf : f = 0
  · subst hf
    show (if j < 7 then (jset w 67 k (w.1 67 k + 1)).1 67 j else 0) = sg1 (restX w) 0 k (w.1 67 k + 1) 0 j
    by_cases hj : j = k
    · subst hj; rw [if_pos hk, sg1_at, jset_1, if_pos rfl, if_pos rfl]
    · rw [sg1_k hj, jset_1, if_pos rfl, if_neg hj]; rfl
  · show restX (jset w 67 k (w.1 67 k + 1)) f j = sg1 (restX w) 0 k (w.1 67 k + 1) f j
    rw [sg1_f hf]
    match f, hf with
    | 0, hf => exact absurd rfl hf
    | 1, _ => show restX _ 1 j = restX _ 1 j; unfold restX; simp only [o 0 (by decide)]
    | 2, _ => show restX _ 2 j = restX _ 2 j; unfold restX; simp only [o 61 (by decide)]
    | 3, _ => show restX _ 3 j = restX _ 3 j; unfold restX; simp only [o 62 (by decide)]
    | 4, _ => show restX _ 4 j = restX _ 4 j; unfold restX; simp only [o 63 (by decide)]
    | 5, _ => show restX _ 5 j = restX _ 5 j; unfold restX; simp only [o 64 (by decide)]
    | 6, _ => show restX _ 6 j = restX _ 6 j; unfold restX; simp only [o 65 (by decide)]
    | 7, _ => show restX _ 7 j = restX _ 7 j; unfold restX; simp only [o 66 (by decide)]
    | 8, _ => show restX _ 8 j = restX _ 8 j; unfold restX; simp only [o 57 (by decide), o 58 (by decide)]
    | 9, _ => show restX _ 9 j = restX _ 9 j; unfold restX; simp only [o 57 (by decide)]
    | n + 10, _ => exact (show restX _ (n + 10) j = 0 from rfl).trans (show restX _ (n + 10) j = 0 from rfl).symm
theorem nn_nI {k : Nat} (h : k < 2 ^ 31) : nn (nI k) = k := nI_clamp h
abbrev sIsM (σ : sg) (x : Int32) : Prop := 0 ≤ x ∧ x ≤ σ 6 0 - 1
abbrev sIsP (σ : sg) (x : Int32) : Prop := 0 ≤ x ∧ x ≤ σ 6 1 - 1
theorem sIs_ex {x c : Int32} {n : Nat} (hc : c = nI n) (hn : n ≤ 1000000) (h : 0 ≤ x ∧ x ≤ c - 1) : ∃ k, k < n ∧ x = nI k := by
  have h0 := Int32.le_iff_toInt_le.mp h.1
  have h1 := Int32.le_iff_toInt_le.mp h.2
  rw [show (0 : Int32).toInt = 0 from by decide] at h0
  rcases Nat.eq_zero_or_pos n with q | q
  · subst q
    rw [hc, show nI 0 - 1 = -1 from by decide, show (-1 : Int32).toInt = -1 from by decide] at h1
    omega
  · rw [hc, jsub (a := n) (b := 1) rfl nIc_1 q, nI_toInt (by omega)] at h1
    exact ⟨x.toInt.toNat, by omega, Int32.toInt_inj.mp (by rw [nI_toInt (by omega)]; omega)⟩
theorem sIs_of {c : Int32} {n k : Nat} (hc : c = nI n) (hn : n ≤ 1000000) (h : k < n) : 0 ≤ nI k ∧ nI k ≤ c - 1 := by
  refine ⟨nI_pos' (by omega), ?_⟩
  rw [hc, jsub (a := n) (b := 1) rfl nIc_1 (by omega)]
  exact nI_le (by omega) (by omega)
theorem sIsM_ex {σ : sg} (hI : sInv σ) {x : Int32} (h : sIsM σ x) : ∃ k, k < sM σ ∧ x = nI k := sIs_ex (sIM hI).1 (by have := (sIM hI).2; omega) h
theorem sIsP_ex {σ : sg} (hI : sInv σ) {x : Int32} (h : sIsP σ x) : ∃ k, k < sP σ ∧ x = nI k := sIs_ex (sIP hI).1 (by have := (sIP hI).2; omega) h
theorem k_err1 {G : jG} {w : jWd} : jKd G 0 yX6_error cX6_error 2 (some .int) [.ref 0, .int 1] w (some (.int (sErr 1))) (jset w 67 1 (w.1 67 1 + 1)) := k_X6_error (k := 1) (by decide)
theorem k_err2 {G : jG} {w : jWd} : jKd G 0 yX6_error cX6_error 2 (some .int) [.ref 0, .int 2] w (some (.int (sErr 2))) (jset w 67 2 (w.1 67 2 + 1)) := k_X6_error (k := 2) (by decide)
theorem k_err3 {G : jG} {w : jWd} : jKd G 0 yX6_error cX6_error 2 (some .int) [.ref 0, .int 3] w (some (.int (sErr 3))) (jset w 67 3 (w.1 67 3 + 1)) := k_X6_error (k := 3) (by decide)
theorem k_err4 {G : jG} {w : jWd} : jKd G 0 yX6_error cX6_error 2 (some .int) [.ref 0, .int 4] w (some (.int (sErr 4))) (jset w 67 4 (w.1 67 4 + 1)) := k_X6_error (k := 4) (by decide)
theorem k_err5 {G : jG} {w : jWd} : jKd G 0 yX6_error cX6_error 2 (some .int) [.ref 0, .int 5] w (some (.int (sErr 5))) (jset w 67 5 (w.1 67 5 + 1)) := k_X6_error (k := 5) (by decide)
theorem k_err6 {G : jG} {w : jWd} : jKd G 0 yX6_error cX6_error 2 (some .int) [.ref 0, .int 6] w (some (.int (sErr 6))) (jset w 67 6 (w.1 67 6 + 1)) := k_X6_error (k := 6) (by decide)
def sq_become (s k r : sg) (x : Int32) (km : Int32) : sQI := if sIsM s x ∧ (0 ≤ km ∧ km ≤ 69) then (s 0 (nn x), sg1 (sg1 s 0 (nn x) (km / 10)) 1 (nn x) (km - km / 10 * 10), k, r) else (sErr 1, s, k, sEr r 1)
set_option maxHeartbeats 4000000 in
set_option maxRecDepth 100000 in
theorem a_X6_become {G : jG} {w : jWd} (hX : XInv w) (hI : sInv (abX w 1)) {x : Int32} {km : Int32} : jKp G 2 yX6_become cX6_become 4 (some .int) [.ref 0, .int x, .int km] w (some (.int (sq_become (abX w 1) (abX w 16) (restX w) x km).1)) (fun w' => BQ w w' (sq_become (abX w 1) (abX w 16) (restX w) x km).2) := by
  refine jK_of (own := RX6) [some (.ref 0), some (.int x), some (.int km), none] pn6 rfl (Nat.le_of_ble_eq_true rfl) rfl ?_
  refine J_aload_n (pc' := 1) dX6_become_0 rfl rfl ?_
  refine J_iload_n (pc' := 2) dX6_become_1 rfl rfl ?_
  refine J_V1v (pc' := 5) dX6_become_2 lk_6_81 cd_X6_isMark (k_X6_isMark) (ly_0) (l84_0) rfl rfl (jroom_of rfl) (Nat.le_of_ble_eq_true rfl) rfl ?_
  refine J_if_eq 15 (pc' := 8) dX6_become_5 (by decide) rfl (fun h_5 => ?_) (fun h_5 => ?_)
  · refine J_aload_n (pc' := 16) dX6_become_15 rfl rfl ?_
    refine J_iconst (v := 1) (pc' := 17) dX6_become_16 (by decide) rfl ?_
    refine J_V1v (pc' := 20) dX6_become_17 lk_6_69 cd_X6_error (k_err1) (ly_0) (l84_0) rfl rfl (jroom_of rfl) (Nat.le_of_ble_eq_true rfl) rfl ?_
    exact J_iret dX6_become_20  (by unfold sq_become; rw [if_neg (fun q => by first | exact jb_0.mp h_5 q.1 | exact jb_0.mp h_12 q.2)]; exact ⟨rfl, bq_err hX (by decide)⟩)
  · refine J_iload_n (pc' := 9) dX6_become_8 rfl rfl ?_
    refine J_S1v (pc' := 12) dX6_become_9 lk_6_59 cd_X6_isKindAndNumber (k_X6_isKindAndNumber) (jroom_of rfl) (Nat.le_of_ble_eq_true rfl) rfl ?_
    refine J_if_ne 21 (pc' := 15) dX6_become_12 (by decide) rfl (fun h_12 => ?_) (fun h_12 => ?_)
    · obtain ⟨k, hk, rfl⟩ := sIsM_ex hI (jb_n h_5)
      have h8 : k < 8 := Nat.lt_of_lt_of_le hk (sIM hI).2
      refine J_aload_n (pc' := 22) dX6_become_21 rfl rfl ?_
      refine J_getR (pc' := 25) dX6_become_22 fl_6_12 (ly_0) (l84_0) rfl rfl ?_
      refine J_getR (pc' := 28) dX6_become_25 fl_6_84 (ly_1) (l84_1) rfl rfl ?_
      refine J_iload_n (pc' := 29) dX6_become_28 rfl rfl ?_
      refine J_iald k (pc' := 30) dX6_become_29 (ly_2) (l84_2) rfl h8 (by decide) rfl ?_
      refine J_istore_n (pc' := 31) dX6_become_30 (Nat.le_of_ble_eq_true rfl) (jst3 rfl rfl) rfl ?_
      refine J_aload_n (pc' := 32) dX6_become_31 rfl rfl ?_
      refine J_getR (pc' := 35) dX6_become_32 fl_6_12 (ly_0) (l84_0) rfl rfl ?_
      refine J_getR (pc' := 38) dX6_become_35 fl_6_84 (ly_1) (l84_1) rfl rfl ?_
      refine J_iload_n (pc' := 39) dX6_become_38 rfl rfl ?_
      refine J_iload_n (pc' := 40) dX6_become_39 rfl rfl ?_
      refine J_bipush (v := 10) (pc' := 42) dX6_become_40 (by decide) rfl ?_
      refine J_idiv (pc' := 43) dX6_become_42 (by decide) rfl ?_
      refine J_iast k (pc' := 44) dX6_become_43 (ly_2) (l84_2) rfl h8 (by decide) rfl ?_
      refine J_aload_n (pc' := 45) dX6_become_44 rfl rfl ?_
      refine J_getR (pc' := 48) dX6_become_45 fl_6_12 (ly_0) (l84_0) rfl rfl ?_
      refine J_getR (pc' := 51) dX6_become_48 fl_6_87 (ly_1) (l84_1) rfl rfl ?_
      refine J_iload_n (pc' := 52) dX6_become_51 rfl rfl ?_
      refine J_iload_n (pc' := 53) dX6_become_52 rfl rfl ?_
      refine J_bipush (v := 10) (pc' := 55) dX6_become_53 (by decide) rfl ?_
      refine J_irem (pc' := 56) dX6_become_55 (by decide) rfl ?_
      refine J_iast k (pc' := 57) dX6_become_56 (ly_3) (l84_3) rfl h8 (by decide) rfl ?_
      refine J_iload_n (pc' := 58) dX6_become_57 rfl rfl ?_
      exact J_iret dX6_become_58  (by unfold sq_become; rw [if_pos ⟨jb_n h_5, jb_n h_12⟩, nn_nI (by omega)]; exact ⟨by rw [ax0 h8], bq_now hX (((frB.rf 1 w).set (by omega) (by omega)).set (by omega) (by omega)) (by rw [abX_s1 h8, abX_s0 h8]) (xB_set (xB_set hX.1 (by omega) (by omega) (by omega)) (by omega) (by omega) (by omega))⟩)
    · refine J_aload_n (pc' := 16) dX6_become_15 rfl rfl ?_
      refine J_iconst (v := 1) (pc' := 17) dX6_become_16 (by decide) rfl ?_
      refine J_V1v (pc' := 20) dX6_become_17 lk_6_69 cd_X6_error (k_err1) (ly_0) (l84_0) rfl rfl (jroom_of rfl) (Nat.le_of_ble_eq_true rfl) rfl ?_
      exact J_iret dX6_become_20  (by unfold sq_become; rw [if_neg (fun q => by first | exact jb_0.mp h_5 q.1 | exact jb_0.mp h_12 q.2)]; exact ⟨rfl, bq_err hX (by decide)⟩)
def sq_measure (s k r : sg) (x : Int32) (v : Int32) : sQI := if sIsM s x ∧ (-20 ≤ v ∧ v ≤ 20) then (s 4 (nn x), sg1 s 4 (nn x) v, k, r) else (sErr 1, s, k, sEr r 1)
set_option maxHeartbeats 4000000 in
set_option maxRecDepth 100000 in
theorem a_X6_measure {G : jG} {w : jWd} (hX : XInv w) (hI : sInv (abX w 1)) {x : Int32} {v : Int32} : jKp G 2 yX6_measure cX6_measure 4 (some .int) [.ref 0, .int x, .int v] w (some (.int (sq_measure (abX w 1) (abX w 16) (restX w) x v).1)) (fun w' => BQ w w' (sq_measure (abX w 1) (abX w 16) (restX w) x v).2) := by
  refine jK_of (own := RX6) [some (.ref 0), some (.int x), some (.int v), none] pn6 rfl (Nat.le_of_ble_eq_true rfl) rfl ?_
  refine J_aload_n (pc' := 1) dX6_measure_0 rfl rfl ?_
  refine J_iload_n (pc' := 2) dX6_measure_1 rfl rfl ?_
  refine J_V1v (pc' := 5) dX6_measure_2 lk_6_81 cd_X6_isMark (k_X6_isMark) (ly_0) (l84_0) rfl rfl (jroom_of rfl) (Nat.le_of_ble_eq_true rfl) rfl ?_
  refine J_if_eq 15 (pc' := 8) dX6_measure_5 (by decide) rfl (fun h_5 => ?_) (fun h_5 => ?_)
  · refine J_aload_n (pc' := 16) dX6_measure_15 rfl rfl ?_
    refine J_iconst (v := 1) (pc' := 17) dX6_measure_16 (by decide) rfl ?_
    refine J_V1v (pc' := 20) dX6_measure_17 lk_6_69 cd_X6_error (k_err1) (ly_0) (l84_0) rfl rfl (jroom_of rfl) (Nat.le_of_ble_eq_true rfl) rfl ?_
    exact J_iret dX6_measure_20  (by unfold sq_measure; rw [if_neg (fun q => by first | exact jb_0.mp h_5 q.1 | exact jb_0.mp h_12 q.2)]; exact ⟨rfl, bq_err hX (by decide)⟩)
  · refine J_iload_n (pc' := 9) dX6_measure_8 rfl rfl ?_
    refine J_S1v (pc' := 12) dX6_measure_9 lk_6_66 cd_X6_isTold (k_X6_isTold) (jroom_of rfl) (Nat.le_of_ble_eq_true rfl) rfl ?_
    refine J_if_ne 21 (pc' := 15) dX6_measure_12 (by decide) rfl (fun h_12 => ?_) (fun h_12 => ?_)
    · obtain ⟨k, hk, rfl⟩ := sIsM_ex hI (jb_n h_5)
      have h8 : k < 8 := Nat.lt_of_lt_of_le hk (sIM hI).2
      refine J_aload_n (pc' := 22) dX6_measure_21 rfl rfl ?_
      refine J_getR (pc' := 25) dX6_measure_22 fl_6_12 (ly_0) (l84_0) rfl rfl ?_
      refine J_getR (pc' := 28) dX6_measure_25 fl_6_96 (ly_1) (l84_1) rfl rfl ?_
      refine J_iload_n (pc' := 29) dX6_measure_28 rfl rfl ?_
      refine J_iald k (pc' := 30) dX6_measure_29 (ly_6) (l84_6) rfl h8 (by decide) rfl ?_
      refine J_istore_n (pc' := 31) dX6_measure_30 (Nat.le_of_ble_eq_true rfl) (jst3 rfl rfl) rfl ?_
      refine J_aload_n (pc' := 32) dX6_measure_31 rfl rfl ?_
      refine J_getR (pc' := 35) dX6_measure_32 fl_6_12 (ly_0) (l84_0) rfl rfl ?_
      refine J_getR (pc' := 38) dX6_measure_35 fl_6_96 (ly_1) (l84_1) rfl rfl ?_
      refine J_iload_n (pc' := 39) dX6_measure_38 rfl rfl ?_
      refine J_iload_n (pc' := 40) dX6_measure_39 rfl rfl ?_
      refine J_iast k (pc' := 41) dX6_measure_40 (ly_6) (l84_6) rfl h8 (by decide) rfl ?_
      refine J_iload_n (pc' := 42) dX6_measure_41 rfl rfl ?_
      exact J_iret dX6_measure_42  (by unfold sq_measure; rw [if_pos ⟨jb_n h_5, jb_n h_12⟩, nn_nI (by omega)]; exact ⟨by rw [ax4 h8], bq_now hX ((frB.rf 1 w).set (by omega) (by omega)) (by rw [abX_s4 h8]) (xB_set hX.1 (by omega) (by omega) (by omega))⟩)
    · refine J_aload_n (pc' := 16) dX6_measure_15 rfl rfl ?_
      refine J_iconst (v := 1) (pc' := 17) dX6_measure_16 (by decide) rfl ?_
      refine J_V1v (pc' := 20) dX6_measure_17 lk_6_69 cd_X6_error (k_err1) (ly_0) (l84_0) rfl rfl (jroom_of rfl) (Nat.le_of_ble_eq_true rfl) rfl ?_
      exact J_iret dX6_measure_20  (by unfold sq_measure; rw [if_neg (fun q => by first | exact jb_0.mp h_5 q.1 | exact jb_0.mp h_12 q.2)]; exact ⟨rfl, bq_err hX (by decide)⟩)
def sq_as (s k r : sg) (x : Int32) (c : Int32) : sQI := if sIsM s x ∧ (0 ≤ c ∧ c ≤ 6) then (if sOf (s 0 (nn x)) c = true then (s 1 (nn x), s, k, r) else (sErr 5, s, k, sEr r 5)) else (sErr 1, s, k, sEr r 1)
set_option maxHeartbeats 4000000 in
set_option maxRecDepth 100000 in
theorem a_X6_as {G : jG} {w : jWd} (hX : XInv w) (hI : sInv (abX w 1)) {x : Int32} {c : Int32} : jKp G 2 yX6_as cX6_as 3 (some .int) [.ref 0, .int x, .int c] w (some (.int (sq_as (abX w 1) (abX w 16) (restX w) x c).1)) (fun w' => BQ w w' (sq_as (abX w 1) (abX w 16) (restX w) x c).2) := by
  refine jK_of (own := RX6) [some (.ref 0), some (.int x), some (.int c)] pn6 rfl (Nat.le_of_ble_eq_true rfl) rfl ?_
  refine J_aload_n (pc' := 1) dX6_as_0 rfl rfl ?_
  refine J_iload_n (pc' := 2) dX6_as_1 rfl rfl ?_
  refine J_V1v (pc' := 5) dX6_as_2 lk_6_81 cd_X6_isMark (k_X6_isMark) (ly_0) (l84_0) rfl rfl (jroom_of rfl) (Nat.le_of_ble_eq_true rfl) rfl ?_
  refine J_if_eq 18 (pc' := 8) dX6_as_5 (by decide) rfl (fun h_5 => ?_) (fun h_5 => ?_)
  · refine J_aload_n (pc' := 19) dX6_as_18 rfl rfl ?_
    refine J_iconst (v := 1) (pc' := 20) dX6_as_19 (by decide) rfl ?_
    refine J_V1v (pc' := 23) dX6_as_20 lk_6_69 cd_X6_error (k_err1) (ly_0) (l84_0) rfl rfl (jroom_of rfl) (Nat.le_of_ble_eq_true rfl) rfl ?_
    exact J_iret dX6_as_23  (by unfold sq_as; rw [if_neg (fun q => by first | exact jb_0.mp h_5 q.1 | exact jb_0.mp h_15 q.2)]; exact ⟨rfl, bq_err hX (by decide)⟩)
  · refine J_iload_n (pc' := 9) dX6_as_8 rfl rfl ?_
    refine J_iconst (v := 0) (pc' := 10) dX6_as_9 (by decide) rfl ?_
    refine J_bipush (v := 6) (pc' := 12) dX6_as_10 (by decide) rfl ?_
    refine J_S3v (pc' := 15) dX6_as_12 lk_6_108 cd_X6_isWithin (k_X6_isWithin) (jroom_of rfl) (Nat.le_of_ble_eq_true rfl) rfl ?_
    refine J_if_ne 24 (pc' := 18) dX6_as_15 (by decide) rfl (fun h_15 => ?_) (fun h_15 => ?_)
    · obtain ⟨k, hk, rfl⟩ := sIsM_ex hI (jb_n h_5)
      have h8 : k < 8 := Nat.lt_of_lt_of_le hk (sIM hI).2
      refine J_aload_n (pc' := 25) dX6_as_24 rfl rfl ?_
      refine J_getR (pc' := 28) dX6_as_25 fl_6_12 (ly_0) (l84_0) rfl rfl ?_
      refine J_getR (pc' := 31) dX6_as_28 fl_6_84 (ly_1) (l84_1) rfl rfl ?_
      refine J_iload_n (pc' := 32) dX6_as_31 rfl rfl ?_
      refine J_iald k (pc' := 33) dX6_as_32 (ly_2) (l84_2) rfl h8 (by decide) rfl ?_
      refine J_iload_n (pc' := 34) dX6_as_33 rfl rfl ?_
      refine J_S2v (pc' := 37) dX6_as_34 lk_6_112 cd_X6_isOfKind (k_X6_isOfKind (by rw [← ax0 h8]; exact (sIk hI hk).1)) (jroom_of rfl) (Nat.le_of_ble_eq_true rfl) rfl ?_
      refine J_if_ne 46 (pc' := 40) dX6_as_37 (by decide) rfl (fun h_37 => ?_) (fun h_37 => ?_)
      · refine J_aload_n (pc' := 47) dX6_as_46 rfl rfl ?_
        refine J_getR (pc' := 50) dX6_as_47 fl_6_12 (ly_0) (l84_0) rfl rfl ?_
        refine J_getR (pc' := 53) dX6_as_50 fl_6_87 (ly_1) (l84_1) rfl rfl ?_
        refine J_iload_n (pc' := 54) dX6_as_53 rfl rfl ?_
        refine J_iald k (pc' := 55) dX6_as_54 (ly_3) (l84_3) rfl h8 (by decide) rfl ?_
        exact J_iret dX6_as_55  (by unfold sq_as; rw [if_pos ⟨jb_n h_5, jb_n h_15⟩, nn_nI (by omega), ax0 h8, if_pos (jb_n h_37)]; exact ⟨by rw [ax1 h8], bq_rf hX⟩)
      · refine J_aload_n (pc' := 41) dX6_as_40 rfl rfl ?_
        refine J_iconst (v := 5) (pc' := 42) dX6_as_41 (by decide) rfl ?_
        refine J_V1v (pc' := 45) dX6_as_42 lk_6_69 cd_X6_error (k_err5) (ly_0) (l84_0) rfl rfl (jroom_of rfl) (Nat.le_of_ble_eq_true rfl) rfl ?_
        exact J_iret dX6_as_45  (by unfold sq_as; rw [if_pos ⟨jb_n h_5, jb_n h_15⟩, nn_nI (by omega), ax0 h8, if_neg (jb_0.mp h_37)]; exact ⟨rfl, bq_err hX (by decide)⟩)
    · refine J_aload_n (pc' := 19) dX6_as_18 rfl rfl ?_
      refine J_iconst (v := 1) (pc' := 20) dX6_as_19 (by decide) rfl ?_
      refine J_V1v (pc' := 23) dX6_as_20 lk_6_69 cd_X6_error (k_err1) (ly_0) (l84_0) rfl rfl (jroom_of rfl) (Nat.le_of_ble_eq_true rfl) rfl ?_
      exact J_iret dX6_as_23  (by unfold sq_as; rw [if_neg (fun q => by first | exact jb_0.mp h_5 q.1 | exact jb_0.mp h_15 q.2)]; exact ⟨rfl, bq_err hX (by decide)⟩)
