/-! ===== sheets ===== -/
theorem rx_61 {w : jWd} {k : Nat} {v : Int32} (hk : k < 24) : restX (jset w 61 k v) = sg1 (restX w) 2 k v := by
  have o : ∀ a, a ≠ 61 → (jset w 61 k v).1 a = w.1 a := fun a h => jset_off h
  funext f j
  match f with
  | 0 =>
    rw [sg1_f (by decide)]
    unfold restX
    simp only [o 67 (by decide)]
  | 1 =>
    rw [sg1_f (by decide)]
    unfold restX
    simp only [o 0 (by decide)]
  | 2 =>
    by_cases hj : j = k
    · rw [hj, sg1_at]
      show (if k < 24 then (jset w 61 k v).1 61 k else 0) = v
      rw [if_pos hk, jset_1, if_pos rfl, if_pos rfl]
    · rw [sg1_k hj]
      show (if j < 24 then (jset w 61 k v).1 61 j else 0) = (if j < 24 then w.1 61 j else 0)
      rw [jset_1, if_pos rfl, if_neg hj]
  | 3 =>
    rw [sg1_f (by decide)]
    unfold restX
    simp only [o 62 (by decide)]
  | 4 =>
    rw [sg1_f (by decide)]
    unfold restX
    simp only [o 63 (by decide)]
  | 5 =>
    rw [sg1_f (by decide)]
    unfold restX
    simp only [o 64 (by decide)]
  | 6 =>
    rw [sg1_f (by decide)]
    unfold restX
    simp only [o 65 (by decide)]
  | 7 =>
    rw [sg1_f (by decide)]
    unfold restX
    simp only [o 66 (by decide)]
  | 8 =>
    rw [sg1_f (by decide)]
    unfold restX
    simp only [o 57 (by decide), o 58 (by decide)]
  | 9 =>
    rw [sg1_f (by decide)]
    unfold restX
    simp only [o 57 (by decide)]
  | n + 10 => exact (show restX _ (n + 10) j = 0 from rfl).trans ((sg1_f (by omega)).trans (show restX _ (n + 10) j = 0 from rfl)).symm
theorem rx_62 {w : jWd} {k : Nat} {v : Int32} (hk : k < 24) : restX (jset w 62 k v) = sg1 (restX w) 3 k v := by
  have o : ∀ a, a ≠ 62 → (jset w 62 k v).1 a = w.1 a := fun a h => jset_off h
  funext f j
  match f with
  | 0 =>
    rw [sg1_f (by decide)]
    unfold restX
    simp only [o 67 (by decide)]
  | 1 =>
    rw [sg1_f (by decide)]
    unfold restX
    simp only [o 0 (by decide)]
  | 2 =>
    rw [sg1_f (by decide)]
    unfold restX
    simp only [o 61 (by decide)]
  | 3 =>
    by_cases hj : j = k
    · rw [hj, sg1_at]
      show (if k < 24 then (jset w 62 k v).1 62 k else 0) = v
      rw [if_pos hk, jset_1, if_pos rfl, if_pos rfl]
    · rw [sg1_k hj]
      show (if j < 24 then (jset w 62 k v).1 62 j else 0) = (if j < 24 then w.1 62 j else 0)
      rw [jset_1, if_pos rfl, if_neg hj]
  | 4 =>
    rw [sg1_f (by decide)]
    unfold restX
    simp only [o 63 (by decide)]
  | 5 =>
    rw [sg1_f (by decide)]
    unfold restX
    simp only [o 64 (by decide)]
  | 6 =>
    rw [sg1_f (by decide)]
    unfold restX
    simp only [o 65 (by decide)]
  | 7 =>
    rw [sg1_f (by decide)]
    unfold restX
    simp only [o 66 (by decide)]
  | 8 =>
    rw [sg1_f (by decide)]
    unfold restX
    simp only [o 57 (by decide), o 58 (by decide)]
  | 9 =>
    rw [sg1_f (by decide)]
    unfold restX
    simp only [o 57 (by decide)]
  | n + 10 => exact (show restX _ (n + 10) j = 0 from rfl).trans ((sg1_f (by omega)).trans (show restX _ (n + 10) j = 0 from rfl)).symm
theorem rx_63 {w : jWd} {k : Nat} {v : Int32} (hk : k < 24) : restX (jset w 63 k v) = sg1 (restX w) 4 k v := by
  have o : ∀ a, a ≠ 63 → (jset w 63 k v).1 a = w.1 a := fun a h => jset_off h
  funext f j
  match f with
  | 0 =>
    rw [sg1_f (by decide)]
    unfold restX
    simp only [o 67 (by decide)]
  | 1 =>
    rw [sg1_f (by decide)]
    unfold restX
    simp only [o 0 (by decide)]
  | 2 =>
    rw [sg1_f (by decide)]
    unfold restX
    simp only [o 61 (by decide)]
  | 3 =>
    rw [sg1_f (by decide)]
    unfold restX
    simp only [o 62 (by decide)]
  | 4 =>
    by_cases hj : j = k
    · rw [hj, sg1_at]
      show (if k < 24 then (jset w 63 k v).1 63 k else 0) = v
      rw [if_pos hk, jset_1, if_pos rfl, if_pos rfl]
    · rw [sg1_k hj]
      show (if j < 24 then (jset w 63 k v).1 63 j else 0) = (if j < 24 then w.1 63 j else 0)
      rw [jset_1, if_pos rfl, if_neg hj]
  | 5 =>
    rw [sg1_f (by decide)]
    unfold restX
    simp only [o 64 (by decide)]
  | 6 =>
    rw [sg1_f (by decide)]
    unfold restX
    simp only [o 65 (by decide)]
  | 7 =>
    rw [sg1_f (by decide)]
    unfold restX
    simp only [o 66 (by decide)]
  | 8 =>
    rw [sg1_f (by decide)]
    unfold restX
    simp only [o 57 (by decide), o 58 (by decide)]
  | 9 =>
    rw [sg1_f (by decide)]
    unfold restX
    simp only [o 57 (by decide)]
  | n + 10 => exact (show restX _ (n + 10) j = 0 from rfl).trans ((sg1_f (by omega)).trans (show restX _ (n + 10) j = 0 from rfl)).symm
theorem rx_64 {w : jWd} {k : Nat} {v : Int32} (hk : k < 24) : restX (jset w 64 k v) = sg1 (restX w) 5 k v := by
  have o : ∀ a, a ≠ 64 → (jset w 64 k v).1 a = w.1 a := fun a h => jset_off h
  funext f j
  match f with
  | 0 =>
    rw [sg1_f (by decide)]
    unfold restX
    simp only [o 67 (by decide)]
  | 1 =>
    rw [sg1_f (by decide)]
    unfold restX
    simp only [o 0 (by decide)]
  | 2 =>
    rw [sg1_f (by decide)]
    unfold restX
    simp only [o 61 (by decide)]
  | 3 =>
    rw [sg1_f (by decide)]
    unfold restX
    simp only [o 62 (by decide)]
  | 4 =>
    rw [sg1_f (by decide)]
    unfold restX
    simp only [o 63 (by decide)]
  | 5 =>
    by_cases hj : j = k
    · rw [hj, sg1_at]
      show (if k < 24 then (jset w 64 k v).1 64 k else 0) = v
      rw [if_pos hk, jset_1, if_pos rfl, if_pos rfl]
    · rw [sg1_k hj]
      show (if j < 24 then (jset w 64 k v).1 64 j else 0) = (if j < 24 then w.1 64 j else 0)
      rw [jset_1, if_pos rfl, if_neg hj]
  | 6 =>
    rw [sg1_f (by decide)]
    unfold restX
    simp only [o 65 (by decide)]
  | 7 =>
    rw [sg1_f (by decide)]
    unfold restX
    simp only [o 66 (by decide)]
  | 8 =>
    rw [sg1_f (by decide)]
    unfold restX
    simp only [o 57 (by decide), o 58 (by decide)]
  | 9 =>
    rw [sg1_f (by decide)]
    unfold restX
    simp only [o 57 (by decide)]
  | n + 10 => exact (show restX _ (n + 10) j = 0 from rfl).trans ((sg1_f (by omega)).trans (show restX _ (n + 10) j = 0 from rfl)).symm
theorem rx_65 {w : jWd} {k : Nat} {v : Int32} (hk : k < 4) : restX (jset w 65 k v) = sg1 (restX w) 6 k v := by
  have o : ∀ a, a ≠ 65 → (jset w 65 k v).1 a = w.1 a := fun a h => jset_off h
  funext f j
  match f with
  | 0 =>
    rw [sg1_f (by decide)]
    unfold restX
    simp only [o 67 (by decide)]
  | 1 =>
    rw [sg1_f (by decide)]
    unfold restX
    simp only [o 0 (by decide)]
  | 2 =>
    rw [sg1_f (by decide)]
    unfold restX
    simp only [o 61 (by decide)]
  | 3 =>
    rw [sg1_f (by decide)]
    unfold restX
    simp only [o 62 (by decide)]
  | 4 =>
    rw [sg1_f (by decide)]
    unfold restX
    simp only [o 63 (by decide)]
  | 5 =>
    rw [sg1_f (by decide)]
    unfold restX
    simp only [o 64 (by decide)]
  | 6 =>
    by_cases hj : j = k
    · rw [hj, sg1_at]
      show (if k < 4 then (jset w 65 k v).1 65 k else 0) = v
      rw [if_pos hk, jset_1, if_pos rfl, if_pos rfl]
    · rw [sg1_k hj]
      show (if j < 4 then (jset w 65 k v).1 65 j else 0) = (if j < 4 then w.1 65 j else 0)
      rw [jset_1, if_pos rfl, if_neg hj]
  | 7 =>
    rw [sg1_f (by decide)]
    unfold restX
    simp only [o 66 (by decide)]
  | 8 =>
    rw [sg1_f (by decide)]
    unfold restX
    simp only [o 57 (by decide), o 58 (by decide)]
  | 9 =>
    rw [sg1_f (by decide)]
    unfold restX
    simp only [o 57 (by decide)]
  | n + 10 => exact (show restX _ (n + 10) j = 0 from rfl).trans ((sg1_f (by omega)).trans (show restX _ (n + 10) j = 0 from rfl)).symm
theorem rx_66 {w : jWd} {k : Nat} {v : Int32} (hk : k < 4) : restX (jset w 66 k v) = sg1 (restX w) 7 k v := by
  have o : ∀ a, a ≠ 66 → (jset w 66 k v).1 a = w.1 a := fun a h => jset_off h
  funext f j
  match f with
  | 0 =>
    rw [sg1_f (by decide)]
    unfold restX
    simp only [o 67 (by decide)]
  | 1 =>
    rw [sg1_f (by decide)]
    unfold restX
    simp only [o 0 (by decide)]
  | 2 =>
    rw [sg1_f (by decide)]
    unfold restX
    simp only [o 61 (by decide)]
  | 3 =>
    rw [sg1_f (by decide)]
    unfold restX
    simp only [o 62 (by decide)]
  | 4 =>
    rw [sg1_f (by decide)]
    unfold restX
    simp only [o 63 (by decide)]
  | 5 =>
    rw [sg1_f (by decide)]
    unfold restX
    simp only [o 64 (by decide)]
  | 6 =>
    rw [sg1_f (by decide)]
    unfold restX
    simp only [o 65 (by decide)]
  | 7 =>
    by_cases hj : j = k
    · rw [hj, sg1_at]
      show (if k < 4 then (jset w 66 k v).1 66 k else 0) = v
      rw [if_pos hk, jset_1, if_pos rfl, if_pos rfl]
    · rw [sg1_k hj]
      show (if j < 4 then (jset w 66 k v).1 66 j else 0) = (if j < 4 then w.1 66 j else 0)
      rw [jset_1, if_pos rfl, if_neg hj]
  | 8 =>
    rw [sg1_f (by decide)]
    unfold restX
    simp only [o 57 (by decide), o 58 (by decide)]
  | 9 =>
    rw [sg1_f (by decide)]
    unfold restX
    simp only [o 57 (by decide)]
  | n + 10 => exact (show restX _ (n + 10) j = 0 from rfl).trans ((sg1_f (by omega)).trans (show restX _ (n + 10) j = 0 from rfl)).symm
theorem rx_row {w : jWd} {s k : Nat} {v : Int32} (hs : s < 4) (hk : k < 24) : restX (jset w (61 + s) k v) = sg1 (restX w) (2 + s) k v := by
  obtain rfl | rfl | rfl | rfl : s = 0 ∨ s = 1 ∨ s = 2 ∨ s = 3 := by omega
  · exact rx_61 hk
  · exact rx_62 hk
  · exact rx_63 hk
  · exact rx_64 hk
theorem ly61 {s : Nat} (h : s < 4) : jly (61 + s) = (0, 24, []) := by
  obtain rfl | rfl | rfl | rfl : s = 0 ∨ s = 1 ∨ s = 2 ∨ s = 3 := by omega
  all_goals decide +kernel
theorem l8461 {s : Nat} (h : s < 4) : 61 + s < 84 := by omega
theorem row61 {s : Nat} (h : s < 4) : ([(2, 61), (2, 62), (2, 63), (2, 64)] : List (Nat × Nat))[s]? = some (2, 61 + s) := by
  obtain rfl | rfl | rfl | rfl : s = 0 ∨ s = 1 ∨ s = 2 ∨ s = 3 := by omega
  all_goals rfl
/-- a sheet's frame: nothing but cells 61 to 66 -/
def frS (w w2 : jWd) : Prop := (∀ a, (a < 61 ∨ 66 < a) → w2.1 a = w.1 a) ∧ w2.2 = w.2
theorem frS.rf (w : jWd) : frS w w := ⟨fun _ _ => rfl, rfl⟩
theorem frS.set {w w2 : jWd} (h : frS w w2) {a k : Nat} {v : Int32} (h1 : 61 ≤ a) (h2 : a ≤ 66) : frS w (jset w2 a k v) := ⟨fun x hx => by rw [jset_off (by omega)]; exact h.1 x hx, h.2⟩
theorem bq_sh {w w2 : jWd} {r : sg} (hX : XInv w) (hf : frS w w2) (hr : restX w2 = r) : BQ w w2 (abX w 1, abX w 16, r) :=
  ⟨abX_congr (fun a q1 q2 => hf.1 a (by omega)), abX_congr (fun a q1 q2 => hf.1 a (by omega)), hr, ⟨xB_congr (fun a q1 q2 => hf.1 a (by omega)) hX.1, xB_congr (fun a q1 q2 => hf.1 a (by omega)) hX.2.1, xB_congr (fun a q1 q2 => hf.1 a (by omega)) hX.2.2⟩, fun a q => ⟨hf.1 a (by omega), by rw [hf.2]⟩⟩
def sLay (r : sg) (s : Nat) (b len : Int32) : Nat → sg
  | 0 => sg1 (sg1 r 6 s b) 7 s len
  | i + 1 => sg1 (sLay r s b len i) (2 + s) i 0
theorem rx_6 {w : jWd} {s : Nat} (hs : s < 4) : w.1 65 s = restX w 6 s := (if_pos hs).symm
theorem rx_7 {w : jWd} {s : Nat} (hs : s < 4) : w.1 66 s = restX w 7 s := (if_pos hs).symm
theorem rx_2 {w : jWd} {s k : Nat} (hs : s < 4) (hk : k < 24) : w.1 (61 + s) k = restX w (2 + s) k := by
  obtain rfl | rfl | rfl | rfl : s = 0 ∨ s = 1 ∨ s = 2 ∨ s = 3 := by omega
  all_goals exact (if_pos hk).symm
set_option maxHeartbeats 4000000 in
set_option maxRecDepth 100000 in
theorem k_X3_isMissing {G : jG} {w : jWd} {s : Nat} (hs4 : s < 4) : jKd G 0 yX3_isMissing cX3_isMissing 2 (some .boolean) [.ref 59, .int (nI s)] w (some (.int (jb (restX w 6 s = 0)))) w := by
  refine jK_of (own := RX3) [some (.ref 59), some (.int (nI s))] pn3 rfl (Nat.le_of_ble_eq_true rfl) rfl ?_
  refine J_aload_n (pc' := 1) dX3_isMissing_0 rfl rfl ?_
  refine J_getR (pc' := 4) dX3_isMissing_1 fl_3_16 (ly_59) (l84_59) rfl rfl ?_
  refine J_iload_n (pc' := 5) dX3_isMissing_4 rfl rfl ?_
  refine J_iald s (pc' := 6) dX3_isMissing_5 (ly_65) (l84_65) rfl hs4 (by decide) rfl ?_
  rw [rx_6 hs4]
  refine J_if_ne 13 (pc' := 9) dX3_isMissing_6 (by decide) rfl (fun h_6 => ?_) (fun h_6 => ?_)
  · refine J_iconst (v := 0) (pc' := 14) dX3_isMissing_13 (by decide) rfl ?_
    exact J_zret dX3_isMissing_14 (Or.inl rfl) ⟨jv (jb_f h_6).symm, rfl⟩
  · refine J_iconst (v := 1) (pc' := 10) dX3_isMissing_9 (by decide) rfl ?_
    refine J_goto (pc' := 0) 14 dX3_isMissing_10 (by decide) ?_
    exact J_zret dX3_isMissing_14 (Or.inr rfl) ⟨jv (jb_t (by first | exact h_6 | exact Decidable.not_not.mp h_6)).symm, rfl⟩
set_option maxHeartbeats 4000000 in
set_option maxRecDepth 100000 in
theorem l_lay {G : jG} {w0 : jWd} {r : sg} {s : Nat} (hs4 : s < 4) {b len : Int32} : ∀ n i : Nat, i + n = 24 → ∀ w, restX w = sLay r s b len i → frS w0 w → J G (jM G 1 RX3 cX3_lay 5 none (fun r' w' => r' = none ∧ (restX w' = sLay r s b len 24 ∧ frS w0 w'))) w 17 [some (.ref 59), some (.int (nI s)), some (.int b), some (.int len), some (.int (nI i))] [] := by
  intro n
  induction n with
  | zero =>
    intro i hi w h1 h2
    have ei : i = 24 := by omega
    subst ei
    refine J_iload (pc' := 19) dX3_lay_17 rfl rfl ?_
    refine J_bipush (v := 24) (pc' := 21) dX3_lay_19 (by decide) rfl ?_
    refine J_icmp_ge 40 (pc' := 24) dX3_lay_21 (by decide) rfl (fun h_21 => ?_) (fun h_21 => absurd (by rw [show (24 : Int32) = nI 24 from by decide]; exact nI_le (by omega) (by omega)) h_21)
    exact J_vret dX3_lay_40  ⟨rfl, h1, h2⟩
  | succ n ih =>
    intro i hi w h1 h2
    have h24 : i < 24 := by omega
    refine J_iload (pc' := 19) dX3_lay_17 rfl rfl ?_
    refine J_bipush (v := 24) (pc' := 21) dX3_lay_19 (by decide) rfl ?_
    refine J_icmp_ge 40 (pc' := 24) dX3_lay_21 (by decide) rfl (fun h_21 => absurd h_21 (by rw [show (24 : Int32) = nI 24 from by decide]; exact nI_ge (by omega) (by omega))) (fun h_21 => ?_)
    refine J_aload_n (pc' := 25) dX3_lay_24 rfl rfl ?_
    refine J_getR (pc' := 28) dX3_lay_25 fl_3_11 (ly_59) (l84_59) rfl rfl ?_
    refine J_iload_n (pc' := 29) dX3_lay_28 rfl rfl ?_
    refine J_aald s (pc' := 30) dX3_lay_29 (ly_60) (Or.inr (Or.inl rfl)) (l84_60) rfl (row61 hs4) (by omega) (by decide) rfl ?_
    refine J_iload (pc' := 32) dX3_lay_30 rfl rfl ?_
    refine J_iconst (v := 0) (pc' := 33) dX3_lay_32 (by decide) rfl ?_
    refine J_iast i (pc' := 34) dX3_lay_33 (ly61 hs4) (l8461 hs4) rfl h24 (by decide) rfl ?_
    refine J_iinc (pc' := 37) dX3_lay_34 rfl (Nat.le_of_ble_eq_true rfl) (jst4 rfl rfl) rfl ?_
    refine J_goto (pc' := 0) 17 dX3_lay_37 (by decide) ?_
    have h4 := ih (i + 1) (by omega) (jset w (61 + s) i 0) (by rw [rx_row hs4 h24, h1]; rfl) (h2.set (by omega) (by omega))
    rw [← z1 i] at h4
    exact h4
set_option maxHeartbeats 4000000 in
set_option maxRecDepth 100000 in
theorem k_X3_lay {G : jG} {w : jWd} {s : Nat} (hs4 : s < 4) {b len : Int32} : jKp G 1 yX3_lay cX3_lay 5 none [.ref 59, .int (nI s), .int b, .int len] w none (fun w' => restX w' = sLay (restX w) s b len 24 ∧ frS w w') := by
  refine jK_of (own := RX3) [some (.ref 59), some (.int (nI s)), some (.int b), some (.int len), none] pn3 rfl (Nat.le_of_ble_eq_true rfl) rfl ?_
  refine J_aload_n (pc' := 1) dX3_lay_0 rfl rfl ?_
  refine J_getR (pc' := 4) dX3_lay_1 fl_3_16 (ly_59) (l84_59) rfl rfl ?_
  refine J_iload_n (pc' := 5) dX3_lay_4 rfl rfl ?_
  refine J_iload_n (pc' := 6) dX3_lay_5 rfl rfl ?_
  refine J_iast s (pc' := 7) dX3_lay_6 (ly_65) (l84_65) rfl hs4 (by decide) rfl ?_
  refine J_aload_n (pc' := 8) dX3_lay_7 rfl rfl ?_
  refine J_getR (pc' := 11) dX3_lay_8 fl_3_20 (ly_59) (l84_59) rfl rfl ?_
  refine J_iload_n (pc' := 12) dX3_lay_11 rfl rfl ?_
  refine J_iload_n (pc' := 13) dX3_lay_12 rfl rfl ?_
  refine J_iast s (pc' := 14) dX3_lay_13 (ly_66) (l84_66) rfl hs4 (by decide) rfl ?_
  refine J_iconst (v := 0) (pc' := 15) dX3_lay_14 (by decide) rfl ?_
  refine J_istore (pc' := 17) dX3_lay_15 (Nat.le_of_ble_eq_true rfl) (jst4 rfl rfl) rfl ?_
  exact l_lay (w0 := w) hs4 24 0 (by omega) _ (by rw [rx_66 hs4, rx_65 hs4]; rfl) (((frS.rf w).set (by omega) (by omega)).set (by omega) (by omega))
def sNar (b v : Int32) : Int32 := if b = 8 then v.toInt8.toInt32 else if b = 16 then v.toInt16.toInt32 else v
set_option maxHeartbeats 4000000 in
set_option maxRecDepth 100000 in
theorem k_X3_write {G : jG} {w : jWd} {s p : Nat} (hs4 : s < 4) (hp : p < 24) {v : Int32} : jKp G 0 yX3_write cX3_write 4 none [.ref 59, .int (nI s), .int (nI p), .int v] w none (fun w' => restX w' = sg1 (restX w) (2 + s) p (sNar (restX w 6 s) v) ∧ frS w w') := by
  refine jK_of (own := RX3) [some (.ref 59), some (.int (nI s)), some (.int (nI p)), some (.int v)] pn3 rfl (Nat.le_of_ble_eq_true rfl) rfl ?_
  refine J_aload_n (pc' := 1) dX3_write_0 rfl rfl ?_
  refine J_getR (pc' := 4) dX3_write_1 fl_3_11 (ly_59) (l84_59) rfl rfl ?_
  refine J_iload_n (pc' := 5) dX3_write_4 rfl rfl ?_
  refine J_aald s (pc' := 6) dX3_write_5 (ly_60) (Or.inr (Or.inl rfl)) (l84_60) rfl (row61 hs4) (by omega) (by decide) rfl ?_
  refine J_iload_n (pc' := 7) dX3_write_6 rfl rfl ?_
  refine J_aload_n (pc' := 8) dX3_write_7 rfl rfl ?_
  refine J_getR (pc' := 11) dX3_write_8 fl_3_16 (ly_59) (l84_59) rfl rfl ?_
  refine J_iload_n (pc' := 12) dX3_write_11 rfl rfl ?_
  refine J_iald s (pc' := 13) dX3_write_12 (ly_65) (l84_65) rfl hs4 (by decide) rfl ?_
  rw [rx_6 hs4]
  refine J_bipush (v := 8) (pc' := 15) dX3_write_13 (by decide) rfl ?_
  refine J_icmp_ne 23 (pc' := 18) dX3_write_15 (by decide) rfl (fun h_15 => ?_) (fun h_15 => ?_)
  · refine J_aload_n (pc' := 24) dX3_write_23 rfl rfl ?_
    refine J_getR (pc' := 27) dX3_write_24 fl_3_16 (ly_59) (l84_59) rfl rfl ?_
    refine J_iload_n (pc' := 28) dX3_write_27 rfl rfl ?_
    refine J_iald s (pc' := 29) dX3_write_28 (ly_65) (l84_65) rfl hs4 (by decide) rfl ?_
    rw [rx_6 hs4]
    refine J_bipush (v := 16) (pc' := 31) dX3_write_29 (by decide) rfl ?_
    refine J_icmp_ne 39 (pc' := 34) dX3_write_31 (by decide) rfl (fun h_31 => ?_) (fun h_31 => ?_)
    · refine J_iload_n (pc' := 40) dX3_write_39 rfl rfl ?_
      refine J_iast p (pc' := 41) dX3_write_40 (ly61 hs4) (l8461 hs4) rfl hp (by decide) rfl ?_
      first | exact J_vret dX3_write_41  ⟨rfl, by rw [rx_row hs4 hp, sNar, if_pos h_15], (frS.rf w).set (by omega) (by omega)⟩ | exact J_vret dX3_write_41  ⟨rfl, by rw [rx_row hs4 hp, sNar, if_neg h_15, if_pos h_31], (frS.rf w).set (by omega) (by omega)⟩ | exact J_vret dX3_write_41  ⟨rfl, by rw [rx_row hs4 hp, sNar, if_neg h_15, if_neg h_31], (frS.rf w).set (by omega) (by omega)⟩
    · refine J_iload_n (pc' := 35) dX3_write_34 rfl rfl ?_
      refine J_i2s (pc' := 36) dX3_write_35 rfl ?_
      refine J_goto (pc' := 0) 40 dX3_write_36 (by decide) ?_
      refine J_iast p (pc' := 41) dX3_write_40 (ly61 hs4) (l8461 hs4) rfl hp (by decide) rfl ?_
      first | exact J_vret dX3_write_41  ⟨rfl, by rw [rx_row hs4 hp, sNar, if_pos h_15], (frS.rf w).set (by omega) (by omega)⟩ | exact J_vret dX3_write_41  ⟨rfl, by rw [rx_row hs4 hp, sNar, if_neg h_15, if_pos h_31], (frS.rf w).set (by omega) (by omega)⟩ | exact J_vret dX3_write_41  ⟨rfl, by rw [rx_row hs4 hp, sNar, if_neg h_15, if_neg h_31], (frS.rf w).set (by omega) (by omega)⟩
  · refine J_iload_n (pc' := 19) dX3_write_18 rfl rfl ?_
    refine J_i2b (pc' := 20) dX3_write_19 rfl ?_
    refine J_goto (pc' := 0) 40 dX3_write_20 (by decide) ?_
    refine J_iast p (pc' := 41) dX3_write_40 (ly61 hs4) (l8461 hs4) rfl hp (by decide) rfl ?_
    first | exact J_vret dX3_write_41  ⟨rfl, by rw [rx_row hs4 hp, sNar, if_pos h_15], (frS.rf w).set (by omega) (by omega)⟩ | exact J_vret dX3_write_41  ⟨rfl, by rw [rx_row hs4 hp, sNar, if_neg h_15, if_pos h_31], (frS.rf w).set (by omega) (by omega)⟩ | exact J_vret dX3_write_41  ⟨rfl, by rw [rx_row hs4 hp, sNar, if_neg h_15, if_neg h_31], (frS.rf w).set (by omega) (by omega)⟩
set_option maxHeartbeats 4000000 in
set_option maxRecDepth 100000 in
theorem k_X3_stand {G : jG} {w : jWd} {s : Nat} (hs4 : s < 4) {p n : Int32} : jKd G 0 yX3_stand cX3_stand 4 (some .boolean) [.ref 59, .int (nI s), .int p, .int n] w (some (.int (jb (0 ≤ p ∧ p ≤ restX w 7 s ∧ 0 ≤ n ∧ n ≤ restX w 7 s - p)))) w := by
  refine jK_of (own := RX3) [some (.ref 59), some (.int (nI s)), some (.int p), some (.int n)] pn3 rfl (Nat.le_of_ble_eq_true rfl) rfl ?_
  refine J_iload_n (pc' := 1) dX3_stand_0 rfl rfl ?_
  refine J_if_lt 34 (pc' := 4) dX3_stand_1 (by decide) rfl (fun h_1 => ?_) (fun h_1 => ?_)
  · refine J_iconst (v := 0) (pc' := 35) dX3_stand_34 (by decide) rfl ?_
    first | exact J_zret dX3_stand_35 (Or.inl rfl) ⟨jv (jb_t ⟨Int32.not_lt.mp h_1, Int32.not_lt.mp h_11, Int32.not_lt.mp h_15, Int32.not_lt.mp h_27⟩).symm, rfl⟩ | exact J_zret dX3_stand_35 (Or.inl rfl) ⟨jv (jb_f (fun q => by first | exact Int32.not_lt.mpr q.1 h_1 | exact Int32.not_lt.mpr q.2.1 h_11 | exact Int32.not_lt.mpr q.2.2.1 h_15 | exact Int32.not_lt.mpr q.2.2.2 h_27)).symm, rfl⟩
  · refine J_iload_n (pc' := 5) dX3_stand_4 rfl rfl ?_
    refine J_aload_n (pc' := 6) dX3_stand_5 rfl rfl ?_
    refine J_getR (pc' := 9) dX3_stand_6 fl_3_20 (ly_59) (l84_59) rfl rfl ?_
    refine J_iload_n (pc' := 10) dX3_stand_9 rfl rfl ?_
    refine J_iald s (pc' := 11) dX3_stand_10 (ly_66) (l84_66) rfl hs4 (by decide) rfl ?_
    rw [rx_7 hs4]
    refine J_icmp_gt 34 (pc' := 14) dX3_stand_11 (by decide) rfl (fun h_11 => ?_) (fun h_11 => ?_)
    · refine J_iconst (v := 0) (pc' := 35) dX3_stand_34 (by decide) rfl ?_
      first | exact J_zret dX3_stand_35 (Or.inl rfl) ⟨jv (jb_t ⟨Int32.not_lt.mp h_1, Int32.not_lt.mp h_11, Int32.not_lt.mp h_15, Int32.not_lt.mp h_27⟩).symm, rfl⟩ | exact J_zret dX3_stand_35 (Or.inl rfl) ⟨jv (jb_f (fun q => by first | exact Int32.not_lt.mpr q.1 h_1 | exact Int32.not_lt.mpr q.2.1 h_11 | exact Int32.not_lt.mpr q.2.2.1 h_15 | exact Int32.not_lt.mpr q.2.2.2 h_27)).symm, rfl⟩
    · refine J_iload_n (pc' := 15) dX3_stand_14 rfl rfl ?_
      refine J_if_lt 34 (pc' := 18) dX3_stand_15 (by decide) rfl (fun h_15 => ?_) (fun h_15 => ?_)
      · refine J_iconst (v := 0) (pc' := 35) dX3_stand_34 (by decide) rfl ?_
        first | exact J_zret dX3_stand_35 (Or.inl rfl) ⟨jv (jb_t ⟨Int32.not_lt.mp h_1, Int32.not_lt.mp h_11, Int32.not_lt.mp h_15, Int32.not_lt.mp h_27⟩).symm, rfl⟩ | exact J_zret dX3_stand_35 (Or.inl rfl) ⟨jv (jb_f (fun q => by first | exact Int32.not_lt.mpr q.1 h_1 | exact Int32.not_lt.mpr q.2.1 h_11 | exact Int32.not_lt.mpr q.2.2.1 h_15 | exact Int32.not_lt.mpr q.2.2.2 h_27)).symm, rfl⟩
      · refine J_iload_n (pc' := 19) dX3_stand_18 rfl rfl ?_
        refine J_aload_n (pc' := 20) dX3_stand_19 rfl rfl ?_
        refine J_getR (pc' := 23) dX3_stand_20 fl_3_20 (ly_59) (l84_59) rfl rfl ?_
        refine J_iload_n (pc' := 24) dX3_stand_23 rfl rfl ?_
        refine J_iald s (pc' := 25) dX3_stand_24 (ly_66) (l84_66) rfl hs4 (by decide) rfl ?_
        rw [rx_7 hs4]
        refine J_iload_n (pc' := 26) dX3_stand_25 rfl rfl ?_
        refine J_isub (pc' := 27) dX3_stand_26 rfl ?_
        refine J_icmp_gt 34 (pc' := 30) dX3_stand_27 (by decide) rfl (fun h_27 => ?_) (fun h_27 => ?_)
        · refine J_iconst (v := 0) (pc' := 35) dX3_stand_34 (by decide) rfl ?_
          first | exact J_zret dX3_stand_35 (Or.inl rfl) ⟨jv (jb_t ⟨Int32.not_lt.mp h_1, Int32.not_lt.mp h_11, Int32.not_lt.mp h_15, Int32.not_lt.mp h_27⟩).symm, rfl⟩ | exact J_zret dX3_stand_35 (Or.inl rfl) ⟨jv (jb_f (fun q => by first | exact Int32.not_lt.mpr q.1 h_1 | exact Int32.not_lt.mpr q.2.1 h_11 | exact Int32.not_lt.mpr q.2.2.1 h_15 | exact Int32.not_lt.mpr q.2.2.2 h_27)).symm, rfl⟩
        · refine J_iconst (v := 1) (pc' := 31) dX3_stand_30 (by decide) rfl ?_
          refine J_goto (pc' := 0) 35 dX3_stand_31 (by decide) ?_
          first | exact J_zret dX3_stand_35 (Or.inr rfl) ⟨jv (jb_t ⟨Int32.not_lt.mp h_1, Int32.not_lt.mp h_11, Int32.not_lt.mp h_15, Int32.not_lt.mp h_27⟩).symm, rfl⟩ | exact J_zret dX3_stand_35 (Or.inr rfl) ⟨jv (jb_f (fun q => by first | exact Int32.not_lt.mpr q.1 h_1 | exact Int32.not_lt.mpr q.2.1 h_11 | exact Int32.not_lt.mpr q.2.2.1 h_15 | exact Int32.not_lt.mpr q.2.2.2 h_27)).symm, rfl⟩
