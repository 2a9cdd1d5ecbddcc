/-! ===== places: the rows are solved ===== -/
theorem ly50 {i : Nat} (h : i < 4) : jly (50 + i) = (1, 5, []) := by
  obtain rfl | rfl | rfl | rfl : i = 0 ∨ i = 1 ∨ i = 2 ∨ i = 3 := by omega
  all_goals decide +kernel
theorem l8450 {i : Nat} (h : i < 4) : 50 + i < 84 := by omega
theorem row50 {i : Nat} (h : i < 4) : ([(2, 50), (2, 51), (2, 52), (2, 53)] : List (Nat × Nat))[i]? = some (2, 50 + i) := by
  obtain rfl | rfl | rfl | rfl : i = 0 ∨ i = 1 ∨ i = 2 ∨ i = 3 := by omega
  all_goals rfl
/-! the long cells as they are worked on -/
def lset (M : Nat → Nat → Int64) (a k : Nat) (v : Int64) : Nat → Nat → Int64 := fun a' => if a' = a then vp_updL (M a) k v else M a'
theorem lset_eq (M : Nat → Nat → Int64) (a k : Nat) (v : Int64) (a' k' : Nat) : lset M a k v a' k' = if a' = a ∧ k' = k then v else M a' k' := by
  unfold lset
  by_cases h : a' = a
  · subst h
    rw [if_pos rfl]
    unfold vp_updL
    by_cases h2 : k' = k
    · rw [if_pos h2, if_pos ⟨rfl, h2⟩]
    · rw [if_neg h2, if_neg (fun q => h2 q.2)]
  · rw [if_neg h, if_neg (fun q => h q.1)]
def sEnt (M : Nat → Nat → Int64) (fr : Int32) (t : Nat) (W S : Int32) : Nat → Nat → Int64 :=
  let M1 := lset M (50 + t) t (M (50 + t) t + W.toInt64)
  let M2 := lset M1 (50 + t) 4 (M1 (50 + t) 4 + (W * S).toInt64)
  if fr < 0 then M2 else
    let f := nn fr
    let M3 := lset M2 (50 + f) f (M2 (50 + f) f + W.toInt64)
    let M4 := lset M3 (50 + f) t (M3 (50 + f) t - W.toInt64)
    let M5 := lset M4 (50 + t) f (M4 (50 + t) f - W.toInt64)
    lset M5 (50 + f) 4 (M5 (50 + f) 4 - (W * S).toInt64)
def sClr (M : Nat → Nat → Int64) (i k : Nat) (ah : Int64) (n : Nat) : Nat → Nat → Int64 := fun a' => if a' = 50 + i then (fun j => if j < n then sQuo (M (50 + i) j * M (50 + k) k - M (50 + i) k * M (50 + k) j) ah else M (50 + i) j) else M a'
def sStI (M : Nat → Nat → Int64) (k : Nat) (ah : Int64) : Nat → Nat → Nat → Int64
  | 0 => M
  | i + 1 => if i = k then sStI M k ah i else sClr (sStI M k ah i) i k ah 5
def sSo (M : Nat → Nat → Int64) (n : Nat) : Nat → (Nat → Nat → Int64) × Int64
  | 0 => (M, 1)
  | k + 1 => (sStI (sSo M n k).1 k (sSo M n k).2 n, (sSo M n k).1 (50 + k) k)
def sAbN (M : Nat → Nat → Int64) (n : Nat) : Nat → Nat → Int64 := fun a' => if a' = 54 then (fun i => if i < n then M (50 + i) 4 else M 54 i) else M a'
def sSol (M : Nat → Nat → Int64) (n : Nat) : Nat → Nat → Int64 := sAbN (lset (sSo M n n).1 48 4 (sSo M n n).2) n
theorem sClr_0 (M : Nat → Nat → Int64) (i k : Nat) (ah : Int64) : sClr M i k ah 0 = M := by
  funext a' j
  unfold sClr
  by_cases h : a' = 50 + i
  · subst h; simp
  · rw [if_neg h]
theorem sClr_s {M : Nat → Nat → Int64} {i k : Nat} {ah : Int64} {n : Nat} : lset (sClr M i k ah n) (50 + i) n (sQuo (M (50 + i) n * M (50 + k) k - M (50 + i) k * M (50 + k) n) ah) = sClr M i k ah (n + 1) := by
  funext a' j
  rw [lset_eq]
  unfold sClr
  by_cases h : a' = 50 + i
  · subst h
    rw [if_pos rfl, if_pos rfl]
    by_cases h2 : j = n
    · subst h2; rw [if_pos ⟨rfl, rfl⟩, if_pos (by omega)]
    · rw [if_neg (fun q => h2 q.2)]
      by_cases h3 : j < n
      · rw [if_pos h3, if_pos (by omega)]
      · rw [if_neg h3, if_neg (by omega)]
  · rw [if_neg (fun q => h q.1), if_neg h, if_neg h]
theorem sAbN_0 (M : Nat → Nat → Int64) : sAbN M 0 = M := by
  funext a' j
  unfold sAbN
  by_cases h : a' = 54
  · subst h; simp
  · rw [if_neg h]
theorem sAbN_s {M : Nat → Nat → Int64} {n : Nat} : lset (sAbN M n) 54 n (M (50 + n) 4) = sAbN M (n + 1) := by
  funext a' j
  rw [lset_eq]
  unfold sAbN
  by_cases h : a' = 54
  · subst h
    rw [if_pos rfl, if_pos rfl]
    by_cases h2 : j = n
    · subst h2; rw [if_pos ⟨rfl, rfl⟩, if_pos (by omega)]
    · rw [if_neg (fun q => h2 q.2)]
      by_cases h3 : j < n
      · rw [if_pos h3, if_pos (by omega)]
      · rw [if_neg h3, if_neg (by omega)]
  · rw [if_neg (fun q => h q.1), if_neg h, if_neg h]
set_option maxHeartbeats 4000000 in
set_option maxRecDepth 100000 in
theorem k_X1_enter {G : jG} {w : jWd} {fr W S : Int32} {t : Nat} (ht4 : t < 4) (hfr : fr < 0 ∨ ∃ f, f < 4 ∧ fr = nI f) : jKd G 0 yX1_enter cX1_enter 5 none [.ref 48, .int fr, .int (nI t), .int W, .int S] w none (w.1, sEnt w.2 fr t W S) := by
  refine jK_of (own := RX1) [some (.ref 48), some (.int fr), some (.int (nI t)), some (.int W), some (.int S)] pn1 rfl (Nat.le_of_ble_eq_true rfl) rfl ?_
  refine J_aload_n (pc' := 1) dX1_enter_0 rfl rfl ?_
  refine J_getR (pc' := 4) dX1_enter_1 fl_1_11 (ly_48) (l84_48) rfl rfl ?_
  refine J_iload_n (pc' := 5) dX1_enter_4 rfl rfl ?_
  refine J_aald t (pc' := 6) dX1_enter_5 (ly_49) (Or.inl rfl) (l84_49) rfl (row50 ht4) (by omega) (by decide) rfl ?_
  refine J_iload_n (pc' := 7) dX1_enter_6 rfl rfl ?_
  refine J_dup2 (pc' := 8) dX1_enter_7 rfl rfl rfl ?_
  refine J_lald t (pc' := 9) dX1_enter_8 (ly50 ht4) (l8450 ht4) rfl (by omega) (by decide) rfl ?_
  refine J_iload_n (pc' := 10) dX1_enter_9 rfl rfl ?_
  refine J_i2l (pc' := 11) dX1_enter_10 rfl ?_
  refine J_ladd (pc' := 12) dX1_enter_11 rfl ?_
  refine J_last t (pc' := 13) dX1_enter_12 (ly50 ht4) (l8450 ht4) rfl (by omega) (by decide) rfl ?_
  refine J_aload_n (pc' := 14) dX1_enter_13 rfl rfl ?_
  refine J_getR (pc' := 17) dX1_enter_14 fl_1_11 (ly_48) (l84_48) rfl rfl ?_
  refine J_iload_n (pc' := 18) dX1_enter_17 rfl rfl ?_
  refine J_aald t (pc' := 19) dX1_enter_18 (ly_49) (Or.inl rfl) (l84_49) rfl (row50 ht4) (by omega) (by decide) rfl ?_
  refine J_iconst (v := 4) (pc' := 20) dX1_enter_19 (by decide) rfl ?_
  refine J_dup2 (pc' := 21) dX1_enter_20 rfl rfl rfl ?_
  refine J_lald 4 (pc' := 22) dX1_enter_21 (ly50 ht4) (l8450 ht4) nIc_4 (by decide) (by decide) rfl ?_
  refine J_iload_n (pc' := 23) dX1_enter_22 rfl rfl ?_
  refine J_iload (pc' := 25) dX1_enter_23 rfl rfl ?_
  refine J_imul (pc' := 26) dX1_enter_25 rfl ?_
  refine J_i2l (pc' := 27) dX1_enter_26 rfl ?_
  refine J_ladd (pc' := 28) dX1_enter_27 rfl ?_
  refine J_last 4 (pc' := 29) dX1_enter_28 (ly50 ht4) (l8450 ht4) nIc_4 (by decide) (by decide) rfl ?_
  refine J_iload_n (pc' := 30) dX1_enter_29 rfl rfl ?_
  refine J_if_lt 88 (pc' := 33) dX1_enter_30 (by decide) rfl (fun h_30 => ?_) (fun h_30 => ?_)
  · first | exact J_vret dX1_enter_88  ⟨rfl, by unfold sEnt; rw [if_pos h_30]; rfl⟩ | exact J_vret dX1_enter_88  ⟨rfl, by unfold sEnt; rw [if_neg h_30, nn_nI (by omega)]; rfl⟩
  · obtain ⟨f, hf4, rfl⟩ := hfr.resolve_left h_30
    refine J_aload_n (pc' := 34) dX1_enter_33 rfl rfl ?_
    refine J_getR (pc' := 37) dX1_enter_34 fl_1_11 (ly_48) (l84_48) rfl rfl ?_
    refine J_iload_n (pc' := 38) dX1_enter_37 rfl rfl ?_
    refine J_aald f (pc' := 39) dX1_enter_38 (ly_49) (Or.inl rfl) (l84_49) rfl (row50 hf4) (by omega) (by decide) rfl ?_
    refine J_iload_n (pc' := 40) dX1_enter_39 rfl rfl ?_
    refine J_dup2 (pc' := 41) dX1_enter_40 rfl rfl rfl ?_
    refine J_lald f (pc' := 42) dX1_enter_41 (ly50 hf4) (l8450 hf4) rfl (by omega) (by decide) rfl ?_
    refine J_iload_n (pc' := 43) dX1_enter_42 rfl rfl ?_
    refine J_i2l (pc' := 44) dX1_enter_43 rfl ?_
    refine J_ladd (pc' := 45) dX1_enter_44 rfl ?_
    refine J_last f (pc' := 46) dX1_enter_45 (ly50 hf4) (l8450 hf4) rfl (by omega) (by decide) rfl ?_
    refine J_aload_n (pc' := 47) dX1_enter_46 rfl rfl ?_
    refine J_getR (pc' := 50) dX1_enter_47 fl_1_11 (ly_48) (l84_48) rfl rfl ?_
    refine J_iload_n (pc' := 51) dX1_enter_50 rfl rfl ?_
    refine J_aald f (pc' := 52) dX1_enter_51 (ly_49) (Or.inl rfl) (l84_49) rfl (row50 hf4) (by omega) (by decide) rfl ?_
    refine J_iload_n (pc' := 53) dX1_enter_52 rfl rfl ?_
    refine J_dup2 (pc' := 54) dX1_enter_53 rfl rfl rfl ?_
    refine J_lald t (pc' := 55) dX1_enter_54 (ly50 hf4) (l8450 hf4) rfl (by omega) (by decide) rfl ?_
    refine J_iload_n (pc' := 56) dX1_enter_55 rfl rfl ?_
    refine J_i2l (pc' := 57) dX1_enter_56 rfl ?_
    refine J_lsub (pc' := 58) dX1_enter_57 rfl ?_
    refine J_last t (pc' := 59) dX1_enter_58 (ly50 hf4) (l8450 hf4) rfl (by omega) (by decide) rfl ?_
    refine J_aload_n (pc' := 60) dX1_enter_59 rfl rfl ?_
    refine J_getR (pc' := 63) dX1_enter_60 fl_1_11 (ly_48) (l84_48) rfl rfl ?_
    refine J_iload_n (pc' := 64) dX1_enter_63 rfl rfl ?_
    refine J_aald t (pc' := 65) dX1_enter_64 (ly_49) (Or.inl rfl) (l84_49) rfl (row50 ht4) (by omega) (by decide) rfl ?_
    refine J_iload_n (pc' := 66) dX1_enter_65 rfl rfl ?_
    refine J_dup2 (pc' := 67) dX1_enter_66 rfl rfl rfl ?_
    refine J_lald f (pc' := 68) dX1_enter_67 (ly50 ht4) (l8450 ht4) rfl (by omega) (by decide) rfl ?_
    refine J_iload_n (pc' := 69) dX1_enter_68 rfl rfl ?_
    refine J_i2l (pc' := 70) dX1_enter_69 rfl ?_
    refine J_lsub (pc' := 71) dX1_enter_70 rfl ?_
    refine J_last f (pc' := 72) dX1_enter_71 (ly50 ht4) (l8450 ht4) rfl (by omega) (by decide) rfl ?_
    refine J_aload_n (pc' := 73) dX1_enter_72 rfl rfl ?_
    refine J_getR (pc' := 76) dX1_enter_73 fl_1_11 (ly_48) (l84_48) rfl rfl ?_
    refine J_iload_n (pc' := 77) dX1_enter_76 rfl rfl ?_
    refine J_aald f (pc' := 78) dX1_enter_77 (ly_49) (Or.inl rfl) (l84_49) rfl (row50 hf4) (by omega) (by decide) rfl ?_
    refine J_iconst (v := 4) (pc' := 79) dX1_enter_78 (by decide) rfl ?_
    refine J_dup2 (pc' := 80) dX1_enter_79 rfl rfl rfl ?_
    refine J_lald 4 (pc' := 81) dX1_enter_80 (ly50 hf4) (l8450 hf4) nIc_4 (by decide) (by decide) rfl ?_
    refine J_iload_n (pc' := 82) dX1_enter_81 rfl rfl ?_
    refine J_iload (pc' := 84) dX1_enter_82 rfl rfl ?_
    refine J_imul (pc' := 85) dX1_enter_84 rfl ?_
    refine J_i2l (pc' := 86) dX1_enter_85 rfl ?_
    refine J_lsub (pc' := 87) dX1_enter_86 rfl ?_
    refine J_last 4 (pc' := 88) dX1_enter_87 (ly50 hf4) (l8450 hf4) nIc_4 (by decide) (by decide) rfl ?_
    first | exact J_vret dX1_enter_88  ⟨rfl, by unfold sEnt; rw [if_pos h_30]; rfl⟩ | exact J_vret dX1_enter_88  ⟨rfl, by unfold sEnt; rw [if_neg h_30, nn_nI (by omega)]; rfl⟩
set_option maxHeartbeats 4000000 in
set_option maxRecDepth 100000 in
theorem l_clr {G : jG} {w : jWd} {i k : Nat} (hi4 : i < 4) (hk4 : k < 4) (hik : i ≠ k) {ah : Int64} : ∀ n j : Nat, j + n = 5 → J G (jM G 1 RX1 cX1_clearColumn 10 none (fun r' w' => r' = none ∧ w' = (w.1, sClr w.2 i k ah 5))) (w.1, sClr w.2 i k ah j) 13 [some (.ref (50 + i)), some (.ref (50 + k)), some (.int (nI k)), some (.long ah), none, some (.long (w.2 (50 + k) k)), none, some (.long (w.2 (50 + i) k)), none, some (.int (nI j))] [] := by
  intro n
  induction n with
  | zero =>
    intro j hj
    refine J_iload (pc' := 15) dX1_clearColumn_13 rfl rfl ?_
    refine J_iconst (v := 4) (pc' := 16) dX1_clearColumn_15 (by decide) rfl ?_
    refine J_icmp_gt 48 (pc' := 19) dX1_clearColumn_16 (by decide) rfl (fun h_16 => ?_) (fun h_16 => absurd (by rw [nIc_4]; exact nI_lt (by omega) (by omega)) h_16)
    have ej : j = 5 := by omega
    subst ej
    exact J_vret dX1_clearColumn_48  ⟨rfl, rfl⟩
  | succ n ih =>
    intro j hj
    have e1 : (sClr w.2 i k ah j) (50 + i) j = w.2 (50 + i) j := by unfold sClr; rw [if_pos rfl]; show (if j < j then _ else _) = _; rw [if_neg (Nat.lt_irrefl j)]
    have e2 : (sClr w.2 i k ah j) (50 + k) j = w.2 (50 + k) j := by unfold sClr; rw [if_neg (by omega)]
    refine J_iload (pc' := 15) dX1_clearColumn_13 rfl rfl ?_
    refine J_iconst (v := 4) (pc' := 16) dX1_clearColumn_15 (by decide) rfl ?_
    refine J_icmp_gt 48 (pc' := 19) dX1_clearColumn_16 (by decide) rfl (fun h_16 => absurd h_16 (by rw [nIc_4]; exact nI_nlt (by omega) (by omega))) (fun h_16 => ?_)
    refine J_aload_n (pc' := 20) dX1_clearColumn_19 rfl rfl ?_
    refine J_iload (pc' := 22) dX1_clearColumn_20 rfl rfl ?_
    refine J_aload_n (pc' := 23) dX1_clearColumn_22 rfl rfl ?_
    refine J_iload (pc' := 25) dX1_clearColumn_23 rfl rfl ?_
    refine J_lald j (pc' := 26) dX1_clearColumn_25 (ly50 hi4) (l8450 hi4) rfl (by omega) (by decide) rfl ?_
    rw [show (w.1, sClr w.2 i k ah j).2 (50 + i) j = w.2 (50 + i) j from e1]
    refine J_lload (pc' := 28) dX1_clearColumn_26 rfl rfl ?_
    refine J_lmul (pc' := 29) dX1_clearColumn_28 rfl ?_
    refine J_lload (pc' := 31) dX1_clearColumn_29 rfl rfl ?_
    refine J_aload_n (pc' := 32) dX1_clearColumn_31 rfl rfl ?_
    refine J_iload (pc' := 34) dX1_clearColumn_32 rfl rfl ?_
    refine J_lald j (pc' := 35) dX1_clearColumn_34 (ly50 hk4) (l8450 hk4) rfl (by omega) (by decide) rfl ?_
    rw [show (w.1, sClr w.2 i k ah j).2 (50 + k) j = w.2 (50 + k) j from e2]
    refine J_lmul (pc' := 36) dX1_clearColumn_35 rfl ?_
    refine J_lsub (pc' := 37) dX1_clearColumn_36 rfl ?_
    refine J_lload_n (pc' := 38) dX1_clearColumn_37 rfl rfl ?_
    refine J_S2v (pc' := 41) dX1_clearColumn_38 lk_1_75 cd_X6_quotient (k_X6_quotient) (jroom_of rfl) (Nat.le_of_ble_eq_true rfl) rfl ?_
    refine J_last j (pc' := 42) dX1_clearColumn_41 (ly50 hi4) (l8450 hi4) rfl (by omega) (by decide) rfl ?_
    refine J_iinc (pc' := 45) dX1_clearColumn_42 rfl (Nat.le_of_ble_eq_true rfl) (jst9 rfl rfl) rfl ?_
    refine J_goto (pc' := 0) 13 dX1_clearColumn_45 (by decide) ?_
    have h2 := ih (j + 1) (by omega)
    rw [← sClr_s (M := w.2) (i := i) (k := k) (ah := ah) (n := j), ← z1 j] at h2
    exact h2
set_option maxHeartbeats 4000000 in
set_option maxRecDepth 100000 in
theorem k_X1_clearColumn {G : jG} {w : jWd} {i k : Nat} (hi4 : i < 4) (hk4 : k < 4) (hik : i ≠ k) {ah : Int64} : jKd G 1 yX1_clearColumn cX1_clearColumn 10 none [.ref (50 + i), .ref (50 + k), .int (nI k), .long ah] w none (w.1, sClr w.2 i k ah 5) := by
  refine jK_of (own := RX1) [some (.ref (50 + i)), some (.ref (50 + k)), some (.int (nI k)), some (.long ah), none, none, none, none, none, none] pn1 rfl (Nat.le_of_ble_eq_true rfl) rfl ?_
  refine J_aload_n (pc' := 1) dX1_clearColumn_0 rfl rfl ?_
  refine J_iload_n (pc' := 2) dX1_clearColumn_1 rfl rfl ?_
  refine J_lald k (pc' := 3) dX1_clearColumn_2 (ly50 hk4) (l8450 hk4) rfl (by omega) (by decide) rfl ?_
  refine J_lstore (pc' := 5) dX1_clearColumn_3 (Nat.le_of_ble_eq_true rfl) (jstL5 rfl) rfl ?_
  refine J_aload_n (pc' := 6) dX1_clearColumn_5 rfl rfl ?_
  refine J_iload_n (pc' := 7) dX1_clearColumn_6 rfl rfl ?_
  refine J_lald k (pc' := 8) dX1_clearColumn_7 (ly50 hi4) (l8450 hi4) rfl (by omega) (by decide) rfl ?_
  refine J_lstore (pc' := 10) dX1_clearColumn_8 (Nat.le_of_ble_eq_true rfl) (jstL7 rfl) rfl ?_
  refine J_iconst (v := 0) (pc' := 11) dX1_clearColumn_10 (by decide) rfl ?_
  refine J_istore (pc' := 13) dX1_clearColumn_11 (Nat.le_of_ble_eq_true rfl) (jst9 rfl rfl) rfl ?_
  have h2 := l_clr (G := G) (w := w) hi4 hk4 hik (ah := ah) 5 0 (by omega)
  rw [sClr_0] at h2
  exact h2
set_option maxHeartbeats 4000000 in
set_option maxRecDepth 100000 in
theorem l_solI {G : jG} {w0 w : jWd} {N : Nat} (hN : N ≤ 4) {k : Nat} (hk4 : k < 4) {ah pv : Int64} (hk : J G (jM G 2 RX1 cX1_solve 8 none (fun r' w' => r' = none ∧ w' = (w0.1, sSol w0.2 N))) (w.1, sStI w.2 k ah N) 65 [some (.ref 48), some (.int (nI N)), some (.long ah), none, some (.int (nI k)), some (.long pv), none, none] []) : ∀ n i : Nat, i + n = N → J G (jM G 2 RX1 cX1_solve 8 none (fun r' w' => r' = none ∧ w' = (w0.1, sSol w0.2 N))) (w.1, sStI w.2 k ah i) 26 [some (.ref 48), some (.int (nI N)), some (.long ah), none, some (.int (nI k)), some (.long pv), none, some (.int (nI i))] [] := by
  intro n
  induction n with
  | zero =>
    intro i hi
    refine J_iload (pc' := 28) dX1_solve_26 rfl rfl ?_
    refine J_iload_n (pc' := 29) dX1_solve_28 rfl rfl ?_
    refine J_icmp_ge 65 (pc' := 32) dX1_solve_29 (by decide) rfl (fun h_29 => ?_) (fun h_29 => absurd (nI_le (by omega) (by omega)) h_29)
    have ei : i = N := by omega
    subst ei
    exact J_mask [true, true, true, true, true, true, true, false] hk
  | succ n ih =>
    intro i hi
    have hi4 : i < 4 := by omega
    refine J_iload (pc' := 28) dX1_solve_26 rfl rfl ?_
    refine J_iload_n (pc' := 29) dX1_solve_28 rfl rfl ?_
    refine J_icmp_ge 65 (pc' := 32) dX1_solve_29 (by decide) rfl (fun h_29 => absurd h_29 (nI_ge (by omega) (by omega))) (fun h_29 => ?_)
    refine J_iload (pc' := 34) dX1_solve_32 rfl rfl ?_
    refine J_iload (pc' := 36) dX1_solve_34 rfl rfl ?_
    refine J_icmp_eq 59 (pc' := 39) dX1_solve_36 (by decide) rfl (fun h_36 => ?_) (fun h_36 => ?_)
    · have hik : i = k := (nI_eq (by omega) (by omega)).mp h_36
      refine J_iinc (pc' := 62) dX1_solve_59 rfl (Nat.le_of_ble_eq_true rfl) (jst7 rfl rfl) rfl ?_
      refine J_goto (pc' := 0) 26 dX1_solve_62 (by decide) ?_
      have h2 := ih (i + 1) (by omega)
      rw [sStI, if_pos hik, ← z1 i] at h2
      exact h2
    · have hik : i ≠ k := fun q => h_36 (by rw [q])
      refine J_aload_n (pc' := 40) dX1_solve_39 rfl rfl ?_
      refine J_getR (pc' := 43) dX1_solve_40 fl_1_11 (ly_48) (l84_48) rfl rfl ?_
      refine J_iload (pc' := 45) dX1_solve_43 rfl rfl ?_
      refine J_aald i (pc' := 46) dX1_solve_45 (ly_49) (Or.inl rfl) (l84_49) rfl (row50 hi4) (by omega) (by decide) rfl ?_
      refine J_aload_n (pc' := 47) dX1_solve_46 rfl rfl ?_
      refine J_getR (pc' := 50) dX1_solve_47 fl_1_11 (ly_48) (l84_48) rfl rfl ?_
      refine J_iload (pc' := 52) dX1_solve_50 rfl rfl ?_
      refine J_aald k (pc' := 53) dX1_solve_52 (ly_49) (Or.inl rfl) (l84_49) rfl (row50 hk4) (by omega) (by decide) rfl ?_
      refine J_iload (pc' := 55) dX1_solve_53 rfl rfl ?_
      refine J_lload_n (pc' := 56) dX1_solve_55 rfl rfl ?_
      refine J_S40 (pc' := 59) dX1_solve_56 lk_1_71 cd_X1_clearColumn (k_X1_clearColumn hi4 hk4 hik) (jroom_of rfl) (Nat.le_of_ble_eq_true rfl) rfl ?_
      refine J_iinc (pc' := 62) dX1_solve_59 rfl (Nat.le_of_ble_eq_true rfl) (jst7 rfl rfl) rfl ?_
      refine J_goto (pc' := 0) 26 dX1_solve_62 (by decide) ?_
      have h2 := ih (i + 1) (by omega)
      rw [sStI, if_neg hik, ← z1 i] at h2
      exact h2
set_option maxHeartbeats 4000000 in
set_option maxRecDepth 100000 in
theorem l_solA {G : jG} {w : jWd} {w1 : Nat → Nat → Int32} {M : Nat → Nat → Int64} {N : Nat} (hN : N ≤ 4) {ah : Int64} (he : (w1, sAbN M N) = (w.1, sSol w.2 N)) : ∀ n i : Nat, i + n = N → J G (jM G 2 RX1 cX1_solve 8 none (fun r' w' => r' = none ∧ w' = (w.1, sSol w.2 N))) (w1, sAbN M i) 82 [some (.ref 48), some (.int (nI N)), some (.long ah), none, some (.int (nI i)), none, none, none] [] := by
  intro n
  induction n with
  | zero =>
    intro i hi
    refine J_iload (pc' := 84) dX1_solve_82 rfl rfl ?_
    refine J_iload_n (pc' := 85) dX1_solve_84 rfl rfl ?_
    refine J_icmp_ge 110 (pc' := 88) dX1_solve_85 (by decide) rfl (fun h_85 => ?_) (fun h_85 => absurd (nI_le (by omega) (by omega)) h_85)
    have ei : i = N := by omega
    subst ei
    exact J_vret dX1_solve_110  ⟨rfl, he⟩
  | succ n ih =>
    intro i hi
    have hi4 : i < 4 := by omega
    have e1 : (sAbN M i) (50 + i) 4 = M (50 + i) 4 := by unfold sAbN; rw [if_neg (by omega)]
    refine J_iload (pc' := 84) dX1_solve_82 rfl rfl ?_
    refine J_iload_n (pc' := 85) dX1_solve_84 rfl rfl ?_
    refine J_icmp_ge 110 (pc' := 88) dX1_solve_85 (by decide) rfl (fun h_85 => absurd h_85 (nI_ge (by omega) (by omega))) (fun h_85 => ?_)
    refine J_aload_n (pc' := 89) dX1_solve_88 rfl rfl ?_
    refine J_getR (pc' := 92) dX1_solve_89 fl_1_16 (ly_48) (l84_48) rfl rfl ?_
    refine J_iload (pc' := 94) dX1_solve_92 rfl rfl ?_
    refine J_aload_n (pc' := 95) dX1_solve_94 rfl rfl ?_
    refine J_getR (pc' := 98) dX1_solve_95 fl_1_11 (ly_48) (l84_48) rfl rfl ?_
    refine J_iload (pc' := 100) dX1_solve_98 rfl rfl ?_
    refine J_aald i (pc' := 101) dX1_solve_100 (ly_49) (Or.inl rfl) (l84_49) rfl (row50 hi4) (by omega) (by decide) rfl ?_
    refine J_iconst (v := 4) (pc' := 102) dX1_solve_101 (by decide) rfl ?_
    refine J_lald 4 (pc' := 103) dX1_solve_102 (ly50 hi4) (l8450 hi4) nIc_4 (by decide) (by decide) rfl ?_
    rw [show (w1, sAbN M i).2 (50 + i) 4 = M (50 + i) 4 from e1]
    refine J_last i (pc' := 104) dX1_solve_103 (ly_54) (l84_54) rfl (by omega) (by decide) rfl ?_
    refine J_iinc (pc' := 107) dX1_solve_104 rfl (Nat.le_of_ble_eq_true rfl) (jst4 rfl rfl) rfl ?_
    refine J_goto (pc' := 0) 82 dX1_solve_107 (by decide) ?_
    have h2 := ih (i + 1) (by omega)
    rw [← sAbN_s (M := M) (n := i), ← z1 i] at h2
    exact h2
set_option maxHeartbeats 4000000 in
set_option maxRecDepth 100000 in
theorem l_solO {G : jG} {w : jWd} {N : Nat} (hN : N ≤ 4) : ∀ n k : Nat, k + n = N → J G (jM G 2 RX1 cX1_solve 8 none (fun r' w' => r' = none ∧ w' = (w.1, sSol w.2 N))) (w.1, (sSo w.2 N k).1) 5 [some (.ref 48), some (.int (nI N)), some (.long (sSo w.2 N k).2), none, some (.int (nI k)), none, none, none] [] := by
  intro n
  induction n with
  | zero =>
    intro k hk
    refine J_iload (pc' := 7) dX1_solve_5 rfl rfl ?_
    refine J_iload_n (pc' := 8) dX1_solve_7 rfl rfl ?_
    refine J_icmp_ge 74 (pc' := 11) dX1_solve_8 (by decide) rfl (fun h_8 => ?_) (fun h_8 => absurd (nI_le (by omega) (by omega)) h_8)
    refine J_aload_n (pc' := 75) dX1_solve_74 rfl rfl ?_
    refine J_lload_n (pc' := 76) dX1_solve_75 rfl rfl ?_
    refine J_putJ (pc' := 79) dX1_solve_76 fp_1_27 (ly_48) (l84_48) rfl rfl ?_
    refine J_iconst (v := 0) (pc' := 80) dX1_solve_79 (by decide) rfl ?_
    refine J_istore (pc' := 82) dX1_solve_80 (Nat.le_of_ble_eq_true rfl) (jst4 rfl rfl) rfl ?_
    have ek : k = N := by omega
    subst ek
    have h2 := l_solA (G := G) (w := w) (w1 := w.1) (M := lset (sSo w.2 k k).1 48 4 (sSo w.2 k k).2) (N := k) hN (ah := (sSo w.2 k k).2) rfl k 0 (by omega)
    rw [sAbN_0] at h2
    exact J_mask [true, true, true, true, true, true, true, true] h2
  | succ n ih =>
    intro k hk
    have hk4 : k < 4 := by omega
    refine J_iload (pc' := 7) dX1_solve_5 rfl rfl ?_
    refine J_iload_n (pc' := 8) dX1_solve_7 rfl rfl ?_
    refine J_icmp_ge 74 (pc' := 11) dX1_solve_8 (by decide) rfl (fun h_8 => absurd h_8 (nI_ge (by omega) (by omega))) (fun h_8 => ?_)
    refine J_aload_n (pc' := 12) dX1_solve_11 rfl rfl ?_
    refine J_getR (pc' := 15) dX1_solve_12 fl_1_11 (ly_48) (l84_48) rfl rfl ?_
    refine J_iload (pc' := 17) dX1_solve_15 rfl rfl ?_
    refine J_aald k (pc' := 18) dX1_solve_17 (ly_49) (Or.inl rfl) (l84_49) rfl (row50 hk4) (by omega) (by decide) rfl ?_
    refine J_iload (pc' := 20) dX1_solve_18 rfl rfl ?_
    refine J_lald k (pc' := 21) dX1_solve_20 (ly50 hk4) (l8450 hk4) rfl (by omega) (by decide) rfl ?_
    refine J_lstore (pc' := 23) dX1_solve_21 (Nat.le_of_ble_eq_true rfl) (jstL5 rfl) rfl ?_
    refine J_iconst (v := 0) (pc' := 24) dX1_solve_23 (by decide) rfl ?_
    refine J_istore (pc' := 26) dX1_solve_24 (Nat.le_of_ble_eq_true rfl) (jst7 rfl rfl) rfl ?_
    refine l_solI (w0 := w) (w := (w.1, (sSo w.2 N k).1)) hN hk4 ?_ N 0 (by omega)
    refine J_lload (pc' := 67) dX1_solve_65 rfl rfl ?_
    refine J_lstore_n (pc' := 68) dX1_solve_67 (Nat.le_of_ble_eq_true rfl) (jstL2 rfl) rfl ?_
    refine J_iinc (pc' := 71) dX1_solve_68 rfl (Nat.le_of_ble_eq_true rfl) (jst4 rfl rfl) rfl ?_
    refine J_goto (pc' := 0) 5 dX1_solve_71 (by decide) ?_
    have h2 := ih (k + 1) (by omega)
    rw [sSo, ← z1 k] at h2
    exact J_mask [true, true, true, true, true, false, false, false] h2
set_option maxHeartbeats 4000000 in
set_option maxRecDepth 100000 in
theorem k_X1_solve {G : jG} {w : jWd} {N : Nat} (hN : N ≤ 4) : jKd G 2 yX1_solve cX1_solve 8 none [.ref 48, .int (nI N)] w none (w.1, sSol w.2 N) := by
  refine jK_of (own := RX1) [some (.ref 48), some (.int (nI N)), none, none, none, none, none, none] pn1 rfl (Nat.le_of_ble_eq_true rfl) rfl ?_
  refine J_lconst (v := 1) (pc' := 1) dX1_solve_0 (by decide) rfl ?_
  refine J_lstore_n (pc' := 2) dX1_solve_1 (Nat.le_of_ble_eq_true rfl) (jstL2 rfl) rfl ?_
  refine J_iconst (v := 0) (pc' := 3) dX1_solve_2 (by decide) rfl ?_
  refine J_istore (pc' := 5) dX1_solve_3 (Nat.le_of_ble_eq_true rfl) (jst4 rfl rfl) rfl ?_
  exact J_mask [true, true, true, true, true, true, true, true] (l_solO hN N 0 (by omega))
