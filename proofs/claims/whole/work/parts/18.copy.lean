/-! ===== copies, one more mark ===== -/
set_option maxHeartbeats 4000000 in
set_option maxRecDepth 100000 in
theorem k_X4_copy {G : jG} {w : jWd} {t x : Nat} (ht : jT t) (hx : jly x = (0, 60, [])) (hx8 : x < 84) {n : Int32} : jKd G 1 yX4_copy cX4_copy 3 none [.ref t, .ref x, .int n] w none (jset (jsetA w (t + 1) (va_cpy (w.1 x) (w.1 (t + 1)) 0 0 60)) t 5 n) := by
  refine jK_of (own := RX4) [some (.ref t), some (.ref x), some (.int n)] pn4 rfl (Nat.le_of_ble_eq_true rfl) rfl ?_
  refine J_aload_n (pc' := 1) dX4_copy_0 rfl rfl ?_
  refine J_iconst (v := 0) (pc' := 2) dX4_copy_1 (by decide) rfl ?_
  refine J_aload_n (pc' := 3) dX4_copy_2 rfl rfl ?_
  refine J_getR (pc' := 6) dX4_copy_3 fl_4_9 (lyt_0 ht) (l84t_0 ht) rfl rfl ?_
  refine J_iconst (v := 0) (pc' := 7) dX4_copy_6 (by decide) rfl ?_
  refine J_bipush (v := 60) (pc' := 9) dX4_copy_7 (by decide) rfl ?_
  refine J_copy (0) (0) (60) (pc' := 12) dX4_copy_9 lc_4_29 ac_2 ac_3 ac_4 (hx) (lyt_1 ht) (hx8) (l84t_1 ht) nIc_0 nIc_0 nIc_60 (by decide) (by decide) (by decide) (by decide) ⟨Nat.le_of_ble_eq_true rfl, Nat.le_of_ble_eq_true rfl⟩ rfl ?_
  refine J_aload_n (pc' := 13) dX4_copy_12 rfl rfl ?_
  refine J_iload_n (pc' := 14) dX4_copy_13 rfl rfl ?_
  refine J_putI (pc' := 17) dX4_copy_14 fp_4_35 (lyt_0 ht) (l84t_0 ht) rfl rfl ?_
  exact J_vret dX4_copy_17  ⟨rfl, rfl⟩
/-- .. by what is known of the world behind it -/
def tcP (w : jWd) (t x : Nat) (n : Int32) (w2 : jWd) : Prop := (∀ a, a ≠ t + 1 → a ≠ t → w2.1 a = w.1 a) ∧ (∀ j, j < 60 → w2.1 (t + 1) j = w.1 x j) ∧ (∀ k, k ≠ 5 → w2.1 t k = w.1 t k) ∧ w2.1 t 5 = n ∧ w2.2 = w.2
theorem k_tcopy {G : jG} {w : jWd} {t x : Nat} (ht : jT t) (hx : jly x = (0, 60, [])) (hx8 : x < 84) {n : Int32} : jKp G 1 yX4_copy cX4_copy 3 none [.ref t, .ref x, .int n] w none (tcP w t x n) := jK_post (k_X4_copy ht hx hx8) (fun r w2 h => by
  obtain ⟨h1, rfl⟩ := h
  refine ⟨h1, fun a h2 h3 => by rw [jset_off h3, jsetA_1, if_neg h2], fun j hj => ?_, fun k hk => ?_, by rw [jset_1, if_pos rfl, if_pos rfl], rfl⟩
  · rw [jset_off (by omega), jsetA_1, if_pos rfl]
    show (if 0 ≤ j ∧ j < 0 + 60 then w.1 x (0 + (j - 0)) else w.1 (t + 1) j) = _
    rw [if_pos ⟨Nat.zero_le _, by omega⟩]
    rw [show 0 + (j - 0) = j by omega]
  · rw [jset_1, if_pos rfl, if_neg hk, jsetA_1, if_neg (by omega)])
set_option maxHeartbeats 4000000 in
set_option maxRecDepth 100000 in
theorem k_X4_clear {G : jG} {w : jWd} {t : Nat} (ht : jT t) : jKd G 0 yX4_clear cX4_clear 1 none [.ref t] w none (jset w t 5 0) := by
  refine jK_of (own := RX4) [some (.ref t)] pn4 rfl (Nat.le_of_ble_eq_true rfl) rfl ?_
  refine J_aload_n (pc' := 1) dX4_clear_0 rfl rfl ?_
  refine J_iconst (v := 0) (pc' := 2) dX4_clear_1 (by decide) rfl ?_
  refine J_putI (pc' := 5) dX4_clear_2 fp_4_35 (lyt_0 ht) (l84t_0 ht) rfl rfl ?_
  exact J_vret dX4_clear_5  ⟨rfl, rfl⟩
set_option maxHeartbeats 4000000 in
set_option maxRecDepth 100000 in
theorem k_X4_isThere {G : jG} {w : jWd} {t : Nat} (ht : jT t) : jKd G 0 yX4_isThere cX4_isThere 1 (some .boolean) [.ref t] w (some (.int (jb (0 < w.1 t 5)))) w := by
  refine jK_of (own := RX4) [some (.ref t)] pn4 rfl (Nat.le_of_ble_eq_true rfl) rfl ?_
  refine J_aload_n (pc' := 1) dX4_isThere_0 rfl rfl ?_
  refine J_getI (pc' := 4) dX4_isThere_1 fl_4_35 (lyt_0 ht) (l84t_0 ht) rfl rfl ?_
  refine J_if_le 11 (pc' := 7) dX4_isThere_4 (by decide) rfl (fun h_4 => ?_) (fun h_4 => ?_)
  · refine J_iconst (v := 0) (pc' := 12) dX4_isThere_11 (by decide) rfl ?_
    exact J_zret dX4_isThere_12 (Or.inl rfl) ⟨jv (jb_f (Int32.not_lt.mpr h_4)).symm, rfl⟩
  · refine J_iconst (v := 1) (pc' := 8) dX4_isThere_7 (by decide) rfl ?_
    refine J_goto (pc' := 0) 12 dX4_isThere_8 (by decide) ?_
    exact J_zret dX4_isThere_12 (Or.inr rfl) ⟨jv (jb_t (Int32.not_le.mp h_4)).symm, rfl⟩
/-- one more mark -/
def sAdd (σ : sg) (km f t td : Int32) : sg := sg1 (sg1 (sg1 (sg1 (sg1 (sg1 (sg1 σ 0 (sM σ) (km / 10)) 1 (sM σ) (km - km / 10 * 10)) 2 (sM σ) f) 3 (sM σ) t) 4 (sM σ) td) 5 (sM σ) 1) 6 0 (nI (sM σ + 1))
theorem abo0 {w w2 : jWd} {b c : Nat} (h : ∀ k, k < 8 → w2.1 (b + 1) k = w.1 (c + 1) k) (k : Nat) : abX w2 b 0 k = abX w c 0 k := by
  show (if k < 8 then w2.1 (b + 1) k else 0) = (if k < 8 then w.1 (c + 1) k else 0)
  by_cases e : k < 8
  · rw [if_pos e, if_pos e, h k e]
  · rw [if_neg e, if_neg e]
theorem abo1 {w w2 : jWd} {b c : Nat} (h : ∀ k, k < 8 → w2.1 (b + 2) k = w.1 (c + 2) k) (k : Nat) : abX w2 b 1 k = abX w c 1 k := by
  show (if k < 8 then w2.1 (b + 2) k else 0) = (if k < 8 then w.1 (c + 2) k else 0)
  by_cases e : k < 8
  · rw [if_pos e, if_pos e, h k e]
  · rw [if_neg e, if_neg e]
theorem abo2 {w w2 : jWd} {b c : Nat} (h : ∀ k, k < 8 → w2.1 (b + 3) k = w.1 (c + 3) k) (k : Nat) : abX w2 b 2 k = abX w c 2 k := by
  show (if k < 8 then w2.1 (b + 3) k else 0) = (if k < 8 then w.1 (c + 3) k else 0)
  by_cases e : k < 8
  · rw [if_pos e, if_pos e, h k e]
  · rw [if_neg e, if_neg e]
theorem abo3 {w w2 : jWd} {b c : Nat} (h : ∀ k, k < 8 → w2.1 (b + 4) k = w.1 (c + 4) k) (k : Nat) : abX w2 b 3 k = abX w c 3 k := by
  show (if k < 8 then w2.1 (b + 4) k else 0) = (if k < 8 then w.1 (c + 4) k else 0)
  by_cases e : k < 8
  · rw [if_pos e, if_pos e, h k e]
  · rw [if_neg e, if_neg e]
theorem abo4 {w w2 : jWd} {b c : Nat} (h : ∀ k, k < 8 → w2.1 (b + 5) k = w.1 (c + 5) k) (k : Nat) : abX w2 b 4 k = abX w c 4 k := by
  show (if k < 8 then w2.1 (b + 5) k else 0) = (if k < 8 then w.1 (c + 5) k else 0)
  by_cases e : k < 8
  · rw [if_pos e, if_pos e, h k e]
  · rw [if_neg e, if_neg e]
theorem abo5 {w w2 : jWd} {b c : Nat} (h : w2.1 b 9 = w.1 c 9) (k : Nat) : abX w2 b 5 k = abX w c 5 k := by
  show (if k < 8 then (w2.1 b 9 >>> (nI k &&& 31)) &&& 1 else 0) = (if k < 8 then (w.1 c 9 >>> (nI k &&& 31)) &&& 1 else 0)
  rw [h]
theorem abo6 {w w2 : jWd} {b c : Nat} (h0 : ∀ k, 8 ≤ k → k ≤ 16 → w2.1 b k = w.1 c k) (k : Nat) : abX w2 b 6 k = abX w c 6 k := by
  match k with
  | 0 => exact h0 8 (by omega) (by omega)
  | 1 => exact h0 10 (by omega) (by omega)
  | 2 => exact h0 11 (by omega) (by omega)
  | 3 => exact h0 12 (by omega) (by omega)
  | 4 => exact h0 13 (by omega) (by omega)
  | 5 => exact h0 14 (by omega) (by omega)
  | 6 => exact h0 15 (by omega) (by omega)
  | 7 => exact h0 16 (by omega) (by omega)
  | q + 8 => exact (show abX w2 b 6 (q + 8) = 0 from rfl).trans (show abX w c 6 (q + 8) = 0 from rfl).symm
theorem abo7 {w w2 : jWd} {b c : Nat} (h : ∀ k, k < 60 → w2.1 (b + 6) k = w.1 (c + 6) k) (k : Nat) : abX w2 b 7 k = abX w c 7 k := by
  show (if k < 60 then w2.1 (b + 6) k else 0) = (if k < 60 then w.1 (c + 6) k else 0)
  by_cases e : k < 60
  · rw [if_pos e, if_pos e, h k e]
  · rw [if_neg e, if_neg e]
theorem abo8 {w w2 : jWd} {b c : Nat} (h : ∀ k, k < 24 → w2.1 (b + 7) k = w.1 (c + 7) k) (k : Nat) : abX w2 b 8 k = abX w c 8 k := by
  show (if k < 24 then w2.1 (b + 7) k else 0) = (if k < 24 then w.1 (c + 7) k else 0)
  by_cases e : k < 24
  · rw [if_pos e, if_pos e, h k e]
  · rw [if_neg e, if_neg e]
theorem abo9 {w w2 : jWd} {b c : Nat} (hc : (w.1 (c + 9) 5).toNatClampNeg ≤ 60) (h5 : w2.1 (b + 9) 5 = w.1 (c + 9) 5) (h : ∀ k, k < 60 → w2.1 (b + 10) k = w.1 (c + 10) k) (k : Nat) : abX w2 b 9 k = abX w c 9 k := by
  show (if k < (w2.1 (b + 9) 5).toNatClampNeg then w2.1 (b + 10) k else 0) = (if k < (w.1 (c + 9) 5).toNatClampNeg then w.1 (c + 10) k else 0)
  rw [h5]
  by_cases e : k < (w.1 (c + 9) 5).toNatClampNeg
  · rw [if_pos e, if_pos e, h k (Nat.lt_of_lt_of_le e hc)]
  · rw [if_neg e, if_neg e]
theorem abo10 {w w2 : jWd} {b c : Nat} (hc : (w.1 (c + 12) 5).toNatClampNeg ≤ 60) (h5 : w2.1 (b + 12) 5 = w.1 (c + 12) 5) (h : ∀ k, k < 60 → w2.1 (b + 13) k = w.1 (c + 13) k) (k : Nat) : abX w2 b 10 k = abX w c 10 k := by
  show (if k < (w2.1 (b + 12) 5).toNatClampNeg then w2.1 (b + 13) k else 0) = (if k < (w.1 (c + 12) 5).toNatClampNeg then w.1 (c + 13) k else 0)
  rw [h5]
  by_cases e : k < (w.1 (c + 12) 5).toNatClampNeg
  · rw [if_pos e, if_pos e, h k (Nat.lt_of_lt_of_le e hc)]
  · rw [if_neg e, if_neg e]
theorem abo11 {w w2 : jWd} {b c : Nat} (h9 : w2.1 (b + 9) 5 = w.1 (c + 9) 5) (h12 : w2.1 (b + 12) 5 = w.1 (c + 12) 5) (k : Nat) : abX w2 b 11 k = abX w c 11 k := by
  match k with
  | 0 => exact h9
  | 1 => exact h12
  | q + 2 => exact (show abX w2 b 11 (q + 2) = 0 from rfl).trans (show abX w c 11 (q + 2) = 0 from rfl).symm
theorem abX_of {w w2 : jWd} {b c : Nat} (hc : sInv (abX w c)) (h1 : ∀ k, k < 8 → w2.1 (b + 1) k = w.1 (c + 1) k) (h2 : ∀ k, k < 8 → w2.1 (b + 2) k = w.1 (c + 2) k) (h3 : ∀ k, k < 8 → w2.1 (b + 3) k = w.1 (c + 3) k) (h4 : ∀ k, k < 8 → w2.1 (b + 4) k = w.1 (c + 4) k) (h5 : ∀ k, k < 8 → w2.1 (b + 5) k = w.1 (c + 5) k)
    (h6 : ∀ k, k < 60 → w2.1 (b + 6) k = w.1 (c + 6) k) (h7 : ∀ k, k < 24 → w2.1 (b + 7) k = w.1 (c + 7) k) (h0 : ∀ k, 8 ≤ k → k ≤ 16 → w2.1 b k = w.1 c k) (h9 : w2.1 (b + 9) 5 = w.1 (c + 9) 5) (h12 : w2.1 (b + 12) 5 = w.1 (c + 12) 5) (h10 : ∀ k, k < 60 → w2.1 (b + 10) k = w.1 (c + 10) k) (h13 : ∀ k, k < 60 → w2.1 (b + 13) k = w.1 (c + 13) k) : abX w2 b = abX w c := by
  have q0 : (w.1 (c + 9) 5).toNatClampNeg ≤ 60 := (axC hc 0 (by decide)).2.1
  have q1 : (w.1 (c + 12) 5).toNatClampNeg ≤ 60 := (axC hc 1 (by decide)).2.1
  funext f k
  match f with
  | 0 => exact abo0 h1 k
  | 1 => exact abo1 h2 k
  | 2 => exact abo2 h3 k
  | 3 => exact abo3 h4 k
  | 4 => exact abo4 h5 k
  | 5 => exact abo5 (h0 9 (by omega) (by omega)) k
  | 6 => exact abo6 h0 k
  | 7 => exact abo7 h6 k
  | 8 => exact abo8 h7 k
  | 9 => exact abo9 q0 h9 h10 k
  | 10 => exact abo10 q1 h12 h13 k
  | 11 => exact abo11 h9 h12 k
  | n + 12 => exact (show abX w2 b (n + 12) k = 0 from rfl).trans (show abX w c (n + 12) k = 0 from rfl).symm
set_option maxHeartbeats 4000000 in
set_option maxRecDepth 100000 in
theorem k_X0_add {G : jG} {w : jWd} {b : Nat} (hb : jB b) (hI : sInv (abX w b)) (hB : xB w b) (h8 : sM (abX w b) < 8) {km f t td : Int32} : jKp G 1 yX0_add cX0_add 6 (some .int) [.ref b, .int km, .int f, .int t, .int td] w (some (.int (nI (sM (abX w b))))) (fun w' => abX w' b = sAdd (abX w b) km f t td ∧ xB w' b ∧ frB b w w') := by
  have hM : w.1 b 8 = nI (sM (abX w b)) := (sIM hI).1
  have hM8 := (sIM hI).2
  refine jK_of (own := RX0) [some (.ref b), some (.int km), some (.int f), some (.int t), some (.int td), none] pn0 rfl (Nat.le_of_ble_eq_true rfl) rfl ?_
  refine J_aload_n (pc' := 1) dX0_add_0 rfl rfl ?_
  refine J_getI (pc' := 4) dX0_add_1 fl_0_72 (lyb_0 hb) (l84b_0 hb) rfl rfl ?_
  rw [hM]
  refine J_istore (pc' := 6) dX0_add_4 (Nat.le_of_ble_eq_true rfl) (jst5 rfl rfl) rfl ?_
  refine J_aload_n (pc' := 7) dX0_add_6 rfl rfl ?_
  refine J_getR (pc' := 10) dX0_add_7 fl_0_9 (lyb_0 hb) (l84b_0 hb) rfl rfl ?_
  refine J_iload (pc' := 12) dX0_add_10 rfl rfl ?_
  refine J_iload_n (pc' := 13) dX0_add_12 rfl rfl ?_
  refine J_bipush (v := 10) (pc' := 15) dX0_add_13 (by decide) rfl ?_
  refine J_idiv (pc' := 16) dX0_add_15 (by decide) rfl ?_
  refine J_iast (sM (abX w b)) (pc' := 17) dX0_add_16 (lyb_1 hb) (l84b_1 hb) rfl h8 (by decide) rfl ?_
  refine J_aload_n (pc' := 18) dX0_add_17 rfl rfl ?_
  refine J_getR (pc' := 21) dX0_add_18 fl_0_15 (lyb_0 hb) (l84b_0 hb) rfl rfl ?_
  refine J_iload (pc' := 23) dX0_add_21 rfl rfl ?_
  refine J_iload_n (pc' := 24) dX0_add_23 rfl rfl ?_
  refine J_bipush (v := 10) (pc' := 26) dX0_add_24 (by decide) rfl ?_
  refine J_irem (pc' := 27) dX0_add_26 (by decide) rfl ?_
  refine J_iast (sM (abX w b)) (pc' := 28) dX0_add_27 (lyb_2 hb) (l84b_2 hb) rfl h8 (by decide) rfl ?_
  refine J_aload_n (pc' := 29) dX0_add_28 rfl rfl ?_
  refine J_getR (pc' := 32) dX0_add_29 fl_0_18 (lyb_0 hb) (l84b_0 hb) rfl rfl ?_
  refine J_iload (pc' := 34) dX0_add_32 rfl rfl ?_
  refine J_iload_n (pc' := 35) dX0_add_34 rfl rfl ?_
  refine J_iast (sM (abX w b)) (pc' := 36) dX0_add_35 (lyb_3 hb) (l84b_3 hb) rfl h8 (by decide) rfl ?_
  refine J_aload_n (pc' := 37) dX0_add_36 rfl rfl ?_
  refine J_getR (pc' := 40) dX0_add_37 fl_0_21 (lyb_0 hb) (l84b_0 hb) rfl rfl ?_
  refine J_iload (pc' := 42) dX0_add_40 rfl rfl ?_
  refine J_iload_n (pc' := 43) dX0_add_42 rfl rfl ?_
  refine J_iast (sM (abX w b)) (pc' := 44) dX0_add_43 (lyb_4 hb) (l84b_4 hb) rfl h8 (by decide) rfl ?_
  refine J_aload_n (pc' := 45) dX0_add_44 rfl rfl ?_
  refine J_getR (pc' := 48) dX0_add_45 fl_0_24 (lyb_0 hb) (l84b_0 hb) rfl rfl ?_
  refine J_iload (pc' := 50) dX0_add_48 rfl rfl ?_
  refine J_iload (pc' := 52) dX0_add_50 rfl rfl ?_
  refine J_iast (sM (abX w b)) (pc' := 53) dX0_add_52 (lyb_5 hb) (l84b_5 hb) rfl h8 (by decide) rfl ?_
  refine J_aload_n (pc' := 54) dX0_add_53 rfl rfl ?_
  refine J_iload (pc' := 56) dX0_add_54 rfl rfl ?_
  refine J_iconst (v := 1) (pc' := 57) dX0_add_56 (by decide) rfl ?_
  refine J_V20 (pc' := 60) dX0_add_57 lk_0_90 cd_X0_turn (k_X0_turn hb (k := sM (abX w b))) (lyb_0 hb) (l84b_0 hb) rfl rfl (jroom_of rfl) (Nat.le_of_ble_eq_true rfl) rfl ?_
  refine J_aload_n (pc' := 61) dX0_add_60 rfl rfl ?_
  refine J_dup (pc' := 62) dX0_add_61 rfl rfl ?_
  refine J_getI (pc' := 65) dX0_add_62 fl_0_72 (lyb_0 hb) (l84b_0 hb) rfl rfl ?_
  have e8 : (jset (jset (jset (jset (jset (jset w (b + 1) (sM (abX w b)) (km / 10)) (b + 2) (sM (abX w b)) (km - km / 10 * 10)) (b + 3) (sM (abX w b)) f) (b + 4) (sM (abX w b)) t) (b + 5) (sM (abX w b)) td) b 9 (if (1 : Int32) = 0 then (jset (jset (jset (jset (jset w (b + 1) (sM (abX w b)) (km / 10)) (b + 2) (sM (abX w b)) (km - km / 10 * 10)) (b + 3) (sM (abX w b)) f) (b + 4) (sM (abX w b)) t) (b + 5) (sM (abX w b)) td).1 b 9 &&& ((1 <<< (nI (sM (abX w b)) &&& 31)) ^^^ (-1)) else (jset (jset (jset (jset (jset w (b + 1) (sM (abX w b)) (km / 10)) (b + 2) (sM (abX w b)) (km - km / 10 * 10)) (b + 3) (sM (abX w b)) f) (b + 4) (sM (abX w b)) t) (b + 5) (sM (abX w b)) td).1 b 9 ||| 1 <<< (nI (sM (abX w b)) &&& 31))).1 b 8 = nI (sM (abX w b)) := by
    rw [jset_1, if_pos rfl, if_neg (by decide : (8 : Nat) ≠ 9), jset_off (by omega), jset_off (by omega), jset_off (by omega), jset_off (by omega), jset_off (by omega)]; exact hM
  rw [e8]
  refine J_iconst (v := 1) (pc' := 66) dX0_add_65 (by decide) rfl ?_
  refine J_iadd (pc' := 67) dX0_add_66 rfl ?_
  rw [nI_1]
  refine J_putI (pc' := 70) dX0_add_67 fp_0_72 (lyb_0 hb) (l84b_0 hb) rfl rfl ?_
  refine J_iload (pc' := 72) dX0_add_70 rfl rfl ?_
  have hB1 : xB (jset (jset (jset (jset (jset w (b + 1) (sM (abX w b)) (km / 10)) (b + 2) (sM (abX w b)) (km - km / 10 * 10)) (b + 3) (sM (abX w b)) f) (b + 4) (sM (abX w b)) t) (b + 5) (sM (abX w b)) td) b := xB_set (xB_set (xB_set (xB_set (xB_set hB (by omega) (by omega) (by omega)) (by omega) (by omega) (by omega)) (by omega) (by omega) (by omega)) (by omega) (by omega) (by omega)) (by omega) (by omega) (by omega)
  have ht := abX_turn hB1 h8 (z := 1)
  exact J_iret dX0_add_72  ⟨rfl, (by rw [abX_f8, ht.1, abX_s4 h8, abX_s3 h8, abX_s2 h8, abX_s1 h8, abX_s0 h8]; rfl), xB_set ht.2 (by omega) (by omega) (by omega), ((((((((frB.rf b w).set (by omega) (by omega)).set (by omega) (by omega)).set (by omega) (by omega)).set (by omega) (by omega)).set (by omega) (by omega)).set (by omega) (by omega)).set (by omega) (by omega))⟩
set_option maxHeartbeats 4000000 in
set_option maxRecDepth 100000 in
theorem k_X0_copy {G : jG} {w : jWd} {b b2 : Nat} (hb : jB b) (hb2 : jB b2) (hbc : (b = 31 ∧ b2 = 1) ∨ (b = 16 ∧ b2 = 1) ∨ (b = 1 ∧ b2 = 16)) (hI : sInv (abX w b2)) (hB : xB w b) (hB2 : xB w b2) : jKp G 2 yX0_copy cX0_copy 3 none [.ref b, .ref b2] w none (fun w' => abX w' b = abX w b2 ∧ xB w' b ∧ frB b w w') := by
  refine jK_of (own := RX0) [some (.ref b), some (.ref b2), none] pn0 rfl (Nat.le_of_ble_eq_true rfl) rfl ?_
  refine J_aload_n (pc' := 1) dX0_copy_0 rfl rfl ?_
  refine J_getR (pc' := 4) dX0_copy_1 fl_0_9 (lyb_0 hb2) (l84b_0 hb2) rfl rfl ?_
  refine J_iconst (v := 0) (pc' := 5) dX0_copy_4 (by decide) rfl ?_
  refine J_aload_n (pc' := 6) dX0_copy_5 rfl rfl ?_
  refine J_getR (pc' := 9) dX0_copy_6 fl_0_9 (lyb_0 hb) (l84b_0 hb) rfl rfl ?_
  refine J_iconst (v := 0) (pc' := 10) dX0_copy_9 (by decide) rfl ?_
  refine J_bipush (v := 8) (pc' := 12) dX0_copy_10 (by decide) rfl ?_
  refine J_copyG 8 (pc' := 15) dX0_copy_12 lc_0_56 ac_2 ac_3 ac_4 (lyb_1 hb2) (lyb_1 hb) (l84b_1 hb2) (l84b_1 hb) nIc_0 nIc_0 nIc_8 (by decide) (by decide) (by decide) (by decide) ⟨Nat.le_of_ble_eq_true rfl, Nat.le_of_ble_eq_true rfl⟩ rfl (fun w12 o12 e12 t12 r12 => ?_)
  refine J_aload_n (pc' := 16) dX0_copy_15 rfl rfl ?_
  refine J_getR (pc' := 19) dX0_copy_16 fl_0_15 (lyb_0 hb2) (l84b_0 hb2) rfl rfl ?_
  refine J_iconst (v := 0) (pc' := 20) dX0_copy_19 (by decide) rfl ?_
  refine J_aload_n (pc' := 21) dX0_copy_20 rfl rfl ?_
  refine J_getR (pc' := 24) dX0_copy_21 fl_0_15 (lyb_0 hb) (l84b_0 hb) rfl rfl ?_
  refine J_iconst (v := 0) (pc' := 25) dX0_copy_24 (by decide) rfl ?_
  refine J_bipush (v := 8) (pc' := 27) dX0_copy_25 (by decide) rfl ?_
  refine J_copyG 8 (pc' := 30) dX0_copy_27 lc_0_56 ac_2 ac_3 ac_4 (lyb_2 hb2) (lyb_2 hb) (l84b_2 hb2) (l84b_2 hb) nIc_0 nIc_0 nIc_8 (by decide) (by decide) (by decide) (by decide) ⟨Nat.le_of_ble_eq_true rfl, Nat.le_of_ble_eq_true rfl⟩ rfl (fun w27 o27 e27 t27 r27 => ?_)
  refine J_aload_n (pc' := 31) dX0_copy_30 rfl rfl ?_
  refine J_getR (pc' := 34) dX0_copy_31 fl_0_18 (lyb_0 hb2) (l84b_0 hb2) rfl rfl ?_
  refine J_iconst (v := 0) (pc' := 35) dX0_copy_34 (by decide) rfl ?_
  refine J_aload_n (pc' := 36) dX0_copy_35 rfl rfl ?_
  refine J_getR (pc' := 39) dX0_copy_36 fl_0_18 (lyb_0 hb) (l84b_0 hb) rfl rfl ?_
  refine J_iconst (v := 0) (pc' := 40) dX0_copy_39 (by decide) rfl ?_
  refine J_bipush (v := 8) (pc' := 42) dX0_copy_40 (by decide) rfl ?_
  refine J_copyG 8 (pc' := 45) dX0_copy_42 lc_0_56 ac_2 ac_3 ac_4 (lyb_3 hb2) (lyb_3 hb) (l84b_3 hb2) (l84b_3 hb) nIc_0 nIc_0 nIc_8 (by decide) (by decide) (by decide) (by decide) ⟨Nat.le_of_ble_eq_true rfl, Nat.le_of_ble_eq_true rfl⟩ rfl (fun w42 o42 e42 t42 r42 => ?_)
  refine J_aload_n (pc' := 46) dX0_copy_45 rfl rfl ?_
  refine J_getR (pc' := 49) dX0_copy_46 fl_0_21 (lyb_0 hb2) (l84b_0 hb2) rfl rfl ?_
  refine J_iconst (v := 0) (pc' := 50) dX0_copy_49 (by decide) rfl ?_
  refine J_aload_n (pc' := 51) dX0_copy_50 rfl rfl ?_
  refine J_getR (pc' := 54) dX0_copy_51 fl_0_21 (lyb_0 hb) (l84b_0 hb) rfl rfl ?_
  refine J_iconst (v := 0) (pc' := 55) dX0_copy_54 (by decide) rfl ?_
  refine J_bipush (v := 8) (pc' := 57) dX0_copy_55 (by decide) rfl ?_
  refine J_copyG 8 (pc' := 60) dX0_copy_57 lc_0_56 ac_2 ac_3 ac_4 (lyb_4 hb2) (lyb_4 hb) (l84b_4 hb2) (l84b_4 hb) nIc_0 nIc_0 nIc_8 (by decide) (by decide) (by decide) (by decide) ⟨Nat.le_of_ble_eq_true rfl, Nat.le_of_ble_eq_true rfl⟩ rfl (fun w57 o57 e57 t57 r57 => ?_)
  refine J_aload_n (pc' := 61) dX0_copy_60 rfl rfl ?_
  refine J_getR (pc' := 64) dX0_copy_61 fl_0_24 (lyb_0 hb2) (l84b_0 hb2) rfl rfl ?_
  refine J_iconst (v := 0) (pc' := 65) dX0_copy_64 (by decide) rfl ?_
  refine J_aload_n (pc' := 66) dX0_copy_65 rfl rfl ?_
  refine J_getR (pc' := 69) dX0_copy_66 fl_0_24 (lyb_0 hb) (l84b_0 hb) rfl rfl ?_
  refine J_iconst (v := 0) (pc' := 70) dX0_copy_69 (by decide) rfl ?_
  refine J_bipush (v := 8) (pc' := 72) dX0_copy_70 (by decide) rfl ?_
  refine J_copyG 8 (pc' := 75) dX0_copy_72 lc_0_56 ac_2 ac_3 ac_4 (lyb_5 hb2) (lyb_5 hb) (l84b_5 hb2) (l84b_5 hb) nIc_0 nIc_0 nIc_8 (by decide) (by decide) (by decide) (by decide) ⟨Nat.le_of_ble_eq_true rfl, Nat.le_of_ble_eq_true rfl⟩ rfl (fun w72 o72 e72 t72 r72 => ?_)
  refine J_aload_n (pc' := 76) dX0_copy_75 rfl rfl ?_
  refine J_getR (pc' := 79) dX0_copy_76 fl_0_27 (lyb_0 hb2) (l84b_0 hb2) rfl rfl ?_
  refine J_iconst (v := 0) (pc' := 80) dX0_copy_79 (by decide) rfl ?_
  refine J_aload_n (pc' := 81) dX0_copy_80 rfl rfl ?_
  refine J_getR (pc' := 84) dX0_copy_81 fl_0_27 (lyb_0 hb) (l84b_0 hb) rfl rfl ?_
  refine J_iconst (v := 0) (pc' := 85) dX0_copy_84 (by decide) rfl ?_
  refine J_bipush (v := 60) (pc' := 87) dX0_copy_85 (by decide) rfl ?_
  refine J_copyG 60 (pc' := 90) dX0_copy_87 lc_0_56 ac_2 ac_3 ac_4 (lyb_6 hb2) (lyb_6 hb) (l84b_6 hb2) (l84b_6 hb) nIc_0 nIc_0 nIc_60 (by decide) (by decide) (by decide) (by decide) ⟨Nat.le_of_ble_eq_true rfl, Nat.le_of_ble_eq_true rfl⟩ rfl (fun w87 o87 e87 t87 r87 => ?_)
  refine J_aload_n (pc' := 91) dX0_copy_90 rfl rfl ?_
  refine J_getR (pc' := 94) dX0_copy_91 fl_0_30 (lyb_0 hb2) (l84b_0 hb2) rfl rfl ?_
  refine J_iconst (v := 0) (pc' := 95) dX0_copy_94 (by decide) rfl ?_
  refine J_aload_n (pc' := 96) dX0_copy_95 rfl rfl ?_
  refine J_getR (pc' := 99) dX0_copy_96 fl_0_30 (lyb_0 hb) (l84b_0 hb) rfl rfl ?_
  refine J_iconst (v := 0) (pc' := 100) dX0_copy_99 (by decide) rfl ?_
  refine J_bipush (v := 24) (pc' := 102) dX0_copy_100 (by decide) rfl ?_
  refine J_copyG 24 (pc' := 105) dX0_copy_102 lc_0_56 ac_2 ac_3 ac_4 (lyb_7 hb2) (lyb_7 hb) (l84b_7 hb2) (l84b_7 hb) nIc_0 nIc_0 nIc_24 (by decide) (by decide) (by decide) (by decide) ⟨Nat.le_of_ble_eq_true rfl, Nat.le_of_ble_eq_true rfl⟩ rfl (fun w102 o102 e102 t102 r102 => ?_)
  refine J_iconst (v := 0) (pc' := 106) dX0_copy_105 (by decide) rfl ?_
  refine J_istore_n (pc' := 107) dX0_copy_106 (Nat.le_of_ble_eq_true rfl) (jst2 rfl rfl) rfl ?_
  refine J_iload_n (pc' := 108) dX0_copy_107 rfl rfl ?_
  refine J_iconst (v := 2) (pc' := 109) dX0_copy_108 (by decide) rfl ?_
  refine J_icmp_ge 145 (pc' := 112) dX0_copy_109 (by decide) rfl (fun h_109 => absurd h_109 (by decide)) (fun h_109 => ?_)
  refine J_aload_n (pc' := 113) dX0_copy_112 rfl rfl ?_
  refine J_getR (pc' := 116) dX0_copy_113 fl_0_42 (lyb_0 hb) (l84b_0 hb) rfl rfl ?_
  refine J_iload_n (pc' := 117) dX0_copy_116 rfl rfl ?_
  refine J_aald 0 (pc' := 118) dX0_copy_117 (lyb_8 hb) (Or.inr (Or.inr rfl)) (l84b_8 hb) nIc_0 rfl (by decide) (by decide) rfl ?_
  refine J_aload_n (pc' := 119) dX0_copy_118 rfl rfl ?_
  refine J_getR (pc' := 122) dX0_copy_119 fl_0_42 (lyb_0 hb2) (l84b_0 hb2) rfl rfl ?_
  refine J_iload_n (pc' := 123) dX0_copy_122 rfl rfl ?_
  refine J_aald 0 (pc' := 124) dX0_copy_123 (lyb_8 hb2) (Or.inr (Or.inr rfl)) (l84b_8 hb2) nIc_0 rfl (by decide) (by decide) rfl ?_
  refine J_getR (pc' := 127) dX0_copy_124 fl_0_62 (lyb_9 hb2) (l84b_9 hb2) rfl rfl ?_
  refine J_aload_n (pc' := 128) dX0_copy_127 rfl rfl ?_
  refine J_getR (pc' := 131) dX0_copy_128 fl_0_42 (lyb_0 hb2) (l84b_0 hb2) rfl rfl ?_
  refine J_iload_n (pc' := 132) dX0_copy_131 rfl rfl ?_
  refine J_aald 0 (pc' := 133) dX0_copy_132 (lyb_8 hb2) (Or.inr (Or.inr rfl)) (l84b_8 hb2) nIc_0 rfl (by decide) (by decide) rfl ?_
  refine J_getI (pc' := 136) dX0_copy_133 fl_0_65 (lyb_9 hb2) (l84b_9 hb2) rfl rfl ?_
  refine J_V2w (pc' := 139) dX0_copy_136 lk_0_68 cd_X4_copy (k_tcopy (jTb_0 hb) (lyb_10 hb2) (l84b_10 hb2)) (lyb_9 hb) (l84b_9 hb) rfl rfl (jroom_of rfl) (Nat.le_of_ble_eq_true rfl) rfl (fun w136 hw136 => ?_)
  obtain ⟨oT0, eT0, kT0, nT0, rT0⟩ := hw136
  generalize w136 = wT0 at *
  refine J_iinc (pc' := 142) dX0_copy_139 rfl (Nat.le_of_ble_eq_true rfl) (jst2 rfl rfl) rfl ?_
  refine J_goto (pc' := 0) 107 dX0_copy_142 (by decide) ?_
  refine J_iload_n (pc' := 108) dX0_copy_107 rfl rfl ?_
  refine J_iconst (v := 2) (pc' := 109) dX0_copy_108 (by decide) rfl ?_
  refine J_icmp_ge 145 (pc' := 112) dX0_copy_109 (by decide) rfl (fun h_109 => absurd h_109 (by decide)) (fun h_109 => ?_)
  refine J_aload_n (pc' := 113) dX0_copy_112 rfl rfl ?_
  refine J_getR (pc' := 116) dX0_copy_113 fl_0_42 (lyb_0 hb) (l84b_0 hb) rfl rfl ?_
  refine J_iload_n (pc' := 117) dX0_copy_116 rfl rfl ?_
  refine J_aald 1 (pc' := 118) dX0_copy_117 (lyb_8 hb) (Or.inr (Or.inr rfl)) (l84b_8 hb) (by decide) rfl (by decide) (by decide) rfl ?_
  refine J_aload_n (pc' := 119) dX0_copy_118 rfl rfl ?_
  refine J_getR (pc' := 122) dX0_copy_119 fl_0_42 (lyb_0 hb2) (l84b_0 hb2) rfl rfl ?_
  refine J_iload_n (pc' := 123) dX0_copy_122 rfl rfl ?_
  refine J_aald 1 (pc' := 124) dX0_copy_123 (lyb_8 hb2) (Or.inr (Or.inr rfl)) (l84b_8 hb2) (by decide) rfl (by decide) (by decide) rfl ?_
  refine J_getR (pc' := 127) dX0_copy_124 fl_0_62 (lyb_12 hb2) (l84b_12 hb2) rfl rfl ?_
  refine J_aload_n (pc' := 128) dX0_copy_127 rfl rfl ?_
  refine J_getR (pc' := 131) dX0_copy_128 fl_0_42 (lyb_0 hb2) (l84b_0 hb2) rfl rfl ?_
  refine J_iload_n (pc' := 132) dX0_copy_131 rfl rfl ?_
  refine J_aald 1 (pc' := 133) dX0_copy_132 (lyb_8 hb2) (Or.inr (Or.inr rfl)) (l84b_8 hb2) (by decide) rfl (by decide) (by decide) rfl ?_
  refine J_getI (pc' := 136) dX0_copy_133 fl_0_65 (lyb_12 hb2) (l84b_12 hb2) rfl rfl ?_
  refine J_V2w (pc' := 139) dX0_copy_136 lk_0_68 cd_X4_copy (k_tcopy (jTb_1 hb) (lyb_13 hb2) (l84b_13 hb2)) (lyb_12 hb) (l84b_12 hb) rfl rfl (jroom_of rfl) (Nat.le_of_ble_eq_true rfl) rfl (fun w136 hw136 => ?_)
  obtain ⟨oT1, eT1, kT1, nT1, rT1⟩ := hw136
  generalize w136 = wT1 at *
  refine J_iinc (pc' := 142) dX0_copy_139 rfl (Nat.le_of_ble_eq_true rfl) (jst2 rfl rfl) rfl ?_
  refine J_goto (pc' := 0) 107 dX0_copy_142 (by decide) ?_
  refine J_iload_n (pc' := 108) dX0_copy_107 rfl rfl ?_
  refine J_iconst (v := 2) (pc' := 109) dX0_copy_108 (by decide) rfl ?_
  refine J_icmp_ge 145 (pc' := 112) dX0_copy_109 (by decide) rfl (fun h_109 => ?_) (fun h_109 => absurd (by decide) h_109)
  refine J_aload_n (pc' := 146) dX0_copy_145 rfl rfl ?_
  refine J_aload_n (pc' := 147) dX0_copy_146 rfl rfl ?_
  refine J_getI (pc' := 150) dX0_copy_147 fl_0_72 (lyb_0 hb2) (l84b_0 hb2) rfl rfl ?_
  refine J_putI (pc' := 153) dX0_copy_150 fp_0_72 (lyb_0 hb) (l84b_0 hb) rfl rfl ?_
  refine J_aload_n (pc' := 154) dX0_copy_153 rfl rfl ?_
  refine J_aload_n (pc' := 155) dX0_copy_154 rfl rfl ?_
  refine J_getI (pc' := 158) dX0_copy_155 fl_0_75 (lyb_0 hb2) (l84b_0 hb2) rfl rfl ?_
  refine J_putI (pc' := 161) dX0_copy_158 fp_0_75 (lyb_0 hb) (l84b_0 hb) rfl rfl ?_
  refine J_aload_n (pc' := 162) dX0_copy_161 rfl rfl ?_
  refine J_aload_n (pc' := 163) dX0_copy_162 rfl rfl ?_
  refine J_getI (pc' := 166) dX0_copy_163 fl_0_46 (lyb_0 hb2) (l84b_0 hb2) rfl rfl ?_
  refine J_putI (pc' := 169) dX0_copy_166 fp_0_46 (lyb_0 hb) (l84b_0 hb) rfl rfl ?_
  refine J_aload_n (pc' := 170) dX0_copy_169 rfl rfl ?_
  refine J_aload_n (pc' := 171) dX0_copy_170 rfl rfl ?_
  refine J_getI (pc' := 174) dX0_copy_171 fl_0_78 (lyb_0 hb2) (l84b_0 hb2) rfl rfl ?_
  refine J_putI (pc' := 177) dX0_copy_174 fp_0_78 (lyb_0 hb) (l84b_0 hb) rfl rfl ?_
  refine J_aload_n (pc' := 178) dX0_copy_177 rfl rfl ?_
  refine J_aload_n (pc' := 179) dX0_copy_178 rfl rfl ?_
  refine J_getI (pc' := 182) dX0_copy_179 fl_0_50 (lyb_0 hb2) (l84b_0 hb2) rfl rfl ?_
  refine J_putI (pc' := 185) dX0_copy_182 fp_0_50 (lyb_0 hb) (l84b_0 hb) rfl rfl ?_
  refine J_aload_n (pc' := 186) dX0_copy_185 rfl rfl ?_
  refine J_aload_n (pc' := 187) dX0_copy_186 rfl rfl ?_
  refine J_getI (pc' := 190) dX0_copy_187 fl_0_81 (lyb_0 hb2) (l84b_0 hb2) rfl rfl ?_
  refine J_putI (pc' := 193) dX0_copy_190 fp_0_81 (lyb_0 hb) (l84b_0 hb) rfl rfl ?_
  refine J_aload_n (pc' := 194) dX0_copy_193 rfl rfl ?_
  refine J_aload_n (pc' := 195) dX0_copy_194 rfl rfl ?_
  refine J_getI (pc' := 198) dX0_copy_195 fl_0_53 (lyb_0 hb2) (l84b_0 hb2) rfl rfl ?_
  refine J_putI (pc' := 201) dX0_copy_198 fp_0_53 (lyb_0 hb) (l84b_0 hb) rfl rfl ?_
  refine J_aload_n (pc' := 202) dX0_copy_201 rfl rfl ?_
  refine J_aload_n (pc' := 203) dX0_copy_202 rfl rfl ?_
  refine J_getI (pc' := 206) dX0_copy_203 fl_0_84 (lyb_0 hb2) (l84b_0 hb2) rfl rfl ?_
  refine J_putI (pc' := 209) dX0_copy_206 fp_0_84 (lyb_0 hb) (l84b_0 hb) rfl rfl ?_
  refine J_aload_n (pc' := 210) dX0_copy_209 rfl rfl ?_
  refine J_aload_n (pc' := 211) dX0_copy_210 rfl rfl ?_
  refine J_getI (pc' := 214) dX0_copy_211 fl_0_87 (lyb_0 hb2) (l84b_0 hb2) rfl rfl ?_
  refine J_putI (pc' := 217) dX0_copy_214 fp_0_87 (lyb_0 hb) (l84b_0 hb) rfl rfl ?_
  refine J_vret dX0_copy_217  ⟨rfl, ?_, ?_, ?_, ?_⟩
  · rcases hbc with ⟨rfl, rfl⟩ | ⟨rfl, rfl⟩ | ⟨rfl, rfl⟩
    all_goals
      exact abX_of hI (fun k hk => by simp [jset_1, oT1, oT0, o102, o87, o72, o57, o42, o27, o12, e12 k hk]) (fun k hk => by simp [jset_1, oT1, oT0, o102, o87, o72, o57, o42, o27, o12, e27 k hk]) (fun k hk => by simp [jset_1, oT1, oT0, o102, o87, o72, o57, o42, o27, o12, e42 k hk]) (fun k hk => by simp [jset_1, oT1, oT0, o102, o87, o72, o57, o42, o27, o12, e57 k hk]) (fun k hk => by simp [jset_1, oT1, oT0, o102, o87, o72, o57, o42, o27, o12, e72 k hk]) (fun k hk => by simp [jset_1, oT1, oT0, o102, o87, o72, o57, o42, o27, o12, e87 k hk]) (fun k hk => by simp [jset_1, oT1, oT0, o102, o87, o72, o57, o42, o27, o12, e102 k hk]) (fun k h8 h16 => by (obtain rfl | rfl | rfl | rfl | rfl | rfl | rfl | rfl | rfl : k = 8 ∨ k = 9 ∨ k = 10 ∨ k = 11 ∨ k = 12 ∨ k = 13 ∨ k = 14 ∨ k = 15 ∨ k = 16 := by omega) <;> simp [jset_1, oT1, oT0, o102, o87, o72, o57, o42, o27, o12]) (by simp [jset_1, oT1, oT0, o102, o87, o72, o57, o42, o27, o12, nT0]) (by simp [jset_1, oT1, oT0, o102, o87, o72, o57, o42, o27, o12, nT1]) (fun k hk => by simp [jset_1, oT1, oT0, o102, o87, o72, o57, o42, o27, o12, eT0 k hk]) (fun k hk => by simp [jset_1, oT1, oT0, o102, o87, o72, o57, o42, o27, o12, eT1 k hk])
  · obtain ⟨⟨S, hS, e⟩, -, -, -, -⟩ := hB2
    obtain ⟨-, c1, c2, c3, c4⟩ := hB
    rcases hbc with ⟨rfl, rfl⟩ | ⟨rfl, rfl⟩ | ⟨rfl, rfl⟩
    all_goals refine ⟨⟨S, hS, ?_⟩, ?_, ?_, ?_, ?_⟩ <;> simp [jset_1, oT1, oT0, o102, o87, o72, o57, o42, o27, o12, kT0, kT1, *]
  · intro a ha
    rcases hbc with ⟨rfl, rfl⟩ | ⟨rfl, rfl⟩ | ⟨rfl, rfl⟩
    all_goals
      rw [jset_off (by omega), jset_off (by omega), jset_off (by omega), jset_off (by omega), jset_off (by omega), jset_off (by omega), jset_off (by omega), jset_off (by omega), jset_off (by omega), oT1 a (by omega) (by omega), oT0 a (by omega) (by omega), o102 a (by omega), o87 a (by omega), o72 a (by omega), o57 a (by omega), o42 a (by omega), o27 a (by omega), o12 a (by omega)]
  · show wT1.2 = w.2
    rw [rT1, rT0, r102, r87, r72, r57, r42, r27, r12]
