/-! ===== places: misses ===== -/
/-- what a mark misses, above the line; its doubt; the most doubted; all misses -/
def sMisX (σ : sg) (ln : Int64) (pl : Nat → Int64) (k : Nat) (x : Int32) : Int64 := x.toInt64 * ln - pl (nn (σ 3 k)) + (if σ 2 k < 0 then 0 else pl (nn (σ 2 k)))
def sDbt (σ : sg) (ln : Int64) (pl : Nat → Int64) (k : Nat) : Int64 := (sW σ k).toInt64 * sAbs (sMisX σ ln pl k (sS σ k))
def sMo (σ : sg) (ln : Int64) (pl : Nat → Int64) : Nat → Int32 × Int64
  | 0 => (-1, -1)
  | n + 1 => let d := if σ 5 n = 1 then sDbt σ ln pl n else -1
    if (sMo σ ln pl n).2 < d then (nI n, d) else sMo σ ln pl n
theorem lcmpP {x y : Int64} : lg_cmp x y ≤ 0 ↔ ¬ y < x := by
  unfold lg_cmp
  by_cases h : x > y
  · rw [if_pos h]
    exact ⟨fun q => absurd q (by decide), fun q => absurd h q⟩
  · rw [if_neg h]
    by_cases h2 : x = y
    · rw [if_pos h2]; exact ⟨fun _ => h, fun _ => by decide⟩
    · rw [if_neg h2]; exact ⟨fun _ => h, fun _ => by decide⟩
theorem lcmpQ {x y : Int64} (h : ¬ lg_cmp x y ≤ 0) : y < x := Decidable.not_not.mp (fun q => h (lcmpP.mpr q))
theorem sMo_s {σ : sg} {ln : Int64} {pl : Nat → Int64} {n : Nat} {d : Int64} (h : (if σ 5 n = 1 then sDbt σ ln pl n else -1) = d) : sMo σ ln pl (n + 1) = if (sMo σ ln pl n).2 < d then (nI n, d) else sMo σ ln pl n := by subst h; rfl
def sSm (σ : sg) (ln : Int64) (pl : Nat → Int64) : Nat → Int64
  | 0 => 0
  | n + 1 => sSm σ ln pl n + (if σ 5 n = 1 then (sW σ n).toInt64 * sMisX σ ln pl n (sS σ n) * sMisX σ ln pl n (sS σ n) else 0)
def sZR (M : Nat → Nat → Int64) (i n : Nat) : Nat → Nat → Int64 := fun a => if a = 50 + i then (fun k => if k < n then 0 else M (50 + i) k) else M a
def sZA (M : Nat → Nat → Int64) : Nat → Nat → Nat → Int64
  | 0 => M
  | i + 1 => sZR (sZA M i) i 5
def sZer (M : Nat → Nat → Int64) : Nat → Nat → Int64 := sZA M 4
theorem sZR_0 (M : Nat → Nat → Int64) (i : Nat) : sZR M i 0 = M := by
  funext a j
  unfold sZR
  by_cases h : a = 50 + i
  · subst h; simp
  · rw [if_neg h]
theorem sZR_s {M : Nat → Nat → Int64} {i n : Nat} : lset (sZR M i n) (50 + i) n 0 = sZR M i (n + 1) := by
  funext a' j
  rw [lset_eq]
  unfold sZR
  by_cases h : a' = 50 + i
  · subst h
    rw [if_pos rfl, if_pos rfl]
    by_cases h2 : j = n
    · subst h2; rw [if_pos ⟨rfl, rfl⟩, if_pos (by omega)]
    · rw [if_neg (fun q => h2 q.2)]
      by_cases h3 : j < n
      · rw [if_pos h3, if_pos (by omega)]
      · rw [if_neg h3, if_neg (by omega)]
  · rw [if_neg (fun q => h q.1), if_neg h, if_neg h]
def sEntN (σ : sg) (M : Nat → Nat → Int64) : Nat → Nat → Nat → Int64
  | 0 => M
  | n + 1 => if σ 5 n = 1 then sEnt (sEntN σ M n) (σ 2 n) (nn (σ 3 n)) (sW σ n) (sS σ n) else sEntN σ M n
def sFnd (σ : sg) (M : Nat → Nat → Int64) : Nat → Nat → Int64 := sSol (sEntN σ (sZer M) (sM σ)) (sP σ)
/-- weights and what is said, as they are kept of the marks that are on -/
def sKp (σ : sg) (w : jWd) (n : Nat) : Prop := ∀ k, k < n → σ 5 k = 1 → w.1 55 k = sW σ k ∧ w.1 56 k = sS σ k
theorem sTf {σ : sg} (hI : sInv σ) {k : Nat} (hk : k < sM σ) : (∃ t, t < 4 ∧ σ 3 k = nI t ∧ t < sP σ) ∧ (σ 2 k < 0 ∨ ∃ f, f < 4 ∧ σ 2 k = nI f) ∧ (¬ σ 2 k < 0 → ∃ f, f < sP σ ∧ σ 2 k = nI f) := by
  obtain ⟨-, -, ⟨f1, f2⟩, ⟨g1, g2⟩, -⟩ := sIk hI hk
  have hP := (sIP hI).2
  have key : ∀ x : Int32, 0 ≤ x.toInt → x.toInt < (sP σ : Int) → ∃ t, t < 4 ∧ x = nI t ∧ t < sP σ := fun x h1 h2 => ⟨x.toInt.toNat, by omega, Int32.toInt_inj.mp (by rw [nI_toInt (by omega)]; omega), by omega⟩
  have hn : ¬ σ 2 k < 0 → 0 ≤ (σ 2 k).toInt := fun h => by
    have q := Int32.le_iff_toInt_le.mp (Int32.not_lt.mp h)
    rw [show (0 : Int32).toInt = 0 from by decide] at q
    exact q
  refine ⟨key _ g1 g2, ?_, fun h => ?_⟩
  · by_cases h : σ 2 k < 0
    · exact Or.inl h
    · obtain ⟨t, q1, q2, -⟩ := key _ (hn h) f2
      exact Or.inr ⟨t, q1, q2⟩
  · obtain ⟨t, q1, q2, q3⟩ := key _ (hn h) f2
    exact ⟨t, q3, q2⟩
theorem ab_off {w : jWd} {b a k : Nat} {v : Int32} (hb : jB b) (ha : 46 ≤ a) : abX (jset w a k v) b = abX w b := abX_congr (fun x h1 h2 => jset_off (by rcases hb with rfl | rfl | rfl <;> omega))
theorem xb_off {w : jWd} {b a k : Nat} {v : Int32} (hb : jB b) (ha : 46 ≤ a) (h : xB w b) : xB (jset w a k v) b := xB_congr (fun x h1 h2 => jset_off (by rcases hb with rfl | rfl | rfl <;> omega)) h
theorem jb_rng {b : Nat} (hb : jB b) : 1 ≤ b ∧ b ≤ 31 := by rcases hb with rfl | rfl | rfl <;> omega
set_option maxHeartbeats 4000000 in
set_option maxRecDepth 100000 in
theorem k_X1_missAbove {G : jG} {w : jWd} {b : Nat} (hb : jB b) (hI : sInv (abX w b)) {k : Nat} (hk : k < sM (abX w b)) {x : Int32} : jKd G 0 yX1_missAbove cX1_missAbove 5 (some .long) [.ref 48, .ref b, .int (nI k), .int x] w (some (.long (sMisX (abX w b) (w.2 48 4) (w.2 54) k x))) w := by
  have h8 : k < 8 := Nat.lt_of_lt_of_le hk (sIM hI).2
  obtain ⟨⟨t, ht4, ht, -⟩, -, hf⟩ := sTf hI hk
  have e2 : w.1 (b + 3) k = abX w b 2 k := (ax2 h8).symm
  have e3 : w.1 (b + 4) k = nI t := (ax3 h8).symm.trans ht
  refine jK_of (own := RX1) [some (.ref 48), some (.ref b), some (.int (nI k)), some (.int x), none] pn1 rfl (Nat.le_of_ble_eq_true rfl) rfl ?_
  refine J_aload_n (pc' := 1) dX1_missAbove_0 rfl rfl ?_
  refine J_getR (pc' := 4) dX1_missAbove_1 fl_1_54 (lyb_0 hb) (l84b_0 hb) rfl rfl ?_
  refine J_iload_n (pc' := 5) dX1_missAbove_4 rfl rfl ?_
  refine J_iald k (pc' := 6) dX1_missAbove_5 (lyb_3 hb) (l84b_3 hb) rfl h8 (by decide) rfl ?_
  rw [e2]
  refine J_istore (pc' := 8) dX1_missAbove_6 (Nat.le_of_ble_eq_true rfl) (jst4 rfl rfl) rfl ?_
  refine J_iload_n (pc' := 9) dX1_missAbove_8 rfl rfl ?_
  refine J_i2l (pc' := 10) dX1_missAbove_9 rfl ?_
  refine J_aload_n (pc' := 11) dX1_missAbove_10 rfl rfl ?_
  refine J_getJ (pc' := 14) dX1_missAbove_11 fl_1_27 (ly_48) (l84_48) rfl rfl ?_
  refine J_lmul (pc' := 15) dX1_missAbove_14 rfl ?_
  refine J_aload_n (pc' := 16) dX1_missAbove_15 rfl rfl ?_
  refine J_getR (pc' := 19) dX1_missAbove_16 fl_1_16 (ly_48) (l84_48) rfl rfl ?_
  refine J_aload_n (pc' := 20) dX1_missAbove_19 rfl rfl ?_
  refine J_getR (pc' := 23) dX1_missAbove_20 fl_1_57 (lyb_0 hb) (l84b_0 hb) rfl rfl ?_
  refine J_iload_n (pc' := 24) dX1_missAbove_23 rfl rfl ?_
  refine J_iald k (pc' := 25) dX1_missAbove_24 (lyb_4 hb) (l84b_4 hb) rfl h8 (by decide) rfl ?_
  rw [e3]
  refine J_lald t (pc' := 26) dX1_missAbove_25 (ly_54) (l84_54) rfl ht4 (by decide) rfl ?_
  refine J_lsub (pc' := 27) dX1_missAbove_26 rfl ?_
  refine J_iload (pc' := 29) dX1_missAbove_27 rfl rfl ?_
  refine J_if_ge 36 (pc' := 32) dX1_missAbove_29 (by decide) rfl (fun h_29 => ?_) (fun h_29 => ?_)
  · obtain ⟨f, hf1, hf2⟩ := hf (Int32.not_lt.mpr h_29)
    refine J_aload_n (pc' := 37) dX1_missAbove_36 rfl rfl ?_
    refine J_getR (pc' := 40) dX1_missAbove_37 fl_1_16 (ly_48) (l84_48) rfl rfl ?_
    refine J_iload (pc' := 42) dX1_missAbove_40 rfl rfl ?_
    refine J_lald f (pc' := 43) dX1_missAbove_42 (ly_54) (l84_54) hf2 (Nat.lt_of_lt_of_le hf1 (sIP hI).2.2) (by decide) rfl ?_
    refine J_ladd (pc' := 44) dX1_missAbove_43 rfl ?_
    first | exact J_lret dX1_missAbove_44  ⟨jvl (by unfold sMisX; rw [ht, nn_nI (by omega), if_pos (Int32.not_le.mp h_29)]), rfl⟩ | exact J_lret dX1_missAbove_44  ⟨jvl (by unfold sMisX; rw [ht, nn_nI (by omega), if_neg (Int32.not_lt.mpr h_29), hf2, nn_nI (by have := (sIP hI).2.2; omega)]), rfl⟩
  · refine J_lconst (v := 0) (pc' := 33) dX1_missAbove_32 (by decide) rfl ?_
    refine J_goto (pc' := 0) 43 dX1_missAbove_33 (by decide) ?_
    refine J_ladd (pc' := 44) dX1_missAbove_43 rfl ?_
    first | exact J_lret dX1_missAbove_44  ⟨jvl (by unfold sMisX; rw [ht, nn_nI (by omega), if_pos (Int32.not_le.mp h_29)]), rfl⟩ | exact J_lret dX1_missAbove_44  ⟨jvl (by unfold sMisX; rw [ht, nn_nI (by omega), if_neg (Int32.not_lt.mpr h_29), hf2, nn_nI (by have := (sIP hI).2.2; omega)]), rfl⟩
set_option maxHeartbeats 4000000 in
set_option maxRecDepth 100000 in
theorem k_X1_doubtAbove {G : jG} {w : jWd} {b : Nat} (hb : jB b) (hI : sInv (abX w b)) {k : Nat} (hk : k < sM (abX w b)) (hw : w.1 55 k = sW (abX w b) k) (hs : w.1 56 k = sS (abX w b) k) : jKd G 1 yX1_doubtAbove cX1_doubtAbove 3 (some .long) [.ref 48, .ref b, .int (nI k)] w (some (.long (sDbt (abX w b) (w.2 48 4) (w.2 54) k))) w := by
  have h8 : k < 8 := Nat.lt_of_lt_of_le hk (sIM hI).2
  refine jK_of (own := RX1) [some (.ref 48), some (.ref b), some (.int (nI k))] pn1 rfl (Nat.le_of_ble_eq_true rfl) rfl ?_
  refine J_aload_n (pc' := 1) dX1_doubtAbove_0 rfl rfl ?_
  refine J_getR (pc' := 4) dX1_doubtAbove_1 fl_1_20 (ly_48) (l84_48) rfl rfl ?_
  refine J_iload_n (pc' := 5) dX1_doubtAbove_4 rfl rfl ?_
  refine J_iald k (pc' := 6) dX1_doubtAbove_5 (ly_55) (l84_55) rfl h8 (by decide) rfl ?_
  rw [hw]
  refine J_i2l (pc' := 7) dX1_doubtAbove_6 rfl ?_
  refine J_aload_n (pc' := 8) dX1_doubtAbove_7 rfl rfl ?_
  refine J_aload_n (pc' := 9) dX1_doubtAbove_8 rfl rfl ?_
  refine J_iload_n (pc' := 10) dX1_doubtAbove_9 rfl rfl ?_
  refine J_aload_n (pc' := 11) dX1_doubtAbove_10 rfl rfl ?_
  refine J_getR (pc' := 14) dX1_doubtAbove_11 fl_1_24 (ly_48) (l84_48) rfl rfl ?_
  refine J_iload_n (pc' := 15) dX1_doubtAbove_14 rfl rfl ?_
  refine J_iald k (pc' := 16) dX1_doubtAbove_15 (ly_56) (l84_56) rfl h8 (by decide) rfl ?_
  rw [hs]
  refine J_V3v (pc' := 19) dX1_doubtAbove_16 lk_1_79 cd_X1_missAbove (k_X1_missAbove hb hI hk) (ly_48) (l84_48) rfl rfl (jroom_of rfl) (Nat.le_of_ble_eq_true rfl) rfl ?_
  refine J_mabsL (pc' := 22) dX1_doubtAbove_19 lm_1_83 rfl rfl ?_
  refine J_lmul (pc' := 23) dX1_doubtAbove_22 rfl ?_
  exact J_lret dX1_doubtAbove_23  ⟨rfl, rfl⟩
set_option maxHeartbeats 4000000 in
set_option maxRecDepth 100000 in
theorem l_sma {G : jG} {w : jWd} {b : Nat} (hb : jB b) (hI : sInv (abX w b)) (hK : sKp (abX w b) w (sM (abX w b))) : ∀ n i : Nat, i + n = sM (abX w b) → J G (jM G 2 RX1 cX1_sumAbove 7 (some .long) (fun r' w' => r' = some (.long (sSm (abX w b) (w.2 48 4) (w.2 54) (sM (abX w b)))) ∧ w' = w)) w 5 [some (.ref 48), some (.ref b), some (.long (sSm (abX w b) (w.2 48 4) (w.2 54) i)), none, some (.int (nI i)), none, none] [] := by
  have hM : w.1 b 8 = nI (sM (abX w b)) := (sIM hI).1
  have hM8 := (sIM hI).2
  intro n
  induction n with
  | zero =>
    intro i hi
    refine J_iload (pc' := 7) dX1_sumAbove_5 rfl rfl ?_
    refine J_aload_n (pc' := 8) dX1_sumAbove_7 rfl rfl ?_
    refine J_getI (pc' := 11) dX1_sumAbove_8 fl_1_41 (lyb_0 hb) (l84b_0 hb) rfl rfl ?_
    rw [hM]
    refine J_icmp_ge 62 (pc' := 14) dX1_sumAbove_11 (by decide) rfl (fun h_11 => ?_) (fun h_11 => absurd (nI_le (by omega) (by omega)) h_11)
    refine J_lload_n (pc' := 63) dX1_sumAbove_62 rfl rfl ?_
    have ei : i = sM (abX w b) := by omega
    subst ei
    exact J_lret dX1_sumAbove_63  ⟨rfl, rfl⟩
  | succ n ih =>
    intro i hi
    have h8 : i < 8 := by omega
    refine J_iload (pc' := 7) dX1_sumAbove_5 rfl rfl ?_
    refine J_aload_n (pc' := 8) dX1_sumAbove_7 rfl rfl ?_
    refine J_getI (pc' := 11) dX1_sumAbove_8 fl_1_41 (lyb_0 hb) (l84b_0 hb) rfl rfl ?_
    rw [hM]
    refine J_icmp_ge 62 (pc' := 14) dX1_sumAbove_11 (by decide) rfl (fun h_11 => absurd h_11 (nI_ge (by omega) (by omega))) (fun h_11 => ?_)
    refine J_aload_n (pc' := 15) dX1_sumAbove_14 rfl rfl ?_
    refine J_iload (pc' := 17) dX1_sumAbove_15 rfl rfl ?_
    refine J_V1v (pc' := 20) dX1_sumAbove_17 lk_1_44 cd_X0_isOn (k_X0_isOn hb h8) (lyb_0 hb) (l84b_0 hb) rfl rfl (jroom_of rfl) (Nat.le_of_ble_eq_true rfl) rfl ?_
    refine J_if_eq 56 (pc' := 23) dX1_sumAbove_20 (by decide) rfl (fun h_20 => ?_) (fun h_20 => ?_)
    · refine J_iinc (pc' := 59) dX1_sumAbove_56 rfl (Nat.le_of_ble_eq_true rfl) (jst4 rfl rfl) rfl ?_
      refine J_goto (pc' := 0) 5 dX1_sumAbove_59 (by decide) ?_
      have e : sSm (abX w b) (w.2 48 4) (w.2 54) (i + 1) = sSm (abX w b) (w.2 48 4) (w.2 54) i := by rw [sSm, if_neg (jb_0.mp h_20), Int64.add_zero]
      have h2 := ih (i + 1) (by omega)
      rw [e, ← z1 i] at h2
      exact J_mask [true, true, true, true, true, false, false] h2
    · refine J_aload_n (pc' := 24) dX1_sumAbove_23 rfl rfl ?_
      refine J_aload_n (pc' := 25) dX1_sumAbove_24 rfl rfl ?_
      refine J_iload (pc' := 27) dX1_sumAbove_25 rfl rfl ?_
      refine J_aload_n (pc' := 28) dX1_sumAbove_27 rfl rfl ?_
      refine J_getR (pc' := 31) dX1_sumAbove_28 fl_1_24 (ly_48) (l84_48) rfl rfl ?_
      refine J_iload (pc' := 33) dX1_sumAbove_31 rfl rfl ?_
      refine J_iald i (pc' := 34) dX1_sumAbove_33 (ly_56) (l84_56) rfl h8 (by decide) rfl ?_
      rw [(hK i (by omega) (jb_n h_20)).2]
      refine J_V3v (pc' := 37) dX1_sumAbove_34 lk_1_79 cd_X1_missAbove (k_X1_missAbove hb hI (by omega)) (ly_48) (l84_48) rfl rfl (jroom_of rfl) (Nat.le_of_ble_eq_true rfl) rfl ?_
      refine J_lstore (pc' := 39) dX1_sumAbove_37 (Nat.le_of_ble_eq_true rfl) (jstL5 rfl) rfl ?_
      refine J_lload_n (pc' := 40) dX1_sumAbove_39 rfl rfl ?_
      refine J_aload_n (pc' := 41) dX1_sumAbove_40 rfl rfl ?_
      refine J_getR (pc' := 44) dX1_sumAbove_41 fl_1_20 (ly_48) (l84_48) rfl rfl ?_
      refine J_iload (pc' := 46) dX1_sumAbove_44 rfl rfl ?_
      refine J_iald i (pc' := 47) dX1_sumAbove_46 (ly_55) (l84_55) rfl h8 (by decide) rfl ?_
      rw [(hK i (by omega) (jb_n h_20)).1]
      refine J_i2l (pc' := 48) dX1_sumAbove_47 rfl ?_
      refine J_lload (pc' := 50) dX1_sumAbove_48 rfl rfl ?_
      refine J_lmul (pc' := 51) dX1_sumAbove_50 rfl ?_
      refine J_lload (pc' := 53) dX1_sumAbove_51 rfl rfl ?_
      refine J_lmul (pc' := 54) dX1_sumAbove_53 rfl ?_
      refine J_ladd (pc' := 55) dX1_sumAbove_54 rfl ?_
      refine J_lstore_n (pc' := 56) dX1_sumAbove_55 (Nat.le_of_ble_eq_true rfl) (jstL2 rfl) rfl ?_
      refine J_iinc (pc' := 59) dX1_sumAbove_56 rfl (Nat.le_of_ble_eq_true rfl) (jst4 rfl rfl) rfl ?_
      refine J_goto (pc' := 0) 5 dX1_sumAbove_59 (by decide) ?_
      have e : sSm (abX w b) (w.2 48 4) (w.2 54) (i + 1) = sSm (abX w b) (w.2 48 4) (w.2 54) i + (sW (abX w b) i).toInt64 * sMisX (abX w b) (w.2 48 4) (w.2 54) i (sS (abX w b) i) * sMisX (abX w b) (w.2 48 4) (w.2 54) i (sS (abX w b) i) := by rw [sSm, if_pos (jb_n h_20)]
      have h2 := ih (i + 1) (by omega)
      rw [e, ← z1 i] at h2
      exact J_mask [true, true, true, true, true, false, false] h2
set_option maxHeartbeats 4000000 in
set_option maxRecDepth 100000 in
theorem k_X1_sumAbove {G : jG} {w : jWd} {b : Nat} (hb : jB b) (hI : sInv (abX w b)) (hK : sKp (abX w b) w (sM (abX w b))) : jKd G 2 yX1_sumAbove cX1_sumAbove 7 (some .long) [.ref 48, .ref b] w (some (.long (sSm (abX w b) (w.2 48 4) (w.2 54) (sM (abX w b))))) w := by
  refine jK_of (own := RX1) [some (.ref 48), some (.ref b), none, none, none, none, none] pn1 rfl (Nat.le_of_ble_eq_true rfl) rfl ?_
  refine J_lconst (v := 0) (pc' := 1) dX1_sumAbove_0 (by decide) rfl ?_
  refine J_lstore_n (pc' := 2) dX1_sumAbove_1 (Nat.le_of_ble_eq_true rfl) (jstL2 rfl) rfl ?_
  refine J_iconst (v := 0) (pc' := 3) dX1_sumAbove_2 (by decide) rfl ?_
  refine J_istore (pc' := 5) dX1_sumAbove_3 (Nat.le_of_ble_eq_true rfl) (jst4 rfl rfl) rfl ?_
  exact J_mask [true, true, true, true, true, false, false] (l_sma hb hI hK (sM (abX w b)) 0 (by omega))
set_option maxHeartbeats 4000000 in
set_option maxRecDepth 100000 in
theorem l_mdt {G : jG} {w : jWd} {b : Nat} (hb : jB b) (hI : sInv (abX w b)) (hK : sKp (abX w b) w (sM (abX w b))) : ∀ n i : Nat, i + n = sM (abX w b) → J G (jM G 2 RX1 cX1_mostDoubted 8 (some .int) (fun r' w' => r' = some (.int (sMo (abX w b) (w.2 48 4) (w.2 54) (sM (abX w b))).1) ∧ w' = w)) w 9 [some (.ref 48), some (.ref b), some (.int (sMo (abX w b) (w.2 48 4) (w.2 54) i).1), some (.long (sMo (abX w b) (w.2 48 4) (w.2 54) i).2), none, some (.int (nI i)), none, none] [] := by
  have hM : w.1 b 8 = nI (sM (abX w b)) := (sIM hI).1
  have hM8 := (sIM hI).2
  intro n
  induction n with
  | zero =>
    intro i hi
    refine J_iload (pc' := 11) dX1_mostDoubted_9 rfl rfl ?_
    refine J_aload_n (pc' := 12) dX1_mostDoubted_11 rfl rfl ?_
    refine J_getI (pc' := 15) dX1_mostDoubted_12 fl_1_41 (lyb_0 hb) (l84b_0 hb) rfl rfl ?_
    rw [hM]
    refine J_icmp_ge 61 (pc' := 18) dX1_mostDoubted_15 (by decide) rfl (fun h_15 => ?_) (fun h_15 => absurd (nI_le (by omega) (by omega)) h_15)
    refine J_iload_n (pc' := 62) dX1_mostDoubted_61 rfl rfl ?_
    have ei : i = sM (abX w b) := by omega
    subst ei
    exact J_iret dX1_mostDoubted_62  ⟨rfl, rfl⟩
  | succ n ih =>
    intro i hi
    have h8 : i < 8 := by omega
    refine J_iload (pc' := 11) dX1_mostDoubted_9 rfl rfl ?_
    refine J_aload_n (pc' := 12) dX1_mostDoubted_11 rfl rfl ?_
    refine J_getI (pc' := 15) dX1_mostDoubted_12 fl_1_41 (lyb_0 hb) (l84b_0 hb) rfl rfl ?_
    rw [hM]
    refine J_icmp_ge 61 (pc' := 18) dX1_mostDoubted_15 (by decide) rfl (fun h_15 => absurd h_15 (nI_ge (by omega) (by omega))) (fun h_15 => ?_)
    refine J_aload_n (pc' := 19) dX1_mostDoubted_18 rfl rfl ?_
    refine J_iload (pc' := 21) dX1_mostDoubted_19 rfl rfl ?_
    refine J_V1v (pc' := 24) dX1_mostDoubted_21 lk_1_44 cd_X0_isOn (k_X0_isOn hb h8) (lyb_0 hb) (l84b_0 hb) rfl rfl (jroom_of rfl) (Nat.le_of_ble_eq_true rfl) rfl ?_
    refine J_if_eq 37 (pc' := 27) dX1_mostDoubted_24 (by decide) rfl (fun h_24 => ?_) (fun h_24 => ?_)
    · refine J_ldc2 (pc' := 40) dX1_mostDoubted_37 kc_1_89 rfl ?_
      refine J_lstore (pc' := 42) dX1_mostDoubted_40 (Nat.le_of_ble_eq_true rfl) (jstL6 rfl) rfl ?_
      refine J_lload (pc' := 44) dX1_mostDoubted_42 rfl rfl ?_
      refine J_lload_n (pc' := 45) dX1_mostDoubted_44 rfl rfl ?_
      refine J_lcmp (pc' := 46) dX1_mostDoubted_45 rfl ?_
      refine J_if_le 55 (pc' := 49) dX1_mostDoubted_46 (by decide) rfl (fun h_46 => ?_) (fun h_46 => ?_)
      · refine J_iinc (pc' := 58) dX1_mostDoubted_55 rfl (Nat.le_of_ble_eq_true rfl) (jst5 rfl rfl) rfl ?_
        refine J_goto (pc' := 0) 9 dX1_mostDoubted_58 (by decide) ?_
        have e : sMo (abX w b) (w.2 48 4) (w.2 54) (i + 1) = sMo (abX w b) (w.2 48 4) (w.2 54) i := by rw [sMo_s (if_neg (jb_0.mp h_24)), if_neg (lcmpP.mp h_46)]
        have h2 := ih (i + 1) (by omega)
        rw [e, ← z1 i] at h2
        exact J_mask [true, true, true, true, true, true, false, false] h2
      · refine J_lload (pc' := 51) dX1_mostDoubted_49 rfl rfl ?_
        refine J_lstore_n (pc' := 52) dX1_mostDoubted_51 (Nat.le_of_ble_eq_true rfl) (jstL3 rfl) rfl ?_
        refine J_iload (pc' := 54) dX1_mostDoubted_52 rfl rfl ?_
        refine J_istore_n (pc' := 55) dX1_mostDoubted_54 (Nat.le_of_ble_eq_true rfl) (jst2 rfl rfl) rfl ?_
        refine J_iinc (pc' := 58) dX1_mostDoubted_55 rfl (Nat.le_of_ble_eq_true rfl) (jst5 rfl rfl) rfl ?_
        refine J_goto (pc' := 0) 9 dX1_mostDoubted_58 (by decide) ?_
        have e : sMo (abX w b) (w.2 48 4) (w.2 54) (i + 1) = (nI i, -1) := by rw [sMo_s (if_neg (jb_0.mp h_24)), if_pos (lcmpQ h_46)]
        have h2 := ih (i + 1) (by omega)
        rw [e, ← z1 i] at h2
        exact J_mask [true, true, true, true, true, true, false, false] h2
    · refine J_aload_n (pc' := 28) dX1_mostDoubted_27 rfl rfl ?_
      refine J_aload_n (pc' := 29) dX1_mostDoubted_28 rfl rfl ?_
      refine J_iload (pc' := 31) dX1_mostDoubted_29 rfl rfl ?_
      refine J_V2v (pc' := 34) dX1_mostDoubted_31 lk_1_91 cd_X1_doubtAbove (k_X1_doubtAbove hb hI (by omega) (hK i (by omega) (jb_n h_24)).1 (hK i (by omega) (jb_n h_24)).2) (ly_48) (l84_48) rfl rfl (jroom_of rfl) (Nat.le_of_ble_eq_true rfl) rfl ?_
      refine J_goto (pc' := 0) 40 dX1_mostDoubted_34 (by decide) ?_
      refine J_lstore (pc' := 42) dX1_mostDoubted_40 (Nat.le_of_ble_eq_true rfl) (jstL6 rfl) rfl ?_
      refine J_lload (pc' := 44) dX1_mostDoubted_42 rfl rfl ?_
      refine J_lload_n (pc' := 45) dX1_mostDoubted_44 rfl rfl ?_
      refine J_lcmp (pc' := 46) dX1_mostDoubted_45 rfl ?_
      refine J_if_le 55 (pc' := 49) dX1_mostDoubted_46 (by decide) rfl (fun h_46 => ?_) (fun h_46 => ?_)
      · refine J_iinc (pc' := 58) dX1_mostDoubted_55 rfl (Nat.le_of_ble_eq_true rfl) (jst5 rfl rfl) rfl ?_
        refine J_goto (pc' := 0) 9 dX1_mostDoubted_58 (by decide) ?_
        have e : sMo (abX w b) (w.2 48 4) (w.2 54) (i + 1) = sMo (abX w b) (w.2 48 4) (w.2 54) i := by rw [sMo_s (if_pos (jb_n h_24)), if_neg (lcmpP.mp h_46)]
        have h2 := ih (i + 1) (by omega)
        rw [e, ← z1 i] at h2
        exact J_mask [true, true, true, true, true, true, false, false] h2
      · refine J_lload (pc' := 51) dX1_mostDoubted_49 rfl rfl ?_
        refine J_lstore_n (pc' := 52) dX1_mostDoubted_51 (Nat.le_of_ble_eq_true rfl) (jstL3 rfl) rfl ?_
        refine J_iload (pc' := 54) dX1_mostDoubted_52 rfl rfl ?_
        refine J_istore_n (pc' := 55) dX1_mostDoubted_54 (Nat.le_of_ble_eq_true rfl) (jst2 rfl rfl) rfl ?_
        refine J_iinc (pc' := 58) dX1_mostDoubted_55 rfl (Nat.le_of_ble_eq_true rfl) (jst5 rfl rfl) rfl ?_
        refine J_goto (pc' := 0) 9 dX1_mostDoubted_58 (by decide) ?_
        have e : sMo (abX w b) (w.2 48 4) (w.2 54) (i + 1) = (nI i, sDbt (abX w b) (w.2 48 4) (w.2 54) i) := by rw [sMo_s (if_pos (jb_n h_24)), if_pos (lcmpQ h_46)]
        have h2 := ih (i + 1) (by omega)
        rw [e, ← z1 i] at h2
        exact J_mask [true, true, true, true, true, true, false, false] h2
set_option maxHeartbeats 4000000 in
set_option maxRecDepth 100000 in
theorem k_X1_mostDoubted {G : jG} {w : jWd} {b : Nat} (hb : jB b) (hI : sInv (abX w b)) (hK : sKp (abX w b) w (sM (abX w b))) : jKd G 2 yX1_mostDoubted cX1_mostDoubted 8 (some .int) [.ref 48, .ref b] w (some (.int (sMo (abX w b) (w.2 48 4) (w.2 54) (sM (abX w b))).1)) w := by
  refine jK_of (own := RX1) [some (.ref 48), some (.ref b), none, none, none, none, none, none] pn1 rfl (Nat.le_of_ble_eq_true rfl) rfl ?_
  refine J_iconst (v := -1) (pc' := 1) dX1_mostDoubted_0 (by decide) rfl ?_
  refine J_istore_n (pc' := 2) dX1_mostDoubted_1 (Nat.le_of_ble_eq_true rfl) (jst2 rfl rfl) rfl ?_
  refine J_ldc2 (pc' := 5) dX1_mostDoubted_2 kc_1_89 rfl ?_
  refine J_lstore_n (pc' := 6) dX1_mostDoubted_5 (Nat.le_of_ble_eq_true rfl) (jstL3 rfl) rfl ?_
  refine J_iconst (v := 0) (pc' := 7) dX1_mostDoubted_6 (by decide) rfl ?_
  refine J_istore (pc' := 9) dX1_mostDoubted_7 (Nat.le_of_ble_eq_true rfl) (jst5 rfl rfl) rfl ?_
  exact J_mask [true, true, true, true, true, true, false, false] (l_mdt hb hI hK (sM (abX w b)) 0 (by omega))
/-- the numbers as they are kept of the marks that are on -/
def sKW (σ : sg) (A : Nat → Nat → Int32) : Nat → Nat → Nat → Int32
  | 0 => A
  | n + 1 => if σ 5 n = 1 then (jset (jset (sKW σ A n, fun _ _ => 0) 55 n (sW σ n)) 56 n (sS σ n)).1 else sKW σ A n
theorem sKW_off (σ : sg) (A : Nat → Nat → Int32) {a : Nat} (h1 : a ≠ 55) (h2 : a ≠ 56) : ∀ n, sKW σ A n a = A a
  | 0 => rfl
  | n + 1 => by
    rw [sKW]
    by_cases h : σ 5 n = 1
    · rw [if_pos h, jset_off h2, jset_off h1]; exact sKW_off σ A h1 h2 n
    · rw [if_neg h]; exact sKW_off σ A h1 h2 n
theorem sKW_kp (σ : sg) (A : Nat → Nat → Int32) : ∀ n k, k < n → σ 5 k = 1 → sKW σ A n 55 k = sW σ k ∧ sKW σ A n 56 k = sS σ k
  | 0, _, h, _ => absurd h (by omega)
  | n + 1, k, h, ho => by
    rw [sKW]
    by_cases e : k = n
    · subst e
      rw [if_pos ho]
      refine ⟨?_, ?_⟩
      · rw [jset_off (by decide), jset_1, if_pos rfl, if_pos rfl]
      · rw [jset_1, if_pos rfl, if_pos rfl]
    · have h2 := sKW_kp σ A n k (by omega) ho
      by_cases h3 : σ 5 n = 1
      · rw [if_pos h3]
        refine ⟨?_, ?_⟩
        · rw [jset_off (by decide), jset_1, if_pos rfl, if_neg e]; exact h2.1
        · rw [jset_1, if_pos rfl, if_neg e, jset_off (by decide)]; exact h2.2
      · rw [if_neg h3]; exact h2
/-- the world behind find -/
def sFw (σ : sg) (w : jWd) : jWd := if sTied σ (sSet σ) = 2 ^ sP σ - 1 then (sKW σ w.1 (sM σ), sFnd σ w.2) else w
theorem abX_KW {w : jWd} {b : Nat} {σ : sg} {M : Nat → Nat → Int64} (hb : jB b) (n : Nat) : abX (sKW σ w.1 n, M) b = abX w b := abX_congr (fun x h1 h2 => sKW_off σ w.1 (by rcases hb with rfl | rfl | rfl <;> omega) (by rcases hb with rfl | rfl | rfl <;> omega) n)
theorem xB_KW {w : jWd} {b : Nat} {σ : sg} {M : Nat → Nat → Int64} (hb : jB b) (n : Nat) (h : xB w b) : xB (sKW σ w.1 n, M) b := xB_congr (fun x h1 h2 => sKW_off σ w.1 (by rcases hb with rfl | rfl | rfl <;> omega) (by rcases hb with rfl | rfl | rfl <;> omega) n) h
set_option maxHeartbeats 4000000 in
set_option maxRecDepth 100000 in
theorem l_fz {G : jG} {Q : Option Value → jWd → Prop} {w1 : Nat → Nat → Int32} {M : Nat → Nat → Int64} {b i : Nat} (hi4 : i < 4) (hk : J G (jM G 4 RX1 cX1_find 4 (some .boolean) (Q)) (w1, sZR M i 5) 42 [some (.ref 48), some (.ref b), some (.int (nI i)), none] []) : ∀ n j : Nat, j + n = 5 → J G (jM G 4 RX1 cX1_find 4 (some .boolean) (Q)) (w1, sZR M i j) 22 [some (.ref 48), some (.ref b), some (.int (nI i)), some (.int (nI j))] [] := by
  intro n
  induction n with
  | zero =>
    intro j hj
    refine J_iload_n (pc' := 23) dX1_find_22 rfl rfl ?_
    refine J_iconst (v := 4) (pc' := 24) dX1_find_23 (by decide) rfl ?_
    refine J_icmp_gt 42 (pc' := 27) dX1_find_24 (by decide) rfl (fun h_24 => ?_) (fun h_24 => absurd (by rw [nIc_4]; exact nI_lt (by omega) (by omega)) h_24)
    have ej : j = 5 := by omega
    subst ej
    exact J_mask [true, true, true, false] hk
  | succ n ih =>
    intro j hj
    refine J_iload_n (pc' := 23) dX1_find_22 rfl rfl ?_
    refine J_iconst (v := 4) (pc' := 24) dX1_find_23 (by decide) rfl ?_
    refine J_icmp_gt 42 (pc' := 27) dX1_find_24 (by decide) rfl (fun h_24 => absurd h_24 (by rw [nIc_4]; exact nI_nlt (by omega) (by omega))) (fun h_24 => ?_)
    refine J_aload_n (pc' := 28) dX1_find_27 rfl rfl ?_
    refine J_getR (pc' := 31) dX1_find_28 fl_1_11 (ly_48) (l84_48) rfl rfl ?_
    refine J_iload_n (pc' := 32) dX1_find_31 rfl rfl ?_
    refine J_aald i (pc' := 33) dX1_find_32 (ly_49) (Or.inl rfl) (l84_49) rfl (row50 hi4) (by omega) (by decide) rfl ?_
    refine J_iload_n (pc' := 34) dX1_find_33 rfl rfl ?_
    refine J_lconst (v := 0) (pc' := 35) dX1_find_34 (by decide) rfl ?_
    refine J_last j (pc' := 36) dX1_find_35 (ly50 hi4) (l8450 hi4) rfl (by omega) (by decide) rfl ?_
    refine J_iinc (pc' := 39) dX1_find_36 rfl (Nat.le_of_ble_eq_true rfl) (jst3 rfl rfl) rfl ?_
    refine J_goto (pc' := 0) 22 dX1_find_39 (by decide) ?_
    have h2 := ih (j + 1) (by omega)
    rw [← sZR_s (M := M) (i := i) (n := j), ← z1 j] at h2
    exact h2
set_option maxHeartbeats 4000000 in
set_option maxRecDepth 100000 in
theorem l_fzo {G : jG} {Q : Option Value → jWd → Prop} {w1 : Nat → Nat → Int32} {M : Nat → Nat → Int64} {b : Nat} (hk : J G (jM G 4 RX1 cX1_find 4 (some .boolean) (Q)) (w1, sZer M) 48 [some (.ref 48), some (.ref b), none, none] []) : ∀ n i : Nat, i + n = 4 → J G (jM G 4 RX1 cX1_find 4 (some .boolean) (Q)) (w1, sZA M i) 15 [some (.ref 48), some (.ref b), some (.int (nI i)), none] [] := by
  intro n
  induction n with
  | zero =>
    intro i hi
    refine J_iload_n (pc' := 16) dX1_find_15 rfl rfl ?_
    refine J_iconst (v := 4) (pc' := 17) dX1_find_16 (by decide) rfl ?_
    refine J_icmp_ge 48 (pc' := 20) dX1_find_17 (by decide) rfl (fun h_17 => ?_) (fun h_17 => absurd (by rw [nIc_4]; exact nI_le (by omega) (by omega)) h_17)
    have ei : i = 4 := by omega
    subst ei
    exact J_mask [true, true, false, false] hk
  | succ n ih =>
    intro i hi
    have hi4 : i < 4 := by omega
    refine J_iload_n (pc' := 16) dX1_find_15 rfl rfl ?_
    refine J_iconst (v := 4) (pc' := 17) dX1_find_16 (by decide) rfl ?_
    refine J_icmp_ge 48 (pc' := 20) dX1_find_17 (by decide) rfl (fun h_17 => absurd h_17 (by rw [nIc_4]; exact nI_ge (by omega) (by omega))) (fun h_17 => ?_)
    refine J_iconst (v := 0) (pc' := 21) dX1_find_20 (by decide) rfl ?_
    refine J_istore_n (pc' := 22) dX1_find_21 (Nat.le_of_ble_eq_true rfl) (jst3 rfl rfl) rfl ?_
    have h3 := fun hk => l_fz (G := G) (Q := Q) (w1 := w1) (M := sZA M i) (b := b) hi4 hk 5 0 (by omega)
    rw [sZR_0] at h3
    refine h3 ?_
    refine J_iinc (pc' := 45) dX1_find_42 rfl (Nat.le_of_ble_eq_true rfl) (jst2 rfl rfl) rfl ?_
    refine J_goto (pc' := 0) 15 dX1_find_45 (by decide) ?_
    have h2 := ih (i + 1) (by omega)
    rw [sZA, ← z1 i] at h2
    exact h2
set_option maxHeartbeats 4000000 in
set_option maxRecDepth 100000 in
theorem l_fm {G : jG} {w0 : jWd} {b : Nat} {σ : sg} (hb : jB b) (hσ : abX w0 b = σ) (hI0 : sInv σ) (hB0 : xB w0 b) (hH : sTied σ (sSet σ) = 2 ^ sP σ - 1) : ∀ n i : Nat, i + n = sM σ → ∀ w : jWd, w.1 = sKW σ w0.1 i → w.2 = sEntN σ (sZer w0.2) i → J G (jM G 4 RX1 cX1_find 4 (some .boolean) (fun r' w' => r' = some (.int (jb (sTied σ (sSet σ) = 2 ^ sP σ - 1))) ∧ w' = sFw σ w0)) w 50 [some (.ref 48), some (.ref b), some (.int (nI i)), none] [] := by
  intro n
  induction n with
  | zero =>
    intro i hi w h1 h2
    have hA : abX w b = σ := by rw [show w = (sKW σ w0.1 i, w.2) from by rw [← h1], abX_KW hb i, hσ]
    have hB : xB w b := by rw [show w = (sKW σ w0.1 i, w.2) from by rw [← h1]]; exact xB_KW hb i hB0
    have hI : sInv (abX w b) := by rw [hA]; exact hI0
    have hM : w.1 b 8 = nI (sM σ) := by rw [← hA]; exact (sIM hI).1
    have hM8 := (sIM hI0).2
    have hP : w.1 b 10 = nI (sP σ) := by rw [← hA]; exact (sIP hI).1
    have hP4 := (sIP hI0).2
    refine J_iload_n (pc' := 51) dX1_find_50 rfl rfl ?_
    refine J_aload_n (pc' := 52) dX1_find_51 rfl rfl ?_
    refine J_getI (pc' := 55) dX1_find_52 fl_1_41 (lyb_0 hb) (l84b_0 hb) rfl rfl ?_
    rw [hM]
    refine J_icmp_ge 122 (pc' := 58) dX1_find_55 (by decide) rfl (fun h_55 => ?_) (fun h_55 => absurd (nI_le (by omega) (by omega)) h_55)
    refine J_aload_n (pc' := 123) dX1_find_122 rfl rfl ?_
    refine J_aload_n (pc' := 124) dX1_find_123 rfl rfl ?_
    refine J_getI (pc' := 127) dX1_find_124 fl_1_64 (lyb_0 hb) (l84b_0 hb) rfl rfl ?_
    rw [hP]
    refine J_V10 (pc' := 130) dX1_find_127 lk_1_67 cd_X1_solve (k_X1_solve (by omega)) (ly_48) (l84_48) rfl rfl (jroom_of rfl) (Nat.le_of_ble_eq_true rfl) rfl ?_
    refine J_iconst (v := 1) (pc' := 131) dX1_find_130 (by decide) rfl ?_
    have ei : i = sM σ := by omega
    subst ei
    exact J_zret dX1_find_131 (Or.inr rfl) ⟨jv (jb_t hH).symm, by unfold sFw; rw [if_pos hH, h1, h2]; rfl⟩
  | succ n ih =>
    intro i hi w h1 h2
    have hA : abX w b = σ := by rw [show w = (sKW σ w0.1 i, w.2) from by rw [← h1], abX_KW hb i, hσ]
    have hB : xB w b := by rw [show w = (sKW σ w0.1 i, w.2) from by rw [← h1]]; exact xB_KW hb i hB0
    have hI : sInv (abX w b) := by rw [hA]; exact hI0
    have hM : w.1 b 8 = nI (sM σ) := by rw [← hA]; exact (sIM hI).1
    have hM8 := (sIM hI0).2
    have hP : w.1 b 10 = nI (sP σ) := by rw [← hA]; exact (sIP hI).1
    have hP4 := (sIP hI0).2
    have h8 : i < 8 := by omega
    obtain ⟨⟨t, ht4, ht, -⟩, hff, -⟩ := sTf hI0 (k := i) (by omega)
    have e2 : w.1 (b + 3) i = σ 2 i := by rw [← hA]; exact (ax2 h8).symm
    have e3 : w.1 (b + 4) i = nI t := by rw [← ht, ← hA]; exact (ax3 h8).symm
    have hb1 := jb_rng hb
    refine J_iload_n (pc' := 51) dX1_find_50 rfl rfl ?_
    refine J_aload_n (pc' := 52) dX1_find_51 rfl rfl ?_
    refine J_getI (pc' := 55) dX1_find_52 fl_1_41 (lyb_0 hb) (l84b_0 hb) rfl rfl ?_
    rw [hM]
    refine J_icmp_ge 122 (pc' := 58) dX1_find_55 (by decide) rfl (fun h_55 => absurd h_55 (nI_ge (by omega) (by omega))) (fun h_55 => ?_)
    refine J_aload_n (pc' := 59) dX1_find_58 rfl rfl ?_
    refine J_iload_n (pc' := 60) dX1_find_59 rfl rfl ?_
    refine J_V1v (pc' := 63) dX1_find_60 lk_1_44 cd_X0_isOn (k_X0_isOn hb h8) (lyb_0 hb) (l84b_0 hb) rfl rfl (jroom_of rfl) (Nat.le_of_ble_eq_true rfl) rfl ?_
    rw [hA]
    refine J_if_eq 116 (pc' := 66) dX1_find_63 (by decide) rfl (fun h_63 => ?_) (fun h_63 => ?_)
    · refine J_iinc (pc' := 119) dX1_find_116 rfl (Nat.le_of_ble_eq_true rfl) (jst2 rfl rfl) rfl ?_
      refine J_goto (pc' := 0) 50 dX1_find_119 (by decide) ?_
      rw [z1 i]
      refine ih (i + 1) (by omega) w ?_ ?_
      · rw [sKW, if_neg (jb_0.mp h_63)]; exact h1
      · rw [sEntN, if_neg (jb_0.mp h_63)]; exact h2
    · refine J_aload_n (pc' := 67) dX1_find_66 rfl rfl ?_
      refine J_getR (pc' := 70) dX1_find_67 fl_1_20 (ly_48) (l84_48) rfl rfl ?_
      refine J_iload_n (pc' := 71) dX1_find_70 rfl rfl ?_
      refine J_aload_n (pc' := 72) dX1_find_71 rfl rfl ?_
      refine J_iload_n (pc' := 73) dX1_find_72 rfl rfl ?_
      refine J_V1v (pc' := 76) dX1_find_73 lk_1_47 cd_X0_weightOf (k_X0_weightOf hb hI hB (by rw [hA]; omega)) (lyb_0 hb) (l84b_0 hb) rfl rfl (jroom_of rfl) (Nat.le_of_ble_eq_true rfl) rfl ?_
      rw [hA]
      refine J_iast i (pc' := 77) dX1_find_76 (ly_55) (l84_55) rfl h8 (by decide) rfl ?_
      refine J_aload_n (pc' := 78) dX1_find_77 rfl rfl ?_
      refine J_getR (pc' := 81) dX1_find_78 fl_1_24 (ly_48) (l84_48) rfl rfl ?_
      refine J_iload_n (pc' := 82) dX1_find_81 rfl rfl ?_
      refine J_aload_n (pc' := 83) dX1_find_82 rfl rfl ?_
      refine J_iload_n (pc' := 84) dX1_find_83 rfl rfl ?_
      refine J_V1v (pc' := 87) dX1_find_84 lk_1_51 cd_X0_saidBy (k_X0_saidBy hb (by rw [ab_off hb (by omega)]; exact hI) (xb_off hb (by omega) hB) (by rw [ab_off hb (by omega), hA]; omega)) (lyb_0 hb) (l84b_0 hb) rfl rfl (jroom_of rfl) (Nat.le_of_ble_eq_true rfl) rfl ?_
      rw [ab_off hb (by omega), hA]
      refine J_iast i (pc' := 88) dX1_find_87 (ly_56) (l84_56) rfl h8 (by decide) rfl ?_
      refine J_aload_n (pc' := 89) dX1_find_88 rfl rfl ?_
      refine J_aload_n (pc' := 90) dX1_find_89 rfl rfl ?_
      refine J_getR (pc' := 93) dX1_find_90 fl_1_54 (lyb_0 hb) (l84b_0 hb) rfl rfl ?_
      refine J_iload_n (pc' := 94) dX1_find_93 rfl rfl ?_
      refine J_iald i (pc' := 95) dX1_find_94 (lyb_3 hb) (l84b_3 hb) rfl h8 (by decide) rfl ?_
      rw [jset_off (by omega), jset_off (by omega), e2]
      refine J_aload_n (pc' := 96) dX1_find_95 rfl rfl ?_
      refine J_getR (pc' := 99) dX1_find_96 fl_1_57 (lyb_0 hb) (l84b_0 hb) rfl rfl ?_
      refine J_iload_n (pc' := 100) dX1_find_99 rfl rfl ?_
      refine J_iald i (pc' := 101) dX1_find_100 (lyb_4 hb) (l84b_4 hb) rfl h8 (by decide) rfl ?_
      rw [jset_off (by omega), jset_off (by omega), e3]
      refine J_aload_n (pc' := 102) dX1_find_101 rfl rfl ?_
      refine J_getR (pc' := 105) dX1_find_102 fl_1_20 (ly_48) (l84_48) rfl rfl ?_
      refine J_iload_n (pc' := 106) dX1_find_105 rfl rfl ?_
      refine J_iald i (pc' := 107) dX1_find_106 (ly_55) (l84_55) rfl h8 (by decide) rfl ?_
      rw [jset_off (by omega), jset_1, if_pos rfl, if_pos rfl]
      refine J_aload_n (pc' := 108) dX1_find_107 rfl rfl ?_
      refine J_getR (pc' := 111) dX1_find_108 fl_1_24 (ly_48) (l84_48) rfl rfl ?_
      refine J_iload_n (pc' := 112) dX1_find_111 rfl rfl ?_
      refine J_iald i (pc' := 113) dX1_find_112 (ly_56) (l84_56) rfl h8 (by decide) rfl ?_
      rw [jset_1, if_pos rfl, if_pos rfl]
      refine J_V40 (pc' := 116) dX1_find_113 lk_1_60 cd_X1_enter (k_X1_enter ht4 hff) (ly_48) (l84_48) rfl rfl (jroom_of rfl) (Nat.le_of_ble_eq_true rfl) rfl ?_
      refine J_iinc (pc' := 119) dX1_find_116 rfl (Nat.le_of_ble_eq_true rfl) (jst2 rfl rfl) rfl ?_
      refine J_goto (pc' := 0) 50 dX1_find_119 (by decide) ?_
      rw [z1 i]
      refine ih (i + 1) (by omega) _ ?_ ?_
      · rw [sKW, if_pos (jb_n h_63), ← h1]; rfl
      · rw [sEntN, if_pos (jb_n h_63), ht, nn_nI (by omega), ← h2]; rfl
set_option maxHeartbeats 4000000 in
set_option maxRecDepth 100000 in
theorem k_X1_find {G : jG} {w : jWd} {b : Nat} (hb : jB b) (hI : sInv (abX w b)) (hB : xB w b) : jKd G 4 yX1_find cX1_find 4 (some .boolean) [.ref 48, .ref b] w (some (.int (jb (sTied (abX w b) (sSet (abX w b)) = 2 ^ sP (abX w b) - 1)))) (sFw (abX w b) w) := by
  obtain ⟨eS, hS⟩ := xB_on hI hB
  refine jK_of (own := RX1) [some (.ref 48), some (.ref b), none, none] pn1 rfl (Nat.le_of_ble_eq_true rfl) rfl ?_
  refine J_aload_n (pc' := 1) dX1_find_0 rfl rfl ?_
  refine J_aload_n (pc' := 2) dX1_find_1 rfl rfl ?_
  refine J_getI (pc' := 5) dX1_find_2 fl_1_31 (lyb_0 hb) (l84b_0 hb) rfl rfl ?_
  rw [eS]
  refine J_V1v (pc' := 8) dX1_find_5 lk_1_37 cd_X0_holds (k_X0_holds hb hI hS) (lyb_0 hb) (l84b_0 hb) rfl rfl (jroom_of rfl) (Nat.le_of_ble_eq_true rfl) rfl ?_
  refine J_if_ne 13 (pc' := 11) dX1_find_8 (by decide) rfl (fun h_8 => ?_) (fun h_8 => ?_)
  · refine J_iconst (v := 0) (pc' := 14) dX1_find_13 (by decide) rfl ?_
    refine J_istore_n (pc' := 15) dX1_find_14 (Nat.le_of_ble_eq_true rfl) (jst2 rfl rfl) rfl ?_
    have hH : sTied (abX w b) (sSet (abX w b)) = 2 ^ sP (abX w b) - 1 := jb_n (by first | exact h_8 | exact Decidable.not_not.mp h_8)
    refine l_fzo (w1 := w.1) (M := w.2) ?_ 4 0 (by omega)
    refine J_iconst (v := 0) (pc' := 49) dX1_find_48 (by decide) rfl ?_
    refine J_istore_n (pc' := 50) dX1_find_49 (Nat.le_of_ble_eq_true rfl) (jst2 rfl rfl) rfl ?_
    exact J_mask [true, true, true, false] (l_fm hb rfl hI hB hH (sM (abX w b)) 0 (by omega) (w.1, sZer w.2) rfl rfl)
  · refine J_iconst (v := 0) (pc' := 12) dX1_find_11 (by decide) rfl ?_
    have hH : ¬ sTied (abX w b) (sSet (abX w b)) = 2 ^ sP (abX w b) - 1 := jb_0.mp (by first | exact h_8 | exact Decidable.not_not.mp h_8)
    exact J_zret dX1_find_12 (Or.inl rfl) ⟨jv (jb_f hH).symm, by unfold sFw; rw [if_neg hH]⟩
