/-! ===== the tape is fed ===== -/
/-! ===== the tape is fed ===== -/
/-- the i-th byte of a number -/
def sByt (x : Int64) (i : Nat) : Int32 := ((x.toUInt64 >>> ((8 * nI i : Int32).toInt64.toUInt64 &&& Int64.toUInt64 63)).toInt64).toInt32 &&& 255
def sFeed (σ : sg) (x : Int64) : Nat → sg
  | 0 => σ
  | i + 1 => sg1 (sg1 (sFeed σ x i) 7 (nn (sFeed σ x i 6 6)) (sByt x i)) 6 6 (sFeed σ x i 6 6 + 1)
theorem byt_rng (y : Int32) : 0 ≤ (y &&& 255).toInt ∧ (y &&& 255).toInt ≤ 255 := by
  have h : (y &&& 255).toBitVec.toNat ≤ 255 := by
    rw [show (y &&& 255).toBitVec = y.toBitVec &&& 255#32 from rfl, BitVec.toNat_and]
    exact Nat.and_le_right
  have e : (y &&& 255).toInt = ((y &&& 255).toBitVec.toNat : Int) := by
    rw [show (y &&& 255).toInt = (y &&& 255).toBitVec.toInt from rfl, BitVec.toInt_eq_toNat_of_lt (by omega)]
  omega
theorem inv_feed {σ : sg} (hI : sInv σ) (x : Int64) {f : Nat} (hf : σ 6 6 = nI f) : ∀ n, f + n ≤ 60 → sInv (sFeed σ x n) ∧ sFeed σ x n 6 6 = nI (f + n)
  | 0, _ => ⟨hI, hf⟩
  | n + 1, h => by
    obtain ⟨h1, h2⟩ := inv_feed hI x hf n (by omega)
    have e : sFeed σ x n 6 6 + 1 = nI (f + n + 1) := by rw [h2, jadd rfl nIc_1]
    rw [sFeed, e]
    exact ⟨inv_66 (inv_7 h1 (byt_rng _)) ⟨_, rfl, by omega⟩, by rw [sg1_at]; rfl⟩
set_option maxHeartbeats 4000000 in
set_option maxRecDepth 100000 in
theorem l_fed {G : jG} {Q : Option Value → jWd → Prop} {w0 : jWd} {σ : sg} (hI0 : sInv σ) {f : Nat} (hf : σ 6 6 = nI f) {N : Nat} (hN : f + N ≤ 60) {x : Int64} (hQ : ∀ w, abX w 1 = sFeed σ x N → xB w 1 → frB 1 w0 w → Q (some (.int (sFeed σ x N 6 6))) w) : ∀ n i : Nat, i + n = N → ∀ w, abX w 1 = sFeed σ x i → xB w 1 → frB 1 w0 w → J G (jM G 3 RX6 cX6_feed 5 (some .int) (Q)) w 39 [some (.ref 0), some (.long x), none, some (.int (nI N)), some (.int (nI i))] [] := by
  intro n
  induction n with
  | zero =>
    intro i hi w h1 h2 h3
    have ei : i = N := by omega
    subst ei
    refine J_iload (pc' := 41) dX6_feed_39 rfl rfl ?_
    refine J_iload_n (pc' := 42) dX6_feed_41 rfl rfl ?_
    refine J_icmp_ge 91 (pc' := 45) dX6_feed_42 (by decide) rfl (fun h_42 => ?_) (fun h_42 => absurd (nI_le (by omega) (by omega)) h_42)
    refine J_aload_n (pc' := 92) dX6_feed_91 rfl rfl ?_
    refine J_getR (pc' := 95) dX6_feed_92 fl_6_12 (ly_0) (l84_0) rfl rfl ?_
    refine J_getI (pc' := 98) dX6_feed_95 fl_6_130 (ly_1) (l84_1) rfl rfl ?_
    rw [show w.1 1 15 = sFeed σ x i 6 6 from by rw [← h1]; rfl]
    exact J_iret dX6_feed_98  (hQ w h1 h2 h3)
  | succ n ih =>
    intro i hi w h1 h2 h3
    have e6 : sFeed σ x i 6 6 = nI (f + i) := (inv_feed hI0 x hf i (by omega)).2
    have ew : w.1 1 15 = nI (f + i) := by rw [← e6, ← h1]; rfl
    have h60 : f + i < 60 := by omega
    refine J_iload (pc' := 41) dX6_feed_39 rfl rfl ?_
    refine J_iload_n (pc' := 42) dX6_feed_41 rfl rfl ?_
    refine J_icmp_ge 91 (pc' := 45) dX6_feed_42 (by decide) rfl (fun h_42 => absurd h_42 (nI_ge (by omega) (by omega))) (fun h_42 => ?_)
    refine J_aload_n (pc' := 46) dX6_feed_45 rfl rfl ?_
    refine J_getR (pc' := 49) dX6_feed_46 fl_6_12 (ly_0) (l84_0) rfl rfl ?_
    refine J_getR (pc' := 52) dX6_feed_49 fl_6_24 (ly_1) (l84_1) rfl rfl ?_
    refine J_aload_n (pc' := 53) dX6_feed_52 rfl rfl ?_
    refine J_getR (pc' := 56) dX6_feed_53 fl_6_12 (ly_0) (l84_0) rfl rfl ?_
    refine J_getI (pc' := 59) dX6_feed_56 fl_6_130 (ly_1) (l84_1) rfl rfl ?_
    rw [ew]
    refine J_lload_n (pc' := 60) dX6_feed_59 rfl rfl ?_
    refine J_bipush (v := 8) (pc' := 62) dX6_feed_60 (by decide) rfl ?_
    refine J_iload (pc' := 64) dX6_feed_62 rfl rfl ?_
    refine J_imul (pc' := 65) dX6_feed_64 rfl ?_
    refine J_lushr (pc' := 66) dX6_feed_65 rfl ?_
    refine J_l2i (pc' := 67) dX6_feed_66 rfl ?_
    refine J_sipush (v := 255) (pc' := 70) dX6_feed_67 (by decide) rfl ?_
    refine J_iand (pc' := 71) dX6_feed_70 rfl ?_
    refine J_iast (f + i) (pc' := 72) dX6_feed_71 (ly_7) (l84_7) rfl h60 (by decide) rfl ?_
    refine J_aload_n (pc' := 73) dX6_feed_72 rfl rfl ?_
    refine J_getR (pc' := 76) dX6_feed_73 fl_6_12 (ly_0) (l84_0) rfl rfl ?_
    refine J_dup (pc' := 77) dX6_feed_76 rfl rfl ?_
    refine J_getI (pc' := 80) dX6_feed_77 fl_6_130 (ly_1) (l84_1) rfl rfl ?_
    refine J_iconst (v := 1) (pc' := 81) dX6_feed_80 (by decide) rfl ?_
    refine J_iadd (pc' := 82) dX6_feed_81 rfl ?_
    refine J_putI (pc' := 85) dX6_feed_82 fp_6_130 (ly_1) (l84_1) rfl rfl ?_
    refine J_iinc (pc' := 88) dX6_feed_85 rfl (Nat.le_of_ble_eq_true rfl) (jst4 rfl rfl) rfl ?_
    refine J_goto (pc' := 0) 39 dX6_feed_88 (by decide) ?_
    have a7 : abX (jset w (1 + 6) (f + i) (sByt x i)) 1 = sg1 (sFeed σ x i) 7 (f + i) (sByt x i) := by rw [abX_s7 h60, h1]
    have b7 : xB (jset w (1 + 6) (f + i) (sByt x i)) 1 := xB_set h2 (Or.inl (by omega)) (Or.inl (by omega)) (Or.inl (by omega))
    have f7 : frB 1 w0 (jset w (1 + 6) (f + i) (sByt x i)) := h3.set (by omega) (by omega)
    have r7 : (jset w (1 + 6) (f + i) (sByt x i)).1 1 15 = nI (f + i) := by rw [jset_off (by omega)]; exact ew
    have h4 := ih (i + 1) (by omega) (jset (jset w (1 + 6) (f + i) (sByt x i)) 1 15 (nI (f + i) + 1)) (by rw [abX_f15, a7, sFeed, e6, nn_nI (by omega)]) (xB_set b7 (Or.inr (by decide)) (Or.inl (by omega)) (Or.inl (by omega))) (f7.set (by omega) (by omega))
    rw [← z1 i, ← r7] at h4
    exact h4
def sq_feed (s k r : sg) (x : Int64) (n : Int32) : sQI := if 1 ≤ n ∧ n ≤ 8 then (if n ≤ 60 - s 6 6 then (sFeed s x (nn n) 6 6, sFeed s x (nn n), k, r) else (sErr 4, s, k, sEr r 4)) else (sErr 1, s, k, sEr r 1)
set_option maxHeartbeats 4000000 in
set_option maxRecDepth 100000 in
theorem a_X6_feed {G : jG} {w : jWd} (hX : XInv w) (hI : sInv (abX w 1)) {x : Int64} {n : Int32} : jKp G 3 yX6_feed cX6_feed 5 (some .int) [.ref 0, .long x, .int n] w (some (.int (sq_feed (abX w 1) (abX w 16) (restX w) x n).1)) (fun w' => BQ w w' (sq_feed (abX w 1) (abX w 16) (restX w) x n).2) := by
  obtain ⟨f, hf, hf60⟩ : ∃ n, w.1 1 15 = nI n ∧ n ≤ 60 := hI.2.2.2.2.2.1
  refine jK_of (own := RX6) [some (.ref 0), some (.long x), none, some (.int n), none] pn6 rfl (Nat.le_of_ble_eq_true rfl) rfl ?_
  refine J_iload_n (pc' := 1) dX6_feed_0 rfl rfl ?_
  refine J_iconst (v := 1) (pc' := 2) dX6_feed_1 (by decide) rfl ?_
  refine J_bipush (v := 8) (pc' := 4) dX6_feed_2 (by decide) rfl ?_
  refine J_S3v (pc' := 7) dX6_feed_4 lk_6_108 cd_X6_isWithin (k_X6_isWithin) (jroom_of rfl) (Nat.le_of_ble_eq_true rfl) rfl ?_
  refine J_if_ne 16 (pc' := 10) dX6_feed_7 (by decide) rfl (fun h_7 => ?_) (fun h_7 => ?_)
  · obtain ⟨N, hN, hN1, rfl⟩ := rng_ex (n := 8) (by omega) (jb_n h_7)
    refine J_iload_n (pc' := 17) dX6_feed_16 rfl rfl ?_
    refine J_bipush (v := 60) (pc' := 19) dX6_feed_17 (by decide) rfl ?_
    refine J_aload_n (pc' := 20) dX6_feed_19 rfl rfl ?_
    refine J_getR (pc' := 23) dX6_feed_20 fl_6_12 (ly_0) (l84_0) rfl rfl ?_
    refine J_getI (pc' := 26) dX6_feed_23 fl_6_130 (ly_1) (l84_1) rfl rfl ?_
    refine J_isub (pc' := 27) dX6_feed_26 rfl ?_
    refine J_icmp_le 36 (pc' := 30) dX6_feed_27 (by decide) rfl (fun h_27 => ?_) (fun h_27 => ?_)
    · refine J_iconst (v := 0) (pc' := 37) dX6_feed_36 (by decide) rfl ?_
      refine J_istore (pc' := 39) dX6_feed_37 (Nat.le_of_ble_eq_true rfl) (jst4 rfl rfl) rfl ?_
      have hfN : f + N ≤ 60 := by
        have q := h_27
        rw [hf, show (60 : Int32) = nI 60 from by decide, jsub (a := 60) (b := f) rfl rfl (by omega)] at q
        have q2 := Int32.le_iff_toInt_le.mp q
        rw [nI_toInt (by omega), nI_toInt (by omega)] at q2
        omega
      refine l_fed (w0 := w) hI (show abX w 1 6 6 = nI f from hf) hfN (fun v q1 q2 q3 => ?_) N 0 (by omega) w rfl hX.1 (frB.rf 1 w)
      unfold sq_feed
      rw [if_pos (jb_n h_7), if_pos (show nI N ≤ 60 - abX w 1 6 6 from h_27), nn_nI (by omega)]
      dsimp only
      exact ⟨rfl, bq_now hX q3 q1 q2⟩
    · refine J_aload_n (pc' := 31) dX6_feed_30 rfl rfl ?_
      refine J_iconst (v := 4) (pc' := 32) dX6_feed_31 (by decide) rfl ?_
      refine J_V1v (pc' := 35) dX6_feed_32 lk_6_69 cd_X6_error (k_err4) (ly_0) (l84_0) rfl rfl (jroom_of rfl) (Nat.le_of_ble_eq_true rfl) rfl ?_
      exact J_iret dX6_feed_35  (by unfold sq_feed; rw [if_pos (jb_n h_7), if_neg (show ¬ nI N ≤ 60 - abX w 1 6 6 from h_27)]; exact ⟨rfl, bq_err hX (by decide)⟩)
  · refine J_aload_n (pc' := 11) dX6_feed_10 rfl rfl ?_
    refine J_iconst (v := 1) (pc' := 12) dX6_feed_11 (by decide) rfl ?_
    refine J_V1v (pc' := 15) dX6_feed_12 lk_6_69 cd_X6_error (k_err1) (ly_0) (l84_0) rfl rfl (jroom_of rfl) (Nat.le_of_ble_eq_true rfl) rfl ?_
    exact J_iret dX6_feed_15  (by unfold sq_feed; rw [if_neg (fun q => by first | exact jb_0.mp h_7 q)]; exact ⟨rfl, bq_err hX (by decide)⟩)
