/-! ===== blocks: what is tied, draws ===== -/
/-- the greater, as Math.max works it out -/
def sMx (x y : Int32) : Int32 := if x < y then y else x
def sLast (σ : sg) : Nat → Int32
  | 0 => -1
  | n + 1 => sMx (sLast σ n) (sMx (σ 2 n) (σ 3 n))
def sWAll (σ : sg) (S : Nat) : Nat → Int32
  | 0 => 0
  | n + 1 => sWAll σ S n + (if S.testBit n = true then sW σ n else 0)
theorem sPass_lt {σ : sg} {S : Nat} (h : ∀ k, k < sM σ → sMk σ k) (hP : sP σ ≤ 4) {t : Nat} (ht : t < 32) : ∀ n, n ≤ sM σ → sPass σ S n t < 32 := by
  intro n
  induction n with
  | zero => intro _; exact ht
  | succ n ih =>
    intro hn
    have h1 := ih (by omega)
    obtain ⟨-, -, ⟨f1, f2⟩, ⟨g1, g2⟩, -⟩ := h n (by omega)
    rw [sPass]
    split
    · exact zor32 _ h1 _ (zor32 _ (zpw (by omega)) _ (zpw (by omega)))
    · exact h1
theorem sPasses_lt {σ : sg} {S : Nat} (h : ∀ k, k < sM σ → sMk σ k) (hP : sP σ ≤ 4) : ∀ n, sPasses σ S n < 32
  | 0 => by rw [sPasses]; decide
  | n + 1 => sPass_lt h hP (sPasses_lt h hP n) _ (Nat.le_refl _)
theorem zpw1 : ∀ n, n ≤ 4 → nI (2 ^ n) - 1 = nI (2 ^ n - 1) := by decide +kernel
/-- draws -/
def sZ (z : Int32) : Int32 := z * 1103515245 + 12345
def sDraw (z : Int32) : Int32 := ((sZ z).toUInt32 >>> ((8 : Int32).toUInt32 &&& Int32.toUInt32 31)).toInt32
def sDn (z : Int32) : Nat := (sZ z).toUInt32.toNat / 256
theorem sDn_lt (z : Int32) : sDn z < 2 ^ 24 := by
  have h := (sZ z).toUInt32.toNat_lt
  unfold sDn
  omega
theorem sDraw_eq (z : Int32) : sDraw z = nI (sDn z) := by
  unfold sDraw sDn
  apply Int32.toBitVec_inj.mp
  apply BitVec.eq_of_toNat_eq
  show ((sZ z).toUInt32 >>> ((8 : Int32).toUInt32 &&& Int32.toUInt32 31)).toNat = (BitVec.ofNat 32 ((sZ z).toUInt32.toNat / 256)).toNat
  rw [UInt32.toNat_shiftRight, show (((8 : Int32).toUInt32 &&& Int32.toUInt32 31)).toNat % 32 = 8 from by decide +kernel, BitVec.toNat_ofNat, Nat.shiftRight_eq_div_pow]
  have h := (sZ z).toUInt32.toNat_lt
  rw [Nat.mod_eq_of_lt (by omega)]
set_option maxHeartbeats 4000000 in
set_option maxRecDepth 100000 in
theorem l_lastPic {G : jG} {w : jWd} {b : Nat} (hb : jB b) (hI : sInv (abX w b)) : ∀ n i : Nat, i + n = sM (abX w b) → J G (jM G 1 RX0 cX0_lastPictureMarked 3 (some .int) (fun r' w' => r' = some (.int (sLast (abX w b) (sM (abX w b)))) ∧ w' = w)) w 4 [some (.ref b), some (.int (sLast (abX w b) i)), some (.int (nI i))] [] := by
  have hM : w.1 b 8 = nI (sM (abX w b)) := (sIM hI).1
  have hM8 := (sIM hI).2
  intro n
  induction n with
  | zero =>
    intro i hi
    refine J_iload_n (pc' := 5) dX0_lastPictureMarked_4 rfl rfl ?_
    refine J_aload_n (pc' := 6) dX0_lastPictureMarked_5 rfl rfl ?_
    refine J_getI (pc' := 9) dX0_lastPictureMarked_6 fl_0_72 (lyb_0 hb) (l84b_0 hb) rfl rfl ?_
    rw [hM]
    refine J_icmp_ge 38 (pc' := 12) dX0_lastPictureMarked_9 (by decide) rfl (fun h_9 => ?_) (fun h_9 => absurd (nI_le (by omega) (by omega)) h_9)
    refine J_iload_n (pc' := 39) dX0_lastPictureMarked_38 rfl rfl ?_
    have ei : i = sM (abX w b) := by omega
    subst ei
    exact J_iret dX0_lastPictureMarked_39  ⟨rfl, rfl⟩
  | succ n ih =>
    intro i hi
    have h8 : i < 8 := by omega
    refine J_iload_n (pc' := 5) dX0_lastPictureMarked_4 rfl rfl ?_
    refine J_aload_n (pc' := 6) dX0_lastPictureMarked_5 rfl rfl ?_
    refine J_getI (pc' := 9) dX0_lastPictureMarked_6 fl_0_72 (lyb_0 hb) (l84b_0 hb) rfl rfl ?_
    rw [hM]
    refine J_icmp_ge 38 (pc' := 12) dX0_lastPictureMarked_9 (by decide) rfl (fun h_9 => absurd h_9 (nI_ge (by omega) (by omega))) (fun h_9 => ?_)
    refine J_iload_n (pc' := 13) dX0_lastPictureMarked_12 rfl rfl ?_
    refine J_aload_n (pc' := 14) dX0_lastPictureMarked_13 rfl rfl ?_
    refine J_getR (pc' := 17) dX0_lastPictureMarked_14 fl_0_18 (lyb_0 hb) (l84b_0 hb) rfl rfl ?_
    refine J_iload_n (pc' := 18) dX0_lastPictureMarked_17 rfl rfl ?_
    refine J_iald i (pc' := 19) dX0_lastPictureMarked_18 (lyb_3 hb) (l84b_3 hb) rfl h8 (by decide) rfl ?_
    refine J_aload_n (pc' := 20) dX0_lastPictureMarked_19 rfl rfl ?_
    refine J_getR (pc' := 23) dX0_lastPictureMarked_20 fl_0_21 (lyb_0 hb) (l84b_0 hb) rfl rfl ?_
    refine J_iload_n (pc' := 24) dX0_lastPictureMarked_23 rfl rfl ?_
    refine J_iald i (pc' := 25) dX0_lastPictureMarked_24 (lyb_4 hb) (l84b_4 hb) rfl h8 (by decide) rfl ?_
    refine J_mmax (pc' := 28) dX0_lastPictureMarked_25 lm_0_94 rfl rfl ?_
    refine J_mmax (pc' := 31) dX0_lastPictureMarked_28 lm_0_94 rfl rfl ?_
    refine J_istore_n (pc' := 32) dX0_lastPictureMarked_31 (Nat.le_of_ble_eq_true rfl) (jst1 rfl rfl) rfl ?_
    refine J_iinc (pc' := 35) dX0_lastPictureMarked_32 rfl (Nat.le_of_ble_eq_true rfl) (jst2 rfl rfl) rfl ?_
    refine J_goto (pc' := 0) 4 dX0_lastPictureMarked_35 (by decide) ?_
    have e : sLast (abX w b) (i + 1) = sMx (sLast (abX w b) i) (sMx (w.1 (b + 3) i) (w.1 (b + 4) i)) := by rw [sLast, ax2 h8, ax3 h8]
    have h2 := ih (i + 1) (by omega)
    rw [e, ← z1 i] at h2
    exact h2
set_option maxHeartbeats 4000000 in
set_option maxRecDepth 100000 in
theorem k_X0_lastPictureMarked {G : jG} {w : jWd} {b : Nat} (hb : jB b) (hI : sInv (abX w b)) : jKd G 1 yX0_lastPictureMarked cX0_lastPictureMarked 3 (some .int) [.ref b] w (some (.int (sLast (abX w b) (sM (abX w b))))) w := by
  refine jK_of (own := RX0) [some (.ref b), none, none] pn0 rfl (Nat.le_of_ble_eq_true rfl) rfl ?_
  refine J_iconst (v := -1) (pc' := 1) dX0_lastPictureMarked_0 (by decide) rfl ?_
  refine J_istore_n (pc' := 2) dX0_lastPictureMarked_1 (Nat.le_of_ble_eq_true rfl) (jst1 rfl rfl) rfl ?_
  refine J_iconst (v := 0) (pc' := 3) dX0_lastPictureMarked_2 (by decide) rfl ?_
  refine J_istore_n (pc' := 4) dX0_lastPictureMarked_3 (Nat.le_of_ble_eq_true rfl) (jst2 rfl rfl) rfl ?_
  exact l_lastPic hb hI (sM (abX w b)) 0 (by omega)
set_option maxHeartbeats 4000000 in
set_option maxRecDepth 100000 in
theorem l_wall {G : jG} {w : jWd} {b : Nat} (hb : jB b) (hI : sInv (abX w b)) (hB : xB w b) {S : Nat} (hS : S < 256) : ∀ n i : Nat, i + n = sM (abX w b) → J G (jM G 4 RX0 cX0_weightOfAll 4 (some .int) (fun r' w' => r' = some (.int (sWAll (abX w b) S (sM (abX w b)))) ∧ w' = w)) w 4 [some (.ref b), some (.int (nI S)), some (.int (sWAll (abX w b) S i)), some (.int (nI i))] [] := by
  have hM : w.1 b 8 = nI (sM (abX w b)) := (sIM hI).1
  have hM8 := (sIM hI).2
  intro n
  induction n with
  | zero =>
    intro i hi
    refine J_iload_n (pc' := 5) dX0_weightOfAll_4 rfl rfl ?_
    refine J_aload_n (pc' := 6) dX0_weightOfAll_5 rfl rfl ?_
    refine J_getI (pc' := 9) dX0_weightOfAll_6 fl_0_72 (lyb_0 hb) (l84b_0 hb) rfl rfl ?_
    rw [hM]
    refine J_icmp_ge 35 (pc' := 12) dX0_weightOfAll_9 (by decide) rfl (fun h_9 => ?_) (fun h_9 => absurd (nI_le (by omega) (by omega)) h_9)
    refine J_iload_n (pc' := 36) dX0_weightOfAll_35 rfl rfl ?_
    have ei : i = sM (abX w b) := by omega
    subst ei
    exact J_iret dX0_weightOfAll_36  ⟨rfl, rfl⟩
  | succ n ih =>
    intro i hi
    have h8 : i < 8 := by omega
    refine J_iload_n (pc' := 5) dX0_weightOfAll_4 rfl rfl ?_
    refine J_aload_n (pc' := 6) dX0_weightOfAll_5 rfl rfl ?_
    refine J_getI (pc' := 9) dX0_weightOfAll_6 fl_0_72 (lyb_0 hb) (l84b_0 hb) rfl rfl ?_
    rw [hM]
    refine J_icmp_ge 35 (pc' := 12) dX0_weightOfAll_9 (by decide) rfl (fun h_9 => absurd h_9 (nI_ge (by omega) (by omega))) (fun h_9 => ?_)
    refine J_iload_n (pc' := 13) dX0_weightOfAll_12 rfl rfl ?_
    refine J_iload_n (pc' := 14) dX0_weightOfAll_13 rfl rfl ?_
    refine J_ishr (pc' := 15) dX0_weightOfAll_14 rfl ?_
    refine J_iconst (v := 1) (pc' := 16) dX0_weightOfAll_15 (by decide) rfl ?_
    refine J_iand (pc' := 17) dX0_weightOfAll_16 rfl ?_
    refine J_iconst (v := 1) (pc' := 18) dX0_weightOfAll_17 (by decide) rfl ?_
    refine J_icmp_ne 29 (pc' := 21) dX0_weightOfAll_18 (by decide) rfl (fun h_18 => ?_) (fun h_18 => ?_)
    · refine J_iinc (pc' := 32) dX0_weightOfAll_29 rfl (Nat.le_of_ble_eq_true rfl) (jst3 rfl rfl) rfl ?_
      refine J_goto (pc' := 0) 4 dX0_weightOfAll_32 (by decide) ?_
      have e : sWAll (abX w b) S (i + 1) = sWAll (abX w b) S i := by rw [sWAll, if_neg (fun q => h_18 ((zbit S hS i h8).mpr q)), Int32.add_zero]
      have h2 := ih (i + 1) (by omega)
      rw [e, ← z1 i] at h2
      exact h2
    · refine J_iload_n (pc' := 22) dX0_weightOfAll_21 rfl rfl ?_
      refine J_aload_n (pc' := 23) dX0_weightOfAll_22 rfl rfl ?_
      refine J_iload_n (pc' := 24) dX0_weightOfAll_23 rfl rfl ?_
      refine J_V1v (pc' := 27) dX0_weightOfAll_24 lk_0_118 cd_X0_weightOf (k_X0_weightOf hb hI hB (by omega)) (lyb_0 hb) (l84b_0 hb) rfl rfl (jroom_of rfl) (Nat.le_of_ble_eq_true rfl) rfl ?_
      refine J_iadd (pc' := 28) dX0_weightOfAll_27 rfl ?_
      refine J_istore_n (pc' := 29) dX0_weightOfAll_28 (Nat.le_of_ble_eq_true rfl) (jst2 rfl rfl) rfl ?_
      refine J_iinc (pc' := 32) dX0_weightOfAll_29 rfl (Nat.le_of_ble_eq_true rfl) (jst3 rfl rfl) rfl ?_
      refine J_goto (pc' := 0) 4 dX0_weightOfAll_32 (by decide) ?_
      have e : sWAll (abX w b) S (i + 1) = sWAll (abX w b) S i + sW (abX w b) i := by rw [sWAll, if_pos ((zbit S hS i h8).mp h_18)]
      have h2 := ih (i + 1) (by omega)
      rw [e, ← z1 i] at h2
      exact h2
set_option maxHeartbeats 4000000 in
set_option maxRecDepth 100000 in
theorem k_X0_weightOfAll {G : jG} {w : jWd} {b : Nat} (hb : jB b) (hI : sInv (abX w b)) (hB : xB w b) {S : Nat} (hS : S < 256) : jKd G 4 yX0_weightOfAll cX0_weightOfAll 4 (some .int) [.ref b, .int (nI S)] w (some (.int (sWAll (abX w b) S (sM (abX w b))))) w := by
  refine jK_of (own := RX0) [some (.ref b), some (.int (nI S)), none, none] pn0 rfl (Nat.le_of_ble_eq_true rfl) rfl ?_
  refine J_iconst (v := 0) (pc' := 1) dX0_weightOfAll_0 (by decide) rfl ?_
  refine J_istore_n (pc' := 2) dX0_weightOfAll_1 (Nat.le_of_ble_eq_true rfl) (jst2 rfl rfl) rfl ?_
  refine J_iconst (v := 0) (pc' := 3) dX0_weightOfAll_2 (by decide) rfl ?_
  refine J_istore_n (pc' := 4) dX0_weightOfAll_3 (Nat.le_of_ble_eq_true rfl) (jst3 rfl rfl) rfl ?_
  exact l_wall hb hI hB hS (sM (abX w b)) 0 (by omega)
set_option maxHeartbeats 4000000 in
set_option maxRecDepth 100000 in
theorem l_tiedI {G : jG} {w : jWd} {b : Nat} (hb : jB b) (hI : sInv (abX w b)) {S : Nat} (hS : S < 256) {t0 : Nat} (ht0 : t0 < 32) {v : Int32} (hk : J G (jM G 1 RX0 cX0_tiedBy 6 (some .int) (fun r' w' => r' = some (.int (nI (sTied (abX w b) S))) ∧ w' = w)) w 77 [some (.ref b), some (.int (nI S)), some (.int (nI (sPass (abX w b) S (sM (abX w b)) t0))), some (.int v), none, none] []) : ∀ n i : Nat, i + n = sM (abX w b) → J G (jM G 1 RX0 cX0_tiedBy 6 (some .int) (fun r' w' => r' = some (.int (nI (sTied (abX w b) S))) ∧ w' = w)) w 15 [some (.ref b), some (.int (nI S)), some (.int (nI (sPass (abX w b) S i t0))), some (.int v), some (.int (nI i)), none] [] := by
  have hM : w.1 b 8 = nI (sM (abX w b)) := (sIM hI).1
  have hM8 := (sIM hI).2
  have hP : w.1 b 10 = nI (sP (abX w b)) := (sIP hI).1
  have hP4 := (sIP hI).2
  intro n
  induction n with
  | zero =>
    intro i hi
    refine J_iload (pc' := 17) dX0_tiedBy_15 rfl rfl ?_
    refine J_aload_n (pc' := 18) dX0_tiedBy_17 rfl rfl ?_
    refine J_getI (pc' := 21) dX0_tiedBy_18 fl_0_72 (lyb_0 hb) (l84b_0 hb) rfl rfl ?_
    rw [hM]
    refine J_icmp_ge 77 (pc' := 24) dX0_tiedBy_21 (by decide) rfl (fun h_21 => ?_) (fun h_21 => absurd (nI_le (by omega) (by omega)) h_21)
    have ei : i = sM (abX w b) := by omega
    subst ei
    exact J_mask [true, true, true, true, false, false] hk
  | succ n ih =>
    intro i hi
    have h8 : i < 8 := by omega
    obtain ⟨-, -, ⟨f1, f2⟩, ⟨g1, g2⟩, -⟩ := sIk hI (k := i) (by omega)
    have hf : w.1 (b + 3) i + 1 = nI ((abX w b 2 i).toInt + 1).toNat := by rw [← ax2 h8]; exact zfp f1 (by omega)
    have hg : w.1 (b + 4) i + 1 = nI ((abX w b 3 i).toInt + 1).toNat := by rw [← ax3 h8]; exact zfp (by omega) (by omega)
    have e1 := zpw (n := ((abX w b 2 i).toInt + 1).toNat) (by omega)
    have e2 := zpw (n := ((abX w b 3 i).toInt + 1).toNat) (by omega)
    have e3 := zor32 _ e1 _ e2
    have t1 := sPass_lt (S := S) (fun k hk => sIk hI hk) hP4.2 ht0 i (by omega)
    have t2 : sPass (abX w b) S i t0 &&& (2 ^ ((abX w b 2 i).toInt + 1).toNat ||| 2 ^ ((abX w b 3 i).toInt + 1).toNat) < 32 := Nat.lt_of_le_of_lt Nat.and_le_left t1
    refine J_iload (pc' := 17) dX0_tiedBy_15 rfl rfl ?_
    refine J_aload_n (pc' := 18) dX0_tiedBy_17 rfl rfl ?_
    refine J_getI (pc' := 21) dX0_tiedBy_18 fl_0_72 (lyb_0 hb) (l84b_0 hb) rfl rfl ?_
    rw [hM]
    refine J_icmp_ge 77 (pc' := 24) dX0_tiedBy_21 (by decide) rfl (fun h_21 => absurd h_21 (nI_ge (by omega) (by omega))) (fun h_21 => ?_)
    refine J_iconst (v := 1) (pc' := 25) dX0_tiedBy_24 (by decide) rfl ?_
    refine J_aload_n (pc' := 26) dX0_tiedBy_25 rfl rfl ?_
    refine J_getR (pc' := 29) dX0_tiedBy_26 fl_0_18 (lyb_0 hb) (l84b_0 hb) rfl rfl ?_
    refine J_iload (pc' := 31) dX0_tiedBy_29 rfl rfl ?_
    refine J_iald i (pc' := 32) dX0_tiedBy_31 (lyb_3 hb) (l84b_3 hb) rfl h8 (by decide) rfl ?_
    refine J_iconst (v := 1) (pc' := 33) dX0_tiedBy_32 (by decide) rfl ?_
    refine J_iadd (pc' := 34) dX0_tiedBy_33 rfl ?_
    rw [hf]
    refine J_ishl (pc' := 35) dX0_tiedBy_34 rfl ?_
    rw [zshl _ (by omega)]
    refine J_iconst (v := 1) (pc' := 36) dX0_tiedBy_35 (by decide) rfl ?_
    refine J_aload_n (pc' := 37) dX0_tiedBy_36 rfl rfl ?_
    refine J_getR (pc' := 40) dX0_tiedBy_37 fl_0_21 (lyb_0 hb) (l84b_0 hb) rfl rfl ?_
    refine J_iload (pc' := 42) dX0_tiedBy_40 rfl rfl ?_
    refine J_iald i (pc' := 43) dX0_tiedBy_42 (lyb_4 hb) (l84b_4 hb) rfl h8 (by decide) rfl ?_
    refine J_iconst (v := 1) (pc' := 44) dX0_tiedBy_43 (by decide) rfl ?_
    refine J_iadd (pc' := 45) dX0_tiedBy_44 rfl ?_
    rw [hg]
    refine J_ishl (pc' := 46) dX0_tiedBy_45 rfl ?_
    rw [zshl _ (by omega)]
    refine J_ior (pc' := 47) dX0_tiedBy_46 rfl ?_
    rw [zor]
    refine J_istore (pc' := 49) dX0_tiedBy_47 (Nat.le_of_ble_eq_true rfl) (jst5 rfl rfl) rfl ?_
    refine J_iload_n (pc' := 50) dX0_tiedBy_49 rfl rfl ?_
    refine J_iload (pc' := 52) dX0_tiedBy_50 rfl rfl ?_
    refine J_ishr (pc' := 53) dX0_tiedBy_52 rfl ?_
    refine J_iconst (v := 1) (pc' := 54) dX0_tiedBy_53 (by decide) rfl ?_
    refine J_iand (pc' := 55) dX0_tiedBy_54 rfl ?_
    refine J_iconst (v := 1) (pc' := 56) dX0_tiedBy_55 (by decide) rfl ?_
    refine J_icmp_ne 71 (pc' := 59) dX0_tiedBy_56 (by decide) rfl (fun h_56 => ?_) (fun h_56 => ?_)
    · refine J_iinc (pc' := 74) dX0_tiedBy_71 rfl (Nat.le_of_ble_eq_true rfl) (jst4 rfl rfl) rfl ?_
      refine J_goto (pc' := 0) 15 dX0_tiedBy_74 (by decide) ?_
      have e : sPass (abX w b) S (i + 1) t0 = sPass (abX w b) S i t0 := by rw [sPass, if_neg (fun q => by first | exact h_56 ((zbit S hS i h8).mpr q.1) | exact q.2 ((zn0 (by omega)).mp h_63))]
      have h2 := ih (i + 1) (by omega)
      rw [e, ← z1 i] at h2
      exact J_mask [true, true, true, true, true, false] h2
    · refine J_iload_n (pc' := 60) dX0_tiedBy_59 rfl rfl ?_
      refine J_iload (pc' := 62) dX0_tiedBy_60 rfl rfl ?_
      refine J_iand (pc' := 63) dX0_tiedBy_62 rfl ?_
      rw [zand]
      refine J_if_eq 71 (pc' := 66) dX0_tiedBy_63 (by decide) rfl (fun h_63 => ?_) (fun h_63 => ?_)
      · refine J_iinc (pc' := 74) dX0_tiedBy_71 rfl (Nat.le_of_ble_eq_true rfl) (jst4 rfl rfl) rfl ?_
        refine J_goto (pc' := 0) 15 dX0_tiedBy_74 (by decide) ?_
        have e : sPass (abX w b) S (i + 1) t0 = sPass (abX w b) S i t0 := by rw [sPass, if_neg (fun q => by first | exact h_56 ((zbit S hS i h8).mpr q.1) | exact q.2 ((zn0 (by omega)).mp h_63))]
        have h2 := ih (i + 1) (by omega)
        rw [e, ← z1 i] at h2
        exact J_mask [true, true, true, true, true, false] h2
      · refine J_iload_n (pc' := 67) dX0_tiedBy_66 rfl rfl ?_
        refine J_iload (pc' := 69) dX0_tiedBy_67 rfl rfl ?_
        refine J_ior (pc' := 70) dX0_tiedBy_69 rfl ?_
        rw [zor]
        refine J_istore_n (pc' := 71) dX0_tiedBy_70 (Nat.le_of_ble_eq_true rfl) (jst2 rfl rfl) rfl ?_
        refine J_iinc (pc' := 74) dX0_tiedBy_71 rfl (Nat.le_of_ble_eq_true rfl) (jst4 rfl rfl) rfl ?_
        refine J_goto (pc' := 0) 15 dX0_tiedBy_74 (by decide) ?_
        have e : sPass (abX w b) S (i + 1) t0 = sPass (abX w b) S i t0 ||| (2 ^ ((abX w b 2 i).toInt + 1).toNat ||| 2 ^ ((abX w b 3 i).toInt + 1).toNat) := by rw [sPass, if_pos ⟨(zbit S hS i h8).mp h_56, fun q => h_63 ((zn0 (by omega)).mpr q)⟩]
        have h2 := ih (i + 1) (by omega)
        rw [e, ← z1 i] at h2
        exact J_mask [true, true, true, true, true, false] h2
set_option maxHeartbeats 4000000 in
set_option maxRecDepth 100000 in
theorem l_tiedO {G : jG} {w : jWd} {b : Nat} (hb : jB b) (hI : sInv (abX w b)) {S : Nat} (hS : S < 256) : ∀ n i : Nat, i + n = sP (abX w b) → J G (jM G 1 RX0 cX0_tiedBy 6 (some .int) (fun r' w' => r' = some (.int (nI (sTied (abX w b) S))) ∧ w' = w)) w 4 [some (.ref b), some (.int (nI S)), some (.int (nI (sPasses (abX w b) S i))), some (.int (nI i)), none, none] [] := by
  have hM : w.1 b 8 = nI (sM (abX w b)) := (sIM hI).1
  have hM8 := (sIM hI).2
  have hP : w.1 b 10 = nI (sP (abX w b)) := (sIP hI).1
  have hP4 := (sIP hI).2
  intro n
  induction n with
  | zero =>
    intro i hi
    refine J_iload_n (pc' := 5) dX0_tiedBy_4 rfl rfl ?_
    refine J_aload_n (pc' := 6) dX0_tiedBy_5 rfl rfl ?_
    refine J_getI (pc' := 9) dX0_tiedBy_6 fl_0_46 (lyb_0 hb) (l84b_0 hb) rfl rfl ?_
    rw [hP]
    refine J_icmp_ge 83 (pc' := 12) dX0_tiedBy_9 (by decide) rfl (fun h_9 => ?_) (fun h_9 => absurd (nI_le (by omega) (by omega)) h_9)
    refine J_iload_n (pc' := 84) dX0_tiedBy_83 rfl rfl ?_
    refine J_iconst (v := 1) (pc' := 85) dX0_tiedBy_84 (by decide) rfl ?_
    refine J_ishr (pc' := 86) dX0_tiedBy_85 rfl ?_
    have ei : i = sP (abX w b) := by omega
    subst ei
    rw [zshr1 _ (sPasses_lt (fun k hk => sIk hI hk) hP4.2 _)]
    exact J_iret dX0_tiedBy_86  ⟨rfl, rfl⟩
  | succ n ih =>
    intro i hi
    refine J_iload_n (pc' := 5) dX0_tiedBy_4 rfl rfl ?_
    refine J_aload_n (pc' := 6) dX0_tiedBy_5 rfl rfl ?_
    refine J_getI (pc' := 9) dX0_tiedBy_6 fl_0_46 (lyb_0 hb) (l84b_0 hb) rfl rfl ?_
    rw [hP]
    refine J_icmp_ge 83 (pc' := 12) dX0_tiedBy_9 (by decide) rfl (fun h_9 => absurd h_9 (nI_ge (by omega) (by omega))) (fun h_9 => ?_)
    refine J_iconst (v := 0) (pc' := 13) dX0_tiedBy_12 (by decide) rfl ?_
    refine J_istore (pc' := 15) dX0_tiedBy_13 (Nat.le_of_ble_eq_true rfl) (jst4 rfl rfl) rfl ?_
    refine l_tiedI hb hI hS (sPasses_lt (fun k hk => sIk hI hk) hP4.2 i) ?_ (sM (abX w b)) 0 (by omega)
    refine J_iinc (pc' := 80) dX0_tiedBy_77 rfl (Nat.le_of_ble_eq_true rfl) (jst3 rfl rfl) rfl ?_
    refine J_goto (pc' := 0) 4 dX0_tiedBy_80 (by decide) ?_
    have h2 := ih (i + 1) (by omega)
    rw [sPasses, ← z1 i] at h2
    exact h2
set_option maxHeartbeats 4000000 in
set_option maxRecDepth 100000 in
theorem k_X0_tiedBy {G : jG} {w : jWd} {b : Nat} (hb : jB b) (hI : sInv (abX w b)) {S : Nat} (hS : S < 256) : jKd G 1 yX0_tiedBy cX0_tiedBy 6 (some .int) [.ref b, .int (nI S)] w (some (.int (nI (sTied (abX w b) S)))) w := by
  refine jK_of (own := RX0) [some (.ref b), some (.int (nI S)), none, none, none, none] pn0 rfl (Nat.le_of_ble_eq_true rfl) rfl ?_
  refine J_iconst (v := 1) (pc' := 1) dX0_tiedBy_0 (by decide) rfl ?_
  refine J_istore_n (pc' := 2) dX0_tiedBy_1 (Nat.le_of_ble_eq_true rfl) (jst2 rfl rfl) rfl ?_
  refine J_iconst (v := 0) (pc' := 3) dX0_tiedBy_2 (by decide) rfl ?_
  refine J_istore_n (pc' := 4) dX0_tiedBy_3 (Nat.le_of_ble_eq_true rfl) (jst3 rfl rfl) rfl ?_
  exact J_mask [true, true, true, true, true, true] (l_tiedO hb hI hS (sP (abX w b)) 0 (by omega))
theorem sTied_lt {σ : sg} {S : Nat} (hI : sInv σ) : sTied σ S < 32 := Nat.lt_of_le_of_lt (by unfold sTied; rw [Nat.shiftRight_eq_div_pow]; exact Nat.div_le_self _ _) (sPasses_lt (fun k hk => sIk hI hk) (sIP hI).2.2 (sP σ))
theorem sHolds_dec (σ : sg) (S : Nat) : (sTied σ S = 2 ^ sP σ - 1) = sHolds σ S := rfl
set_option maxHeartbeats 4000000 in
set_option maxRecDepth 100000 in
theorem k_X0_holds {G : jG} {w : jWd} {b : Nat} (hb : jB b) (hI : sInv (abX w b)) {S : Nat} (hS : S < 256) : jKd G 2 yX0_holds cX0_holds 2 (some .boolean) [.ref b, .int (nI S)] w (some (.int (jb (sTied (abX w b) S = 2 ^ sP (abX w b) - 1)))) w := by
  have hP : w.1 b 10 = nI (sP (abX w b)) := (sIP hI).1
  have hP4 := (sIP hI).2
  have hpw : 2 ^ sP (abX w b) < 32 := zpw (by omega)
  have htl := sTied_lt (S := S) hI
  refine jK_of (own := RX0) [some (.ref b), some (.int (nI S))] pn0 rfl (Nat.le_of_ble_eq_true rfl) rfl ?_
  refine J_aload_n (pc' := 1) dX0_holds_0 rfl rfl ?_
  refine J_iload_n (pc' := 2) dX0_holds_1 rfl rfl ?_
  refine J_V1v (pc' := 5) dX0_holds_2 lk_0_100 cd_X0_tiedBy (k_X0_tiedBy hb hI hS) (lyb_0 hb) (l84b_0 hb) rfl rfl (jroom_of rfl) (Nat.le_of_ble_eq_true rfl) rfl ?_
  refine J_iconst (v := 1) (pc' := 6) dX0_holds_5 (by decide) rfl ?_
  refine J_aload_n (pc' := 7) dX0_holds_6 rfl rfl ?_
  refine J_getI (pc' := 10) dX0_holds_7 fl_0_46 (lyb_0 hb) (l84b_0 hb) rfl rfl ?_
  rw [hP]
  refine J_ishl (pc' := 11) dX0_holds_10 rfl ?_
  rw [zshl _ (by omega)]
  refine J_iconst (v := 1) (pc' := 12) dX0_holds_11 (by decide) rfl ?_
  refine J_isub (pc' := 13) dX0_holds_12 rfl ?_
  rw [zpw1 _ (by omega)]
  refine J_icmp_ne 20 (pc' := 16) dX0_holds_13 (by decide) rfl (fun h_13 => ?_) (fun h_13 => ?_)
  · refine J_iconst (v := 0) (pc' := 21) dX0_holds_20 (by decide) rfl ?_
    exact J_zret dX0_holds_21 (Or.inl rfl) ⟨jv (jb_f (fun q => h_13 ((nI_eq (by omega) (by omega)).mpr q))).symm, rfl⟩
  · refine J_iconst (v := 1) (pc' := 17) dX0_holds_16 (by decide) rfl ?_
    refine J_goto (pc' := 0) 21 dX0_holds_17 (by decide) ?_
    exact J_zret dX0_holds_21 (Or.inr rfl) ⟨jv (jb_t ((nI_eq (by omega) (by omega)).mp h_13)).symm, rfl⟩
set_option maxHeartbeats 4000000 in
set_option maxRecDepth 100000 in
theorem k_X0_draw {G : jG} {w : jWd} {b : Nat} (hb : jB b) : jKd G 0 yX0_draw cX0_draw 1 (some .int) [.ref b] w (some (.int (sDraw (w.1 b 14)))) (jset w b 14 (sZ (w.1 b 14))) := by
  refine jK_of (own := RX0) [some (.ref b)] pn0 rfl (Nat.le_of_ble_eq_true rfl) rfl ?_
  refine J_aload_n (pc' := 1) dX0_draw_0 rfl rfl ?_
  refine J_aload_n (pc' := 2) dX0_draw_1 rfl rfl ?_
  refine J_getI (pc' := 5) dX0_draw_2 fl_0_53 (lyb_0 hb) (l84b_0 hb) rfl rfl ?_
  refine J_ldc (pc' := 7) dX0_draw_5 kc_0_131 rfl ?_
  refine J_imul (pc' := 8) dX0_draw_7 rfl ?_
  refine J_sipush (v := 12345) (pc' := 11) dX0_draw_8 (by decide) rfl ?_
  refine J_iadd (pc' := 12) dX0_draw_11 rfl ?_
  refine J_putI (pc' := 15) dX0_draw_12 fp_0_53 (lyb_0 hb) (l84b_0 hb) rfl rfl ?_
  refine J_aload_n (pc' := 16) dX0_draw_15 rfl rfl ?_
  refine J_getI (pc' := 19) dX0_draw_16 fl_0_53 (lyb_0 hb) (l84b_0 hb) rfl rfl ?_
  rw [jset_1, if_pos rfl, if_pos rfl]
  refine J_bipush (v := 8) (pc' := 21) dX0_draw_19 (by decide) rfl ?_
  refine J_iushr (pc' := 22) dX0_draw_21 rfl ?_
  exact J_iret dX0_draw_22  ⟨rfl, rfl⟩
