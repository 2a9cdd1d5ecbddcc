/-! ===== rounds ===== -/
/-! ===== how many are on; rounds ===== -/
def ush (x y : Int32) : Int32 := (x.toUInt32 >>> (y.toUInt32 &&& Int32.toUInt32 31)).toInt32
def sBcA (x : Int32) : Int32 := x - (ush x 1 &&& 1431655765)
def sBcB (a : Int32) : Int32 := (a &&& 858993459) + (ush a 2 &&& 858993459)
def sBcC (b : Int32) : Int32 := (b + ush b 4) &&& 252645135
def sBcD (c : Int32) : Int32 := c + ush c 8
def sBcE (d : Int32) : Int32 := d + ush d 16
def sBc (x : Int32) : Int32 := sBcE (sBcD (sBcC (sBcB (sBcA x)))) &&& 63
def sBn (S : Nat) : Nat → Nat
  | 0 => 0
  | n + 1 => sBn S n + (if S.testBit n = true then 1 else 0)
theorem sBc_n : ∀ S, S < 256 → sBc (nI S) = nI (sBn S 8) := by decide +kernel
def sCnt (σ : sg) : Nat → Nat
  | 0 => 0
  | n + 1 => sCnt σ n + (if σ 5 n = 1 then 1 else 0)
theorem sCnt_8 {σ : sg} (hI : sInv σ) : ∀ n, n + sM σ ≤ 1000 → sCnt σ (sM σ + n) = sCnt σ (sM σ)
  | 0, _ => rfl
  | n + 1, h => by rw [← Nat.add_assoc, sCnt, sCnt_8 hI n (by omega), if_neg (by rw [hI.2.2.2.2.2.2.2.2.1 (sM σ + n) (by omega)]; decide), Nat.add_zero]
theorem sBn_cnt {σ : sg} {S : Nat} : ∀ n, (∀ k, k < n → (σ 5 k = 1 ↔ S.testBit k = true)) → sBn S n = sCnt σ n
  | 0, _ => rfl
  | n + 1, h => by
    rw [sBn, sCnt, sBn_cnt n (fun k hk => h k (by omega))]
    by_cases q : S.testBit n = true
    · rw [if_pos q, if_pos ((h n (by omega)).mpr q)]
    · rw [if_neg q, if_neg (fun z => q ((h n (by omega)).mp z))]
theorem cnt_on {w : jWd} {b : Nat} (hI : sInv (abX w b)) (hB : xB w b) : sBc (w.1 b 9) = nI (sCnt (abX w b) (sM (abX w b))) := by
  obtain ⟨⟨S, hS, e⟩, -⟩ := hB
  have hM := (sIM hI).2
  rw [e, sBc_n S hS, sBn_cnt (σ := abX w b) 8 (fun k hk => by rw [ax5 hk, e]; exact zbit S hS k hk), ← sCnt_8 hI (8 - sM (abX w b)) (by omega), show sM (abX w b) + (8 - sM (abX w b)) = 8 by omega]
theorem bq_fr {w w2 : jWd} {σ : sg} (hX : XInv w) (hf : frF 1 w w2) (h1 : abX w2 1 = σ) (hB : xB w2 1) : BQ w w2 (σ, abX w 16, restX w) :=
  bq_gen hX h1 hB (xB_congr (fun a q1 q2 => hf.1 a (by omega) (by omega) (by omega)) hX.2.2) (fun a q => hf.1 a (by omega) (by omega) (by omega)) (fun a q => hf.2 a (by omega))
def sGoN (σ : sg) : Nat → sg
  | 0 => σ
  | n + 1 => sGo (sGoN σ n)
def sLoN (σ : sg) : Nat → sg
  | 0 => σ
  | n + 1 => sGo (sDrawn (sLoN σ n))
theorem inv_goN {σ : sg} (hI : sInv σ) : ∀ n, sR σ + n ≤ 1000000 → sInv (sGoN σ n) ∧ sM (sGoN σ n) = sM σ ∧ sP (sGoN σ n) = sP σ ∧ sR (sGoN σ n) = sR σ + n
  | 0, _ => ⟨hI, rfl, rfl, rfl⟩
  | n + 1, h => by
    obtain ⟨h1, h2, h3, h4⟩ := inv_goN hI n (by omega)
    obtain ⟨q1, q2, q3, q4⟩ := inv_go h1 (by omega)
    exact ⟨q1, q2.trans h2, q3.trans h3, by rw [sGoN, q4, h4]; omega⟩
theorem drawn_rng (n : Nat) : -20 ≤ (nI (n % 41) - 20 : Int32).toInt ∧ (nI (n % 41) - 20 : Int32).toInt ≤ 20 := by
  have h : n % 41 < 41 := Nat.mod_lt _ (by decide)
  generalize n % 41 = m at h
  revert m
  decide +kernel
theorem inv_drawn {σ : sg} (hI : sInv σ) : sInv (sDrawn σ) ∧ sM (sDrawn σ) = sM σ ∧ sP (sDrawn σ) = sP σ ∧ sR (sDrawn σ) = sR σ := by
  rcases Nat.eq_zero_or_pos (sM σ) with h | h
  · rw [sDrawn_0 h]; exact ⟨hI, rfl, rfl, rfl⟩
  · rw [sDrawn_p h]
    have hk : sDn (σ 6 5) % sM σ < sM σ := Nat.mod_lt _ h
    refine ⟨inv_5 (inv_4 (inv_65 hI) (drawn_rng _)) ?_ (Or.inr rfl), ?_, ?_, ?_⟩
    · rw [sM_sg1 (Or.inl (by decide)), sM_sg1 (Or.inr (by decide))]; exact hk
    · rw [sM_sg1 (Or.inl (by decide)), sM_sg1 (Or.inl (by decide)), sM_sg1 (Or.inr (by decide))]
    · rw [sP_sg1 (Or.inl (by decide)), sP_sg1 (Or.inl (by decide)), sP_sg1 (Or.inr (by decide))]
    · rw [sR_sg1 (Or.inl (by decide)), sR_sg1 (Or.inl (by decide)), sR_sg1 (Or.inr (by decide))]
theorem inv_loN {σ : sg} (hI : sInv σ) : ∀ n, sR σ + n ≤ 1000000 → sInv (sLoN σ n) ∧ sM (sLoN σ n) = sM σ ∧ sP (sLoN σ n) = sP σ ∧ sR (sLoN σ n) = sR σ + n
  | 0, _ => ⟨hI, rfl, rfl, rfl⟩
  | n + 1, h => by
    obtain ⟨h1, h2, h3, h4⟩ := inv_loN hI n (by omega)
    obtain ⟨p1, p2, p3, p4⟩ := inv_drawn h1
    obtain ⟨q1, q2, q3, q4⟩ := inv_go p1 (by omega)
    exact ⟨q1, (q2.trans p2).trans h2, (q3.trans p3).trans h3, by rw [sLoN, q4, p4, h4]; omega⟩
theorem rnd_le {σ : sg} (hI : sInv σ) {n : Nat} (hn : n ≤ 60) (h : σ 6 2 ≤ 9999 - nI n) : sR σ + n ≤ 9999 := by
  rw [hI.2.2.1.1, show (9999 : Int32) = nI 9999 from by decide, jsub (a := 9999) (b := n) rfl rfl (by omega)] at h
  have h2 := Int32.le_iff_toInt_le.mp h
  rw [nI_toInt (by have := hI.2.2.1.2; omega), nI_toInt (by omega)] at h2
  omega
theorem rng_ex {x : Int32} {n : Nat} (hn : n ≤ 1000000) (h : 1 ≤ x ∧ x ≤ nI n) : ∃ k, k ≤ n ∧ 1 ≤ k ∧ x = nI k := by
  have h0 := Int32.le_iff_toInt_le.mp h.1
  have h1 := Int32.le_iff_toInt_le.mp h.2
  rw [show (1 : Int32).toInt = 1 from by decide] at h0
  rw [nI_toInt (by omega)] at h1
  exact ⟨x.toInt.toNat, by omega, by omega, Int32.toInt_inj.mp (by rw [nI_toInt (by omega)]; omega)⟩
set_option maxHeartbeats 4000000 in
set_option maxRecDepth 100000 in
theorem k_J6_bitCount_0f7a4 {G : jG} {w : jWd} {x : Int32} : jKd G 0 yJ6_bitCount_0f7a4 cJ6_bitCount_0f7a4 1 (some .int) [.int x] w (some (.int (sBc x))) w := by
  refine jK_of (own := "java/lang/Integer") [some (.int x)] pnInteger rfl (Nat.le_of_ble_eq_true rfl) rfl ?_
  refine J_iload_n (pc' := 1) dJ6_bitCount_0f7a4_0 rfl rfl ?_
  refine J_iload_n (pc' := 2) dJ6_bitCount_0f7a4_1 rfl rfl ?_
  refine J_iconst (v := 1) (pc' := 3) dJ6_bitCount_0f7a4_2 (by decide) rfl ?_
  refine J_iushr (pc' := 4) dJ6_bitCount_0f7a4_3 rfl ?_
  refine J_ldcw (pc' := 7) dJ6_bitCount_0f7a4_4 kc_RJ6_265 rfl ?_
  refine J_iand (pc' := 8) dJ6_bitCount_0f7a4_7 rfl ?_
  refine J_isub (pc' := 9) dJ6_bitCount_0f7a4_8 rfl ?_
  refine J_istore_n (pc' := 10) dJ6_bitCount_0f7a4_9 (Nat.le_of_ble_eq_true rfl) (jst0 rfl) rfl ?_
  refine J_iload_n (pc' := 11) dJ6_bitCount_0f7a4_10 rfl rfl ?_
  refine J_ldcw (pc' := 14) dJ6_bitCount_0f7a4_11 kc_RJ6_266 rfl ?_
  refine J_iand (pc' := 15) dJ6_bitCount_0f7a4_14 rfl ?_
  refine J_iload_n (pc' := 16) dJ6_bitCount_0f7a4_15 rfl rfl ?_
  refine J_iconst (v := 2) (pc' := 17) dJ6_bitCount_0f7a4_16 (by decide) rfl ?_
  refine J_iushr (pc' := 18) dJ6_bitCount_0f7a4_17 rfl ?_
  refine J_ldcw (pc' := 21) dJ6_bitCount_0f7a4_18 kc_RJ6_266 rfl ?_
  refine J_iand (pc' := 22) dJ6_bitCount_0f7a4_21 rfl ?_
  refine J_iadd (pc' := 23) dJ6_bitCount_0f7a4_22 rfl ?_
  refine J_istore_n (pc' := 24) dJ6_bitCount_0f7a4_23 (Nat.le_of_ble_eq_true rfl) (jst0 rfl) rfl ?_
  refine J_iload_n (pc' := 25) dJ6_bitCount_0f7a4_24 rfl rfl ?_
  refine J_iload_n (pc' := 26) dJ6_bitCount_0f7a4_25 rfl rfl ?_
  refine J_iconst (v := 4) (pc' := 27) dJ6_bitCount_0f7a4_26 (by decide) rfl ?_
  refine J_iushr (pc' := 28) dJ6_bitCount_0f7a4_27 rfl ?_
  refine J_iadd (pc' := 29) dJ6_bitCount_0f7a4_28 rfl ?_
  refine J_ldcw (pc' := 32) dJ6_bitCount_0f7a4_29 kc_RJ6_267 rfl ?_
  refine J_iand (pc' := 33) dJ6_bitCount_0f7a4_32 rfl ?_
  refine J_istore_n (pc' := 34) dJ6_bitCount_0f7a4_33 (Nat.le_of_ble_eq_true rfl) (jst0 rfl) rfl ?_
  refine J_iload_n (pc' := 35) dJ6_bitCount_0f7a4_34 rfl rfl ?_
  refine J_iload_n (pc' := 36) dJ6_bitCount_0f7a4_35 rfl rfl ?_
  refine J_bipush (v := 8) (pc' := 38) dJ6_bitCount_0f7a4_36 (by decide) rfl ?_
  refine J_iushr (pc' := 39) dJ6_bitCount_0f7a4_38 rfl ?_
  refine J_iadd (pc' := 40) dJ6_bitCount_0f7a4_39 rfl ?_
  refine J_istore_n (pc' := 41) dJ6_bitCount_0f7a4_40 (Nat.le_of_ble_eq_true rfl) (jst0 rfl) rfl ?_
  refine J_iload_n (pc' := 42) dJ6_bitCount_0f7a4_41 rfl rfl ?_
  refine J_iload_n (pc' := 43) dJ6_bitCount_0f7a4_42 rfl rfl ?_
  refine J_bipush (v := 16) (pc' := 45) dJ6_bitCount_0f7a4_43 (by decide) rfl ?_
  refine J_iushr (pc' := 46) dJ6_bitCount_0f7a4_45 rfl ?_
  refine J_iadd (pc' := 47) dJ6_bitCount_0f7a4_46 rfl ?_
  refine J_istore_n (pc' := 48) dJ6_bitCount_0f7a4_47 (Nat.le_of_ble_eq_true rfl) (jst0 rfl) rfl ?_
  refine J_iload_n (pc' := 49) dJ6_bitCount_0f7a4_48 rfl rfl ?_
  refine J_bipush (v := 63) (pc' := 51) dJ6_bitCount_0f7a4_49 (by decide) rfl ?_
  refine J_iand (pc' := 52) dJ6_bitCount_0f7a4_51 rfl ?_
  exact J_iret dJ6_bitCount_0f7a4_52  ⟨rfl, rfl⟩
set_option maxHeartbeats 4000000 in
set_option maxRecDepth 100000 in
theorem l_rnd {G : jG} {Q : Option Value → jWd → Prop} {w0 : jWd} {σ : sg} (hσ : abX w0 1 = σ) (hI0 : sInv σ) {N : Nat} (hN : N ≤ 60) (hR : sR σ + N ≤ 9999) (hQ : ∀ w, abX w 1 = sGoN σ N → xB w 1 → frF 1 w0 w → Q (some (.int (nI (sCnt (sGoN σ N) (sM (sGoN σ N)))))) w) : ∀ n i : Nat, i + n = N → ∀ w, abX w 1 = sGoN σ i → xB w 1 → frF 1 w0 w → J G (jM G 7 RX6 cX6_rounds 3 (some .int) (Q)) w 39 [some (.ref 0), some (.int (nI N)), some (.int (nI i))] [] := by
  intro n
  induction n with
  | zero =>
    intro i hi w h1 h2 h3
    have ei : i = N := by omega
    subst ei
    have hI : sInv (abX w 1) := by rw [h1]; exact (inv_goN hI0 i (by omega)).1
    refine J_iload_n (pc' := 40) dX6_rounds_39 rfl rfl ?_
    refine J_iload_n (pc' := 41) dX6_rounds_40 rfl rfl ?_
    refine J_icmp_ge 61 (pc' := 44) dX6_rounds_41 (by decide) rfl (fun h_41 => ?_) (fun h_41 => absurd (nI_le (by omega) (by omega)) h_41)
    refine J_aload_n (pc' := 62) dX6_rounds_61 rfl rfl ?_
    refine J_getR (pc' := 65) dX6_rounds_62 fl_6_12 (ly_0) (l84_0) rfl rfl ?_
    refine J_getI (pc' := 68) dX6_rounds_65 fl_6_178 (ly_1) (l84_1) rfl rfl ?_
    refine J_S1v (pc' := 71) dX6_rounds_68 lk_6_181 cd_J6_bitCount_0f7a4 (k_J6_bitCount_0f7a4) (jroom_of rfl) (Nat.le_of_ble_eq_true rfl) rfl ?_
    rw [cnt_on hI h2, h1]
    exact J_iret dX6_rounds_71  (hQ w h1 h2 h3)
  | succ n ih =>
    intro i hi w h1 h2 h3
    have hI : sInv (abX w 1) := by rw [h1]; exact (inv_goN hI0 i (by omega)).1
    have hRi : sR (abX w 1) < 1000000 := by rw [h1, (inv_goN hI0 i (by omega)).2.2.2]; omega
    refine J_iload_n (pc' := 40) dX6_rounds_39 rfl rfl ?_
    refine J_iload_n (pc' := 41) dX6_rounds_40 rfl rfl ?_
    refine J_icmp_ge 61 (pc' := 44) dX6_rounds_41 (by decide) rfl (fun h_41 => absurd h_41 (nI_ge (by omega) (by omega))) (fun h_41 => ?_)
    refine J_aload_n (pc' := 45) dX6_rounds_44 rfl rfl ?_
    refine J_getR (pc' := 48) dX6_rounds_45 fl_6_38 (ly_0) (l84_0) rfl rfl ?_
    refine J_aload_n (pc' := 49) dX6_rounds_48 rfl rfl ?_
    refine J_getR (pc' := 52) dX6_rounds_49 fl_6_12 (ly_0) (l84_0) rfl rfl ?_
    refine J_V1w (pc' := 55) dX6_rounds_52 lk_6_174 cd_X1_passRound (k_X1_passRound jb1 hI h2) (ly_48) (l84_48) rfl rfl (jroom_of rfl) (Nat.le_of_ble_eq_true rfl) rfl (fun w52 hw52 => ?_)
    refine J_iinc (pc' := 58) dX6_rounds_55 rfl (Nat.le_of_ble_eq_true rfl) (jst2 rfl rfl) rfl ?_
    refine J_goto (pc' := 0) 39 dX6_rounds_58 (by decide) ?_
    obtain ⟨q1, q2, q3⟩ := hw52
    have h4 := ih (i + 1) (by omega) w52 (by rw [q1, h1]; rfl) q2 (h3.tr q3)
    rw [← z1 i] at h4
    exact h4
set_option maxHeartbeats 4000000 in
set_option maxRecDepth 100000 in
theorem l_lse {G : jG} {Q : Option Value → jWd → Prop} {w0 : jWd} {σ : sg} (hσ : abX w0 1 = σ) (hI0 : sInv σ) {N : Nat} (hN : N ≤ 60) (hR : sR σ + N ≤ 9999) (hQ : ∀ w, abX w 1 = sLoN σ N → xB w 1 → frF 1 w0 w → Q (some (.int (nI (sCnt (sLoN σ N) (sM (sLoN σ N)))))) w) : ∀ n i : Nat, i + n = N → ∀ w, abX w 1 = sLoN σ i → xB w 1 → frF 1 w0 w → J G (jM G 7 RX6 cX6_loose 3 (some .int) (Q)) w 39 [some (.ref 0), some (.int (nI N)), some (.int (nI i))] [] := by
  intro n
  induction n with
  | zero =>
    intro i hi w h1 h2 h3
    have ei : i = N := by omega
    subst ei
    have hI : sInv (abX w 1) := by rw [h1]; exact (inv_loN hI0 i (by omega)).1
    refine J_iload_n (pc' := 40) dX6_loose_39 rfl rfl ?_
    refine J_iload_n (pc' := 41) dX6_loose_40 rfl rfl ?_
    refine J_icmp_ge 68 (pc' := 44) dX6_loose_41 (by decide) rfl (fun h_41 => ?_) (fun h_41 => absurd (nI_le (by omega) (by omega)) h_41)
    refine J_aload_n (pc' := 69) dX6_loose_68 rfl rfl ?_
    refine J_getR (pc' := 72) dX6_loose_69 fl_6_12 (ly_0) (l84_0) rfl rfl ?_
    refine J_getI (pc' := 75) dX6_loose_72 fl_6_178 (ly_1) (l84_1) rfl rfl ?_
    refine J_S1v (pc' := 78) dX6_loose_75 lk_6_181 cd_J6_bitCount_0f7a4 (k_J6_bitCount_0f7a4) (jroom_of rfl) (Nat.le_of_ble_eq_true rfl) rfl ?_
    rw [cnt_on hI h2, h1]
    exact J_iret dX6_loose_78  (hQ w h1 h2 h3)
  | succ n ih =>
    intro i hi w h1 h2 h3
    have hI : sInv (abX w 1) := by rw [h1]; exact (inv_loN hI0 i (by omega)).1
    have hRi : sR (abX w 1) < 1000000 := by rw [h1, (inv_loN hI0 i (by omega)).2.2.2]; omega
    refine J_iload_n (pc' := 40) dX6_loose_39 rfl rfl ?_
    refine J_iload_n (pc' := 41) dX6_loose_40 rfl rfl ?_
    refine J_icmp_ge 68 (pc' := 44) dX6_loose_41 (by decide) rfl (fun h_41 => absurd h_41 (nI_ge (by omega) (by omega))) (fun h_41 => ?_)
    refine J_aload_n (pc' := 45) dX6_loose_44 rfl rfl ?_
    refine J_getR (pc' := 48) dX6_loose_45 fl_6_12 (ly_0) (l84_0) rfl rfl ?_
    refine J_V0w (pc' := 51) dX6_loose_48 lk_6_186 cd_X0_drawMark (k_X0_drawMark jb1 hI h2) (ly_1) (l84_1) rfl rfl (jroom_of rfl) (Nat.le_of_ble_eq_true rfl) rfl (fun w48 hw48 => ?_)
    refine J_aload_n (pc' := 52) dX6_loose_51 rfl rfl ?_
    refine J_getR (pc' := 55) dX6_loose_52 fl_6_38 (ly_0) (l84_0) rfl rfl ?_
    refine J_aload_n (pc' := 56) dX6_loose_55 rfl rfl ?_
    refine J_getR (pc' := 59) dX6_loose_56 fl_6_12 (ly_0) (l84_0) rfl rfl ?_
    refine J_V1w (pc' := 62) dX6_loose_59 lk_6_174 cd_X1_passRound (k_X1_passRound jb1 (by rw [hw48.1]; exact (inv_drawn hI).1) hw48.2.1) (ly_48) (l84_48) rfl rfl (jroom_of rfl) (Nat.le_of_ble_eq_true rfl) rfl (fun w59 hw59 => ?_)
    refine J_iinc (pc' := 65) dX6_loose_62 rfl (Nat.le_of_ble_eq_true rfl) (jst2 rfl rfl) rfl ?_
    refine J_goto (pc' := 0) 39 dX6_loose_65 (by decide) ?_
    obtain ⟨p1, p2, p3⟩ := hw48
    obtain ⟨q1, q2, q3⟩ := hw59
    have h4 := ih (i + 1) (by omega) w59 (by rw [q1, p1, h1]; rfl) q2 ((h3.tr (frF.of p3)).tr q3)
    rw [← z1 i] at h4
    exact h4
def sq_rounds (s k r : sg) (n : Int32) : sQI := if 1 ≤ n ∧ n ≤ 60 then (if s 6 2 ≤ 9999 - n then (nI (sCnt (sGoN s (nn n)) (sM (sGoN s (nn n)))), sGoN s (nn n), k, r) else (sErr 3, s, k, sEr r 3)) else (sErr 1, s, k, sEr r 1)
set_option maxHeartbeats 4000000 in
set_option maxRecDepth 100000 in
theorem a_X6_rounds {G : jG} {w : jWd} (hX : XInv w) (hI : sInv (abX w 1)) {n : Int32} : jKp G 7 yX6_rounds cX6_rounds 3 (some .int) [.ref 0, .int n] w (some (.int (sq_rounds (abX w 1) (abX w 16) (restX w) n).1)) (fun w' => BQ w w' (sq_rounds (abX w 1) (abX w 16) (restX w) n).2) := by
  refine jK_of (own := RX6) [some (.ref 0), some (.int n), none] pn6 rfl (Nat.le_of_ble_eq_true rfl) rfl ?_
  refine J_iload_n (pc' := 1) dX6_rounds_0 rfl rfl ?_
  refine J_iconst (v := 1) (pc' := 2) dX6_rounds_1 (by decide) rfl ?_
  refine J_bipush (v := 60) (pc' := 4) dX6_rounds_2 (by decide) rfl ?_
  refine J_S3v (pc' := 7) dX6_rounds_4 lk_6_108 cd_X6_isWithin (k_X6_isWithin) (jroom_of rfl) (Nat.le_of_ble_eq_true rfl) rfl ?_
  refine J_if_ne 16 (pc' := 10) dX6_rounds_7 (by decide) rfl (fun h_7 => ?_) (fun h_7 => ?_)
  · obtain ⟨N, hN, hN1, rfl⟩ := rng_ex (n := 60) (by omega) (jb_n h_7)
    refine J_aload_n (pc' := 17) dX6_rounds_16 rfl rfl ?_
    refine J_getR (pc' := 20) dX6_rounds_17 fl_6_12 (ly_0) (l84_0) rfl rfl ?_
    refine J_getI (pc' := 23) dX6_rounds_20 fl_6_171 (ly_1) (l84_1) rfl rfl ?_
    refine J_sipush (v := 9999) (pc' := 26) dX6_rounds_23 (by decide) rfl ?_
    refine J_iload_n (pc' := 27) dX6_rounds_26 rfl rfl ?_
    refine J_isub (pc' := 28) dX6_rounds_27 rfl ?_
    refine J_icmp_le 37 (pc' := 31) dX6_rounds_28 (by decide) rfl (fun h_28 => ?_) (fun h_28 => ?_)
    · refine J_iconst (v := 0) (pc' := 38) dX6_rounds_37 (by decide) rfl ?_
      refine J_istore_n (pc' := 39) dX6_rounds_38 (Nat.le_of_ble_eq_true rfl) (jst2 rfl rfl) rfl ?_
      refine l_rnd (w0 := w) rfl hI (by omega) (rnd_le hI (by omega) h_28) (fun w' q1 q2 q3 => ?_) N 0 (by omega) w rfl hX.1 (frF.rf 1 w)
      unfold sq_rounds
      rw [if_pos (jb_n h_7), if_pos (show abX w 1 6 2 ≤ 9999 - nI N from h_28), nn_nI (by omega)]
      exact ⟨rfl, bq_fr hX q3 q1 q2⟩
    · refine J_aload_n (pc' := 32) dX6_rounds_31 rfl rfl ?_
      refine J_iconst (v := 3) (pc' := 33) dX6_rounds_32 (by decide) rfl ?_
      refine J_V1v (pc' := 36) dX6_rounds_33 lk_6_69 cd_X6_error (k_err3) (ly_0) (l84_0) rfl rfl (jroom_of rfl) (Nat.le_of_ble_eq_true rfl) rfl ?_
      exact J_iret dX6_rounds_36  (by unfold sq_rounds; rw [if_pos (jb_n h_7), if_neg (show ¬ abX w 1 6 2 ≤ 9999 - nI N from h_28)]; exact ⟨rfl, bq_err hX (by decide)⟩)
  · refine J_aload_n (pc' := 11) dX6_rounds_10 rfl rfl ?_
    refine J_iconst (v := 1) (pc' := 12) dX6_rounds_11 (by decide) rfl ?_
    refine J_V1v (pc' := 15) dX6_rounds_12 lk_6_69 cd_X6_error (k_err1) (ly_0) (l84_0) rfl rfl (jroom_of rfl) (Nat.le_of_ble_eq_true rfl) rfl ?_
    exact J_iret dX6_rounds_15  (by unfold sq_rounds; rw [if_neg (fun q => by first | exact jb_0.mp h_7 q)]; exact ⟨rfl, bq_err hX (by decide)⟩)
def sq_loose (s k r : sg) (n : Int32) : sQI := if 1 ≤ n ∧ n ≤ 30 then (if s 6 2 ≤ 9999 - n then (nI (sCnt (sLoN s (nn n)) (sM (sLoN s (nn n)))), sLoN s (nn n), k, r) else (sErr 3, s, k, sEr r 3)) else (sErr 1, s, k, sEr r 1)
set_option maxHeartbeats 4000000 in
set_option maxRecDepth 100000 in
theorem a_X6_loose {G : jG} {w : jWd} (hX : XInv w) (hI : sInv (abX w 1)) {n : Int32} : jKp G 7 yX6_loose cX6_loose 3 (some .int) [.ref 0, .int n] w (some (.int (sq_loose (abX w 1) (abX w 16) (restX w) n).1)) (fun w' => BQ w w' (sq_loose (abX w 1) (abX w 16) (restX w) n).2) := by
  refine jK_of (own := RX6) [some (.ref 0), some (.int n), none] pn6 rfl (Nat.le_of_ble_eq_true rfl) rfl ?_
  refine J_iload_n (pc' := 1) dX6_loose_0 rfl rfl ?_
  refine J_iconst (v := 1) (pc' := 2) dX6_loose_1 (by decide) rfl ?_
  refine J_bipush (v := 30) (pc' := 4) dX6_loose_2 (by decide) rfl ?_
  refine J_S3v (pc' := 7) dX6_loose_4 lk_6_108 cd_X6_isWithin (k_X6_isWithin) (jroom_of rfl) (Nat.le_of_ble_eq_true rfl) rfl ?_
  refine J_if_ne 16 (pc' := 10) dX6_loose_7 (by decide) rfl (fun h_7 => ?_) (fun h_7 => ?_)
  · obtain ⟨N, hN, hN1, rfl⟩ := rng_ex (n := 30) (by omega) (jb_n h_7)
    refine J_aload_n (pc' := 17) dX6_loose_16 rfl rfl ?_
    refine J_getR (pc' := 20) dX6_loose_17 fl_6_12 (ly_0) (l84_0) rfl rfl ?_
    refine J_getI (pc' := 23) dX6_loose_20 fl_6_171 (ly_1) (l84_1) rfl rfl ?_
    refine J_sipush (v := 9999) (pc' := 26) dX6_loose_23 (by decide) rfl ?_
    refine J_iload_n (pc' := 27) dX6_loose_26 rfl rfl ?_
    refine J_isub (pc' := 28) dX6_loose_27 rfl ?_
    refine J_icmp_le 37 (pc' := 31) dX6_loose_28 (by decide) rfl (fun h_28 => ?_) (fun h_28 => ?_)
    · refine J_iconst (v := 0) (pc' := 38) dX6_loose_37 (by decide) rfl ?_
      refine J_istore_n (pc' := 39) dX6_loose_38 (Nat.le_of_ble_eq_true rfl) (jst2 rfl rfl) rfl ?_
      refine l_lse (w0 := w) rfl hI (by omega) (rnd_le hI (by omega) h_28) (fun w' q1 q2 q3 => ?_) N 0 (by omega) w rfl hX.1 (frF.rf 1 w)
      unfold sq_loose
      rw [if_pos (jb_n h_7), if_pos (show abX w 1 6 2 ≤ 9999 - nI N from h_28), nn_nI (by omega)]
      exact ⟨rfl, bq_fr hX q3 q1 q2⟩
    · refine J_aload_n (pc' := 32) dX6_loose_31 rfl rfl ?_
      refine J_iconst (v := 3) (pc' := 33) dX6_loose_32 (by decide) rfl ?_
      refine J_V1v (pc' := 36) dX6_loose_33 lk_6_69 cd_X6_error (k_err3) (ly_0) (l84_0) rfl rfl (jroom_of rfl) (Nat.le_of_ble_eq_true rfl) rfl ?_
      exact J_iret dX6_loose_36  (by unfold sq_loose; rw [if_pos (jb_n h_7), if_neg (show ¬ abX w 1 6 2 ≤ 9999 - nI N from h_28)]; exact ⟨rfl, bq_err hX (by decide)⟩)
  · refine J_aload_n (pc' := 11) dX6_loose_10 rfl rfl ?_
    refine J_iconst (v := 1) (pc' := 12) dX6_loose_11 (by decide) rfl ?_
    refine J_V1v (pc' := 15) dX6_loose_12 lk_6_69 cd_X6_error (k_err1) (ly_0) (l84_0) rfl rfl (jroom_of rfl) (Nat.le_of_ble_eq_true rfl) rfl ?_
    exact J_iret dX6_loose_15  (by unfold sq_loose; rw [if_neg (fun q => by first | exact jb_0.mp h_7 q)]; exact ⟨rfl, bq_err hX (by decide)⟩)
