/-! ===== blocks: weights, what a mark says ===== -/
/-! bits of small numbers -/
theorem zor (a b : Nat) : nI a ||| nI b = nI (a ||| b) := Int32.toBitVec_inj.mp (by
  show BitVec.ofNat 32 a ||| BitVec.ofNat 32 b = BitVec.ofNat 32 (a ||| b)
  exact (BitVec.ofNat_or).symm)
theorem zand (a b : Nat) : nI a &&& nI b = nI (a &&& b) := Int32.toBitVec_inj.mp (by
  show BitVec.ofNat 32 a &&& BitVec.ofNat 32 b = BitVec.ofNat 32 (a &&& b)
  exact (BitVec.ofNat_and).symm)
theorem zbit : ∀ S, S < 256 → ∀ k, k < 8 → (((nI S >>> (nI k &&& 31)) &&& 1 = 1) ↔ S.testBit k = true) := by decide +kernel
theorem zshl : ∀ k, k < 31 → (1 : Int32) <<< (nI k &&& 31) = nI (2 ^ k) := by decide +kernel
theorem zshr1 : ∀ t, t < 32 → nI t >>> ((1 : Int32) &&& 31) = nI (t >>> 1) := by decide +kernel
theorem zfp {x : Int32} (h1 : -1 ≤ x.toInt) (h2 : x.toInt < 100) : x + 1 = nI (x.toInt + 1).toNat := by
  obtain ⟨n, hn⟩ : ∃ n : Nat, x.toInt + 1 = n := ⟨(x.toInt + 1).toNat, by omega⟩
  rw [hn, Int.toNat_natCast]
  have e : x = nI n - 1 := by
    apply Int32.toInt_inj.mp
    rcases Nat.eq_zero_or_pos n with q | q
    · subst q; rw [show nI 0 - 1 = -1 from by decide, show (-1 : Int32).toInt = -1 from by decide]; omega
    · rw [jsub (a := n) (b := 1) rfl nIc_1 q, nI_toInt (by omega)]; omega
  rw [e, Int32.sub_add_cancel]
theorem zor32 : ∀ a, a < 32 → ∀ b, b < 32 → a ||| b < 32 := by decide +kernel
theorem zpw {n : Nat} (h : n < 5) : 2 ^ n < 32 := by
  have : n = 0 ∨ n = 1 ∨ n = 2 ∨ n = 3 ∨ n = 4 := by omega
  rcases this with rfl | rfl | rfl | rfl | rfl <;> decide
theorem zmax0 {v : Int32} : (if 0 < v then v else 0) = (if v < 0 then 0 else v) := by
  by_cases q : v < 0
  · rw [if_pos q, if_neg (fun q2 => Int32.not_lt.mpr (Int32.le_of_lt q2) q)]
  · rw [if_neg q]
    by_cases q2 : 0 < v
    · rw [if_pos q2]
    · rw [if_neg q2]; exact Int32.le_antisymm (Int32.not_lt.mp q) (Int32.not_lt.mp q2)
theorem zn0 {n : Nat} (h : n < 2 ^ 31) : nI n = 0 ↔ n = 0 := by
  rw [← nI_0, nI_eq h (by decide)]
/-! texts of a block -/
def xB (w : jWd) (b : Nat) : Prop := (∃ S, S < 256 ∧ w.1 b 9 = nI S) ∧ w.1 (b + 9) 1 = 1 ∧ w.1 (b + 9) 2 = 4 ∧ w.1 (b + 12) 1 = -30 ∧ w.1 (b + 12) 2 = 30
theorem sRun_congr {st st2 : Nat → Int32} (a b c : Int32) : ∀ n, (∀ i, i < n → st i = st2 i) → sRun st a b c n = sRun st2 a b c n
  | 0, _ => rfl
  | n + 1, h => by rw [sRun, sRun, h n (Nat.lt_succ_self n), sRun_congr a b c n (fun i hi => h i (Nat.lt_succ_of_lt hi))]
theorem sDep_congr {st st2 : Nat → Int32} : ∀ n, (∀ i, i < n → st i = st2 i) → sDep st n = sDep st2 n
  | 0, _ => rfl
  | n + 1, h => by rw [sDep, sDep, h n (Nat.lt_succ_self n), sDep_congr n (fun i hi => h i (Nat.lt_succ_of_lt hi))]
theorem sWf_congr {st st2 : Nat → Int32} {n : Nat} (h : ∀ i, i < n → st i = st2 i) (hw : sWf st n) : sWf st2 n := by
  refine ⟨fun i hi => ?_, fun h0 => by rw [← sDep_congr n h]; exact hw.2 h0⟩
  rw [← h i hi, ← sDep_congr i (fun j hj => h j (by omega))]
  exact hw.1 i hi
theorem sMM_held {lo hi v : Int32} (h : lo ≤ hi) : sMM lo hi v = sHeld v lo hi := by
  unfold sMM sHeld
  have h0 := Int32.le_iff_toInt_le.mp h
  by_cases h1 : v < hi
  · rw [if_pos h1]
    have q1 := Int32.lt_iff_toInt_lt.mp h1
    rw [if_neg (c := hi < v) (Int32.not_lt.mpr (Int32.le_iff_toInt_le.mpr (by omega)))]
    by_cases h2 : v < lo
    · have q2 := Int32.lt_iff_toInt_lt.mp h2
      rw [if_pos h2, if_neg (Int32.not_lt.mpr (Int32.le_iff_toInt_le.mpr (by omega)))]
    · rw [if_neg h2]
      by_cases h3 : lo < v
      · rw [if_pos h3]
      · rw [if_neg h3]
        have q2 := Int32.le_iff_toInt_le.mp (Int32.not_lt.mp h2)
        have q3 := Int32.le_iff_toInt_le.mp (Int32.not_lt.mp h3)
        exact Int32.toInt_inj.mp (by omega)
  · rw [if_neg h1]
    have q1 := Int32.le_iff_toInt_le.mp (Int32.not_lt.mp h1)
    rw [if_neg (c := v < lo) (Int32.not_lt.mpr (Int32.le_iff_toInt_le.mpr (by omega)))]
    by_cases h2 : hi < v
    · rw [if_pos h2]
      by_cases h3 : lo < hi
      · rw [if_pos h3]
      · rw [if_neg h3]
        have q3 := Int32.le_iff_toInt_le.mp (Int32.not_lt.mp h3)
        exact Int32.toInt_inj.mp (by omega)
    · rw [if_neg h2]
      have q2 := Int32.le_iff_toInt_le.mp (Int32.not_lt.mp h2)
      have e : v = hi := Int32.toInt_inj.mp (by omega)
      subst e
      by_cases h3 : lo < v
      · rw [if_pos h3]
      · rw [if_neg h3]
        have q3 := Int32.le_iff_toInt_le.mp (Int32.not_lt.mp h3)
        exact Int32.toInt_inj.mp (by omega)
theorem k_given {G : jG} {w : jWd} {t : Nat} (ht : jT t) {a b c : Int32} {N : Nat} (hN : N ≤ 60) (hcnt : w.1 t 5 = nI N) (hwf : sWf (w.1 (t + 1)) N) : jKd G 2 yX4_given cX4_given 7 (some .int) [.ref t, .int a, .int b, .int c] w (some (.int (sMM (w.1 t 1) (w.1 t 2) (if N = 0 then a else (sRun (w.1 (t + 1)) a b c N).headD 0)))) w := by
  refine jK_fine (fun w2 hq => ?_)
  have e1 := hq.1 t (by rw [lyt_0 ht]; exact (by decide : (10 : Nat) ≠ 5))
  have e2 := hq.1 (t + 1) (by rw [lyt_1 ht]; exact (by decide : (0 : Nat) ≠ 5))
  have h := kf_given (G := G) (w := w2) (a := a) (b := b) (c := c) ht hN (by rw [e1]; exact hcnt) (by rw [e2]; exact hwf)
  rw [e1, e2] at h
  exact h
theorem axC {w : jWd} {b : Nat} (hI : sInv (abX w b)) (u : Nat) (hu : u < 2) : abX w b 11 u = nI (sC (abX w b) u) ∧ sC (abX w b) u ≤ 60 ∧ sWf (abX w b (9 + u)) (sC (abX w b) u) := hI.2.2.2.2.2.2.2.2.2.1 u hu
/-- the text of a use, asked -/
theorem k_giv0 {G : jG} {w : jWd} {b : Nat} (hb : jB b) (hI : sInv (abX w b)) (hB : xB w b) {a p c : Int32} : jKd G 2 yX4_given cX4_given 7 (some .int) [.ref (b + 9), .int a, .int p, .int c] w (some (.int (sGiv (abX w b) 0 a p c))) w := by
  obtain ⟨h1, h2, h3⟩ := axC hI 0 (by decide)
  have hst : ∀ i, i < sC (abX w b) 0 → abX w b 9 i = w.1 (b + 10) i := fun i hi => if_pos hi
  have h := k_given (G := G) (w := w) (a := a) (b := p) (c := c) (jTb_0 hb) h2 h1 (sWf_congr hst h3)
  rw [hB.2.1, hB.2.2.1, sMM_held (by decide), ← sRun_congr a p c _ hst] at h
  exact h
theorem k_giv1 {G : jG} {w : jWd} {b : Nat} (hb : jB b) (hI : sInv (abX w b)) (hB : xB w b) {a p c : Int32} : jKd G 2 yX4_given cX4_given 7 (some .int) [.ref (b + 12), .int a, .int p, .int c] w (some (.int (sGiv (abX w b) 1 a p c))) w := by
  obtain ⟨h1, h2, h3⟩ := axC hI 1 (by decide)
  have hst : ∀ i, i < sC (abX w b) 1 → abX w b 10 i = w.1 (b + 13) i := fun i hi => if_pos hi
  have h := k_given (G := G) (w := w) (a := a) (b := p) (c := c) (jTb_1 hb) h2 h1 (sWf_congr hst h3)
  rw [hB.2.2.2.1, hB.2.2.2.2, sMM_held (by decide), ← sRun_congr a p c _ hst] at h
  exact h
set_option maxHeartbeats 4000000 in
set_option maxRecDepth 100000 in
theorem l_touching {G : jG} {w : jWd} {b : Nat} (hb : jB b) (hI : sInv (abX w b)) {p : Int32} : ∀ n i : Nat, i + n = sM (abX w b) → J G (jM G 1 RX0 cX0_touching 4 (some .int) (fun r' w' => r' = some (.int (nI (sTou (abX w b) p (sM (abX w b))))) ∧ w' = w)) w 4 [some (.ref b), some (.int p), some (.int (nI (sTou (abX w b) p i))), some (.int (nI i))] [] := by
  have hM : w.1 b 8 = nI (sM (abX w b)) := (sIM hI).1
  have hM8 := (sIM hI).2
  intro n
  induction n with
  | zero =>
    intro i hi
    refine J_iload_n (pc' := 5) dX0_touching_4 rfl rfl ?_
    refine J_aload_n (pc' := 6) dX0_touching_5 rfl rfl ?_
    refine J_getI (pc' := 9) dX0_touching_6 fl_0_72 (lyb_0 hb) (l84b_0 hb) rfl rfl ?_
    rw [hM]
    refine J_icmp_ge 49 (pc' := 12) dX0_touching_9 (by decide) rfl (fun h_9 => ?_) (fun h_9 => absurd (nI_le (by omega) (by omega)) h_9)
    refine J_iload_n (pc' := 50) dX0_touching_49 rfl rfl ?_
    have ei : i = sM (abX w b) := by omega
    subst ei
    exact J_iret dX0_touching_50  ⟨rfl, rfl⟩
  | succ n ih =>
    intro i hi
    have h8 : i < 8 := by omega
    refine J_iload_n (pc' := 5) dX0_touching_4 rfl rfl ?_
    refine J_aload_n (pc' := 6) dX0_touching_5 rfl rfl ?_
    refine J_getI (pc' := 9) dX0_touching_6 fl_0_72 (lyb_0 hb) (l84b_0 hb) rfl rfl ?_
    rw [hM]
    refine J_icmp_ge 49 (pc' := 12) dX0_touching_9 (by decide) rfl (fun h_9 => absurd h_9 (nI_ge (by omega) (by omega))) (fun h_9 => ?_)
    refine J_aload_n (pc' := 13) dX0_touching_12 rfl rfl ?_
    refine J_iload_n (pc' := 14) dX0_touching_13 rfl rfl ?_
    refine J_V1v (pc' := 17) dX0_touching_14 lk_0_104 cd_X0_isOn (k_X0_isOn hb h8) (lyb_0 hb) (l84b_0 hb) rfl rfl (jroom_of rfl) (Nat.le_of_ble_eq_true rfl) rfl ?_
    refine J_if_eq 43 (pc' := 20) dX0_touching_17 (by decide) rfl (fun h_17 => ?_) (fun h_17 => ?_)
    · refine J_iinc (pc' := 46) dX0_touching_43 rfl (Nat.le_of_ble_eq_true rfl) (jst3 rfl rfl) rfl ?_
      refine J_goto (pc' := 0) 4 dX0_touching_46 (by decide) ?_
      have e : sTou (abX w b) p (i + 1) = sTou (abX w b) p i := by rw [sTou, if_neg (fun q => by first | exact jb_0.mp h_17 q.1 | exact q.2.elim (fun q => h_27 ((ax2 h8).symm.trans q)) (fun q => h_37 ((ax3 h8).symm.trans q))), Nat.add_zero]
      have h2 := ih (i + 1) (by omega)
      rw [e, ← z1 i] at h2
      exact h2
    · refine J_aload_n (pc' := 21) dX0_touching_20 rfl rfl ?_
      refine J_getR (pc' := 24) dX0_touching_21 fl_0_18 (lyb_0 hb) (l84b_0 hb) rfl rfl ?_
      refine J_iload_n (pc' := 25) dX0_touching_24 rfl rfl ?_
      refine J_iald i (pc' := 26) dX0_touching_25 (lyb_3 hb) (l84b_3 hb) rfl h8 (by decide) rfl ?_
      refine J_iload_n (pc' := 27) dX0_touching_26 rfl rfl ?_
      refine J_icmp_eq 40 (pc' := 30) dX0_touching_27 (by decide) rfl (fun h_27 => ?_) (fun h_27 => ?_)
      · refine J_iinc (pc' := 43) dX0_touching_40 rfl (Nat.le_of_ble_eq_true rfl) (jst2 rfl rfl) rfl ?_
        refine J_iinc (pc' := 46) dX0_touching_43 rfl (Nat.le_of_ble_eq_true rfl) (jst3 rfl rfl) rfl ?_
        refine J_goto (pc' := 0) 4 dX0_touching_46 (by decide) ?_
        have e : sTou (abX w b) p (i + 1) = sTou (abX w b) p i + 1 := by rw [sTou, if_pos ⟨jb_n h_17, by first | exact Or.inl ((ax2 h8).trans h_27) | exact Or.inr ((ax3 h8).trans h_37)⟩]
        have h2 := ih (i + 1) (by omega)
        rw [e, ← z1 i, ← z1 (sTou (abX w b) p i)] at h2
        exact h2
      · refine J_aload_n (pc' := 31) dX0_touching_30 rfl rfl ?_
        refine J_getR (pc' := 34) dX0_touching_31 fl_0_21 (lyb_0 hb) (l84b_0 hb) rfl rfl ?_
        refine J_iload_n (pc' := 35) dX0_touching_34 rfl rfl ?_
        refine J_iald i (pc' := 36) dX0_touching_35 (lyb_4 hb) (l84b_4 hb) rfl h8 (by decide) rfl ?_
        refine J_iload_n (pc' := 37) dX0_touching_36 rfl rfl ?_
        refine J_icmp_ne 43 (pc' := 40) dX0_touching_37 (by decide) rfl (fun h_37 => ?_) (fun h_37 => ?_)
        · refine J_iinc (pc' := 46) dX0_touching_43 rfl (Nat.le_of_ble_eq_true rfl) (jst3 rfl rfl) rfl ?_
          refine J_goto (pc' := 0) 4 dX0_touching_46 (by decide) ?_
          have e : sTou (abX w b) p (i + 1) = sTou (abX w b) p i := by rw [sTou, if_neg (fun q => by first | exact jb_0.mp h_17 q.1 | exact q.2.elim (fun q => h_27 ((ax2 h8).symm.trans q)) (fun q => h_37 ((ax3 h8).symm.trans q))), Nat.add_zero]
          have h2 := ih (i + 1) (by omega)
          rw [e, ← z1 i] at h2
          exact h2
        · refine J_iinc (pc' := 43) dX0_touching_40 rfl (Nat.le_of_ble_eq_true rfl) (jst2 rfl rfl) rfl ?_
          refine J_iinc (pc' := 46) dX0_touching_43 rfl (Nat.le_of_ble_eq_true rfl) (jst3 rfl rfl) rfl ?_
          refine J_goto (pc' := 0) 4 dX0_touching_46 (by decide) ?_
          have e : sTou (abX w b) p (i + 1) = sTou (abX w b) p i + 1 := by rw [sTou, if_pos ⟨jb_n h_17, by first | exact Or.inl ((ax2 h8).trans h_27) | exact Or.inr ((ax3 h8).trans h_37)⟩]
          have h2 := ih (i + 1) (by omega)
          rw [e, ← z1 i, ← z1 (sTou (abX w b) p i)] at h2
          exact h2
set_option maxHeartbeats 4000000 in
set_option maxRecDepth 100000 in
theorem k_X0_touching {G : jG} {w : jWd} {b : Nat} (hb : jB b) (hI : sInv (abX w b)) {p : Int32} : jKd G 1 yX0_touching cX0_touching 4 (some .int) [.ref b, .int p] w (some (.int (nI (sTou (abX w b) p (sM (abX w b)))))) w := by
  refine jK_of (own := RX0) [some (.ref b), some (.int p), none, none] pn0 rfl (Nat.le_of_ble_eq_true rfl) rfl ?_
  refine J_iconst (v := 0) (pc' := 1) dX0_touching_0 (by decide) rfl ?_
  refine J_istore_n (pc' := 2) dX0_touching_1 (Nat.le_of_ble_eq_true rfl) (jst2 rfl rfl) rfl ?_
  refine J_iconst (v := 0) (pc' := 3) dX0_touching_2 (by decide) rfl ?_
  refine J_istore_n (pc' := 4) dX0_touching_3 (Nat.le_of_ble_eq_true rfl) (jst3 rfl rfl) rfl ?_
  exact l_touching hb hI (sM (abX w b)) 0 (by omega)
set_option maxHeartbeats 4000000 in
set_option maxRecDepth 100000 in
theorem k_X0_read {G : jG} {w : jWd} {b : Nat} (hb : jB b) (hI : sInv (abX w b)) {k : Nat} (hk : k < sM (abX w b)) : jKd G 1 yX0_read cX0_read 3 (some .int) [.ref b, .int (nI k)] w (some (.int (sRd (abX w b) k))) w := by
  have h8 : k < 8 := Nat.lt_of_lt_of_le hk (sIM hI).2
  obtain ⟨⟨_, _⟩, ⟨hm0, hm9⟩, _, _, _, _, _⟩ := sIk hI hk
  rw [ax1 h8] at hm0 hm9
  have hmx : (if (1 : Int32) < w.1 (b + 2) k + 1 then w.1 (b + 2) k + 1 else 1) = w.1 (b + 2) k + 1 := by
    obtain ⟨n, hn⟩ : ∃ n : Nat, (w.1 (b + 2) k).toInt = n := ⟨(w.1 (b + 2) k).toInt.toNat, by omega⟩
    have e : w.1 (b + 2) k = nI n := Int32.toInt_inj.mp (by rw [hn, nI_toInt (by omega)])
    rw [e, nI_1]
    rcases Nat.eq_zero_or_pos n with q | q
    · subst q; decide
    · rw [if_pos (by rw [nIc_1]; exact nI_lt (by omega) (by omega))]
  have hne : ¬ (if (1 : Int32) < w.1 (b + 2) k + 1 then w.1 (b + 2) k + 1 else 1) = 0 := by
    rw [hmx]
    obtain ⟨n, hn⟩ : ∃ n : Nat, (w.1 (b + 2) k).toInt = n := ⟨(w.1 (b + 2) k).toInt.toNat, by omega⟩
    have e : w.1 (b + 2) k = nI n := Int32.toInt_inj.mp (by rw [hn, nI_toInt (by omega)])
    rw [e, nI_1]
    exact nI_ne0 (by omega) (by omega)
  refine jK_of (own := RX0) [some (.ref b), some (.int (nI k)), none] pn0 rfl (Nat.le_of_ble_eq_true rfl) rfl ?_
  refine J_aload_n (pc' := 1) dX0_read_0 rfl rfl ?_
  refine J_getR (pc' := 4) dX0_read_1 fl_0_24 (lyb_0 hb) (l84b_0 hb) rfl rfl ?_
  refine J_iload_n (pc' := 5) dX0_read_4 rfl rfl ?_
  refine J_iald k (pc' := 6) dX0_read_5 (lyb_5 hb) (l84b_5 hb) rfl (by omega) (by decide) rfl ?_
  refine J_istore_n (pc' := 7) dX0_read_6 (Nat.le_of_ble_eq_true rfl) (jst2 rfl rfl) rfl ?_
  refine J_aload_n (pc' := 8) dX0_read_7 rfl rfl ?_
  refine J_getR (pc' := 11) dX0_read_8 fl_0_9 (lyb_0 hb) (l84b_0 hb) rfl rfl ?_
  refine J_iload_n (pc' := 12) dX0_read_11 rfl rfl ?_
  refine J_iald k (pc' := 13) dX0_read_12 (lyb_1 hb) (l84b_1 hb) rfl h8 (by decide) rfl ?_
  by_cases e13_3 : w.1 (b + 1) k = 3
  · refine J_tabIn (pc' := 0) (off := 31) 44 dX0_read_13 (by rw [e13_3]; decide) (by rw [e13_3]; decide) (by rw [e13_3]; decide) (by decide) ?_
    refine J_iload_n (pc' := 45) dX0_read_44 rfl rfl ?_
    refine J_aload_n (pc' := 46) dX0_read_45 rfl rfl ?_
    refine J_getR (pc' := 49) dX0_read_46 fl_0_15 (lyb_0 hb) (l84b_0 hb) rfl rfl ?_
    refine J_iload_n (pc' := 50) dX0_read_49 rfl rfl ?_
    refine J_iald k (pc' := 51) dX0_read_50 (lyb_2 hb) (l84b_2 hb) rfl (by omega) (by decide) rfl ?_
    refine J_iconst (v := 3) (pc' := 52) dX0_read_51 (by decide) rfl ?_
    refine J_irem (pc' := 53) dX0_read_52 (by decide) rfl ?_
    refine J_iadd (pc' := 54) dX0_read_53 rfl ?_
    refine J_iconst (v := 1) (pc' := 55) dX0_read_54 (by decide) rfl ?_
    refine J_isub (pc' := 56) dX0_read_55 rfl ?_
    exact J_iret dX0_read_56  ⟨jv (by unfold sRd; rw [ax0 h8, if_pos e13_3, ax4 h8, ax1 h8]), rfl⟩
  by_cases e13_4 : w.1 (b + 1) k = 4
  · refine J_tabIn (pc' := 0) (off := 44) 57 dX0_read_13 (by rw [e13_4]; decide) (by rw [e13_4]; decide) (by rw [e13_4]; decide) (by decide) ?_
    refine J_iload_n (pc' := 58) dX0_read_57 rfl rfl ?_
    refine J_aload_n (pc' := 59) dX0_read_58 rfl rfl ?_
    refine J_getI (pc' := 62) dX0_read_59 fl_0_78 (lyb_0 hb) (l84b_0 hb) rfl rfl ?_
    refine J_iconst (v := 1) (pc' := 63) dX0_read_62 (by decide) rfl ?_
    refine J_aload_n (pc' := 64) dX0_read_63 rfl rfl ?_
    refine J_getR (pc' := 67) dX0_read_64 fl_0_15 (lyb_0 hb) (l84b_0 hb) rfl rfl ?_
    refine J_iload_n (pc' := 68) dX0_read_67 rfl rfl ?_
    refine J_iald k (pc' := 69) dX0_read_68 (lyb_2 hb) (l84b_2 hb) rfl h8 (by decide) rfl ?_
    refine J_iconst (v := 1) (pc' := 70) dX0_read_69 (by decide) rfl ?_
    refine J_iadd (pc' := 71) dX0_read_70 rfl ?_
    refine J_mmax (pc' := 74) dX0_read_71 lm_0_94 rfl rfl ?_
    refine J_irem (pc' := 75) dX0_read_74 hne rfl ?_
    refine J_iadd (pc' := 76) dX0_read_75 rfl ?_
    exact J_iret dX0_read_76  ⟨jv (by unfold sRd; rw [ax0 h8, if_neg e13_3, if_pos e13_4, ax4 h8, ax1 h8, hmx]; rfl), rfl⟩
  by_cases e13_5 : w.1 (b + 1) k = 5
  · refine J_tabIn (pc' := 0) (off := 64) 77 dX0_read_13 (by rw [e13_5]; decide) (by rw [e13_5]; decide) (by rw [e13_5]; decide) (by decide) ?_
    refine J_iconst (v := 2) (pc' := 78) dX0_read_77 (by decide) rfl ?_
    refine J_iload_n (pc' := 79) dX0_read_78 rfl rfl ?_
    refine J_iconst (v := 2) (pc' := 80) dX0_read_79 (by decide) rfl ?_
    refine J_idiv (pc' := 81) dX0_read_80 (by decide) rfl ?_
    refine J_imul (pc' := 82) dX0_read_81 rfl ?_
    exact J_iret dX0_read_82  ⟨jv (by unfold sRd; rw [ax0 h8, if_neg e13_3, if_neg e13_4, if_pos e13_5, ax4 h8]), rfl⟩
  by_cases e13_6 : w.1 (b + 1) k = 6
  · refine J_tabIn (pc' := 0) (off := 70) 83 dX0_read_13 (by rw [e13_6]; decide) (by rw [e13_6]; decide) (by rw [e13_6]; decide) (by decide) ?_
    refine J_iconst (v := 0) (pc' := 84) dX0_read_83 (by decide) rfl ?_
    refine J_iload_n (pc' := 85) dX0_read_84 rfl rfl ?_
    refine J_mmax (pc' := 88) dX0_read_85 lm_0_94 rfl rfl ?_
    refine J_aload_n (pc' := 89) dX0_read_88 rfl rfl ?_
    refine J_getR (pc' := 92) dX0_read_89 fl_0_15 (lyb_0 hb) (l84b_0 hb) rfl rfl ?_
    refine J_iload_n (pc' := 93) dX0_read_92 rfl rfl ?_
    refine J_iald k (pc' := 94) dX0_read_93 (lyb_2 hb) (l84b_2 hb) rfl (by omega) (by decide) rfl ?_
    refine J_isub (pc' := 95) dX0_read_94 rfl ?_
    exact J_iret dX0_read_95  ⟨jv (by unfold sRd; rw [ax0 h8, if_neg e13_3, if_neg e13_4, if_neg e13_5, if_pos e13_6, ax4 h8, ax1 h8, zmax0]), rfl⟩
  refine J_tabOut (pc' := 0) 96 dX0_read_13 (by have q0 := zneI e13_3 (k := 3) (by decide); have q1 := zneI e13_4 (k := 4) (by decide); have q2 := zneI e13_5 (k := 5) (by decide); have q3 := zneI e13_6 (k := 6) (by decide); omega) (by decide) ?_
  refine J_iload_n (pc' := 97) dX0_read_96 rfl rfl ?_
  exact J_iret dX0_read_97  ⟨jv (by unfold sRd; rw [ax0 h8, if_neg e13_3, if_neg e13_4, if_neg e13_5, if_neg e13_6, ax4 h8]), rfl⟩
set_option maxHeartbeats 4000000 in
set_option maxRecDepth 100000 in
theorem k_X0_weightOf {G : jG} {w : jWd} {b : Nat} (hb : jB b) (hI : sInv (abX w b)) (hB : xB w b) {k : Nat} (hk : k < sM (abX w b)) : jKd G 3 yX0_weightOf cX0_weightOf 3 (some .int) [.ref b, .int (nI k)] w (some (.int (sW (abX w b) k))) w := by
  have hR : w.1 b 11 = nI (sR (abX w b)) := (sIR hI).1
  have hR2 := (sIR hI).2
  have h8 : k < 8 := Nat.lt_of_lt_of_le hk (sIM hI).2
  have hq : nI (sR (abX w b)) - nI (sR (abX w b)) / 8 * 8 = sR8 (abX w b) := zrem (by omega) (by decide) (by decide)
  refine jK_of (own := RX0) [some (.ref b), some (.int (nI k)), none] pn0 rfl (Nat.le_of_ble_eq_true rfl) rfl ?_
  refine J_aload_n (pc' := 1) dX0_weightOf_0 rfl rfl ?_
  refine J_aload_n (pc' := 2) dX0_weightOf_1 rfl rfl ?_
  refine J_getR (pc' := 5) dX0_weightOf_2 fl_0_21 (lyb_0 hb) (l84b_0 hb) rfl rfl ?_
  refine J_iload_n (pc' := 6) dX0_weightOf_5 rfl rfl ?_
  refine J_iald k (pc' := 7) dX0_weightOf_6 (lyb_4 hb) (l84b_4 hb) rfl h8 (by decide) rfl ?_
  refine J_V1v (pc' := 10) dX0_weightOf_7 lk_0_108 cd_X0_touching (k_X0_touching hb hI) (lyb_0 hb) (l84b_0 hb) rfl rfl (jroom_of rfl) (Nat.le_of_ble_eq_true rfl) rfl ?_
  refine J_istore_n (pc' := 11) dX0_weightOf_10 (Nat.le_of_ble_eq_true rfl) (jst2 rfl rfl) rfl ?_
  refine J_aload_n (pc' := 12) dX0_weightOf_11 rfl rfl ?_
  refine J_getR (pc' := 15) dX0_weightOf_12 fl_0_42 (lyb_0 hb) (l84b_0 hb) rfl rfl ?_
  refine J_iconst (v := 0) (pc' := 16) dX0_weightOf_15 (by decide) rfl ?_
  refine J_aald 0 (pc' := 17) dX0_weightOf_16 (lyb_8 hb) (Or.inr (Or.inr rfl)) (l84b_8 hb) nIc_0 rfl (by decide) (by decide) rfl ?_
  refine J_aload_n (pc' := 18) dX0_weightOf_17 rfl rfl ?_
  refine J_iload_n (pc' := 19) dX0_weightOf_18 rfl rfl ?_
  refine J_iload_n (pc' := 20) dX0_weightOf_19 rfl rfl ?_
  refine J_V2v (pc' := 23) dX0_weightOf_20 lk_0_111 cd_X0_weighed (k_X0_weighed hb hI h8) (lyb_0 hb) (l84b_0 hb) rfl rfl (jroom_of rfl) (Nat.le_of_ble_eq_true rfl) rfl ?_
  refine J_iload_n (pc' := 24) dX0_weightOf_23 rfl rfl ?_
  refine J_aload_n (pc' := 25) dX0_weightOf_24 rfl rfl ?_
  refine J_getI (pc' := 28) dX0_weightOf_25 fl_0_78 (lyb_0 hb) (l84b_0 hb) rfl rfl ?_
  rw [hR]
  refine J_bipush (v := 8) (pc' := 30) dX0_weightOf_28 (by decide) rfl ?_
  refine J_irem (pc' := 31) dX0_weightOf_30 (by decide) rfl ?_
  rw [hq]
  refine J_V3v (pc' := 34) dX0_weightOf_31 lk_0_114 cd_X4_given (k_giv0 hb hI hB) (lyb_9 hb) (l84b_9 hb) rfl rfl (jroom_of rfl) (Nat.le_of_ble_eq_true rfl) rfl ?_
  exact J_iret dX0_weightOf_34  ⟨jv (by unfold sW sTch; rw [ax3 h8]), rfl⟩
set_option maxHeartbeats 4000000 in
set_option maxRecDepth 100000 in
theorem k_X0_saidBy {G : jG} {w : jWd} {b : Nat} (hb : jB b) (hI : sInv (abX w b)) (hB : xB w b) {k : Nat} (hk : k < sM (abX w b)) : jKd G 3 yX0_saidBy cX0_saidBy 2 (some .int) [.ref b, .int (nI k)] w (some (.int (sS (abX w b) k))) w := by
  have hR : w.1 b 11 = nI (sR (abX w b)) := (sIR hI).1
  have hR2 := (sIR hI).2
  have h8 : k < 8 := Nat.lt_of_lt_of_le hk (sIM hI).2
  have hq : nI (sR (abX w b)) - nI (sR (abX w b)) / 8 * 8 = sR8 (abX w b) := zrem (by omega) (by decide) (by decide)
  refine jK_of (own := RX0) [some (.ref b), some (.int (nI k))] pn0 rfl (Nat.le_of_ble_eq_true rfl) rfl ?_
  refine J_aload_n (pc' := 1) dX0_saidBy_0 rfl rfl ?_
  refine J_getR (pc' := 4) dX0_saidBy_1 fl_0_42 (lyb_0 hb) (l84b_0 hb) rfl rfl ?_
  refine J_iconst (v := 1) (pc' := 5) dX0_saidBy_4 (by decide) rfl ?_
  refine J_aald 1 (pc' := 6) dX0_saidBy_5 (lyb_8 hb) (Or.inr (Or.inr rfl)) (l84b_8 hb) nIc_1 rfl (by decide) (by decide) rfl ?_
  refine J_aload_n (pc' := 7) dX0_saidBy_6 rfl rfl ?_
  refine J_iload_n (pc' := 8) dX0_saidBy_7 rfl rfl ?_
  refine J_V1v (pc' := 11) dX0_saidBy_8 lk_0_121 cd_X0_read (k_X0_read hb hI hk) (lyb_0 hb) (l84b_0 hb) rfl rfl (jroom_of rfl) (Nat.le_of_ble_eq_true rfl) rfl ?_
  refine J_aload_n (pc' := 12) dX0_saidBy_11 rfl rfl ?_
  refine J_getR (pc' := 15) dX0_saidBy_12 fl_0_24 (lyb_0 hb) (l84b_0 hb) rfl rfl ?_
  refine J_iload_n (pc' := 16) dX0_saidBy_15 rfl rfl ?_
  refine J_iald k (pc' := 17) dX0_saidBy_16 (lyb_5 hb) (l84b_5 hb) rfl h8 (by decide) rfl ?_
  refine J_aload_n (pc' := 18) dX0_saidBy_17 rfl rfl ?_
  refine J_getI (pc' := 21) dX0_saidBy_18 fl_0_78 (lyb_0 hb) (l84b_0 hb) rfl rfl ?_
  rw [hR]
  refine J_bipush (v := 8) (pc' := 23) dX0_saidBy_21 (by decide) rfl ?_
  refine J_irem (pc' := 24) dX0_saidBy_23 (by decide) rfl ?_
  rw [hq]
  refine J_V3v (pc' := 27) dX0_saidBy_24 lk_0_114 cd_X4_given (k_giv1 hb hI hB) (lyb_12 hb) (l84b_12 hb) rfl rfl (jroom_of rfl) (Nat.le_of_ble_eq_true rfl) rfl ?_
  exact J_iret dX0_saidBy_27  ⟨jv (by unfold sS; rw [ax4 h8]), rfl⟩
