/-! ===== pure: what should have been told, the least limit ===== -/
/-! what should have been told; the least limit -/
theorem tol_sum {σ : sg} (hI : sInv σ) (hH : mHol σ) {k i : Nat} (hi : i < 41) : sSum (sg1 σ 4 k (tw i)) = sSm (sg1 σ 4 k (tw i)) (mLn (sg1 σ 4 k (tw i))) (mAb (sg1 σ 4 k (tw i))) (sM (sg1 σ 4 k (tw i))) ∧ (-1 : Int64) < sSum (sg1 σ 4 k (tw i)) ∧ sSum (sg1 σ 4 k (tw i)) < 9223372036854775807 := by
  have hI2 := inv_4 (k := k) hI (tw_in i hi).2
  have hH2 : mHol (sg1 σ 4 k (tw i)) := mHol_4.mpr hH
  generalize sg1 σ 4 k (tw i) = τ at hI2 hH2
  obtain ⟨e1, e2⟩ := fm_eq hI2 hH2
  have hq := qS_b hI2 hH2
  have e : sSum τ = sSm τ (mLn τ) (mAb τ) (sM τ) := sm_c hI2 e1 e2 _ (Nat.le_refl _)
  refine ⟨e, ?_, ?_⟩
  · rw [e, sm_v hI2 _ (Nat.le_refl _)]
    exact (iL_lt (x := -1) (y := qS τ (sM τ)) (by decide) (by omega)).mpr (by omega)
  · rw [e, sm_v hI2 _ (Nat.le_refl _)]
    exact (iL_lt (x := qS τ (sM τ)) (y := 9223372036854775807) (by omega) (by decide)).mpr (by omega)
theorem tol_eq {σ : sg} (hI : sInv σ) (hH : mHol σ) {k : Nat} : ∀ i, i + 1 ≤ 41 → mTol σ k (i + 1) = sTol σ k (i + 1) ∧ (-1 : Int64) < (mTol σ k (i + 1)).2
  | 0, _ => by
    obtain ⟨e, h1, h2⟩ := tol_sum hI hH (k := k) (i := 0) (by omega)
    rw [mTol, sTol, ← e]
    have h0 : (mTol σ k 0).2 < 0 := (by decide : (-1 : Int64) < 0)
    rw [if_pos (Or.inl h0), if_pos (show sSum (sg1 σ 4 k (tw 0)) < (sTol σ k 0).2 from h2)]
    exact ⟨rfl, h1⟩
  | i + 1, hi => by
    obtain ⟨e, h1, h2⟩ := tol_sum hI hH (k := k) (i := i + 1) (by omega)
    obtain ⟨q1, q2⟩ := tol_eq hI hH (k := k) i (by omega)
    rw [mTol, sTol, ← e, ← q1]
    have hn : ¬ (mTol σ k (i + 1)).2 < 0 := fun q => by
      have a := Int64.lt_iff_toInt_lt.mp q
      have b := Int64.lt_iff_toInt_lt.mp q2
      rw [show (0 : Int64).toInt = 0 from by decide] at a
      rw [show (-1 : Int64).toInt = -1 from by decide] at b
      omega
    by_cases c : sSum (sg1 σ 4 k (tw (i + 1))) < (mTol σ k (i + 1)).2
    · rw [if_pos (Or.inr c), if_pos c]; exact ⟨rfl, h1⟩
    · rw [if_neg (fun q => q.elim hn c), if_neg c]; exact ⟨rfl, q2⟩
theorem toldFor_eq {s : sg} (hI : sInv s) (k r : sg) (x : Int32) : sm_toldFor s k r x = sq_toldFor s k r x := by
  unfold sm_toldFor sq_toldFor
  by_cases hc : sIsM s x
  · rw [if_pos hc, if_pos hc]
    by_cases hH : mHol s
    · rw [if_pos hH, if_pos hH]
      unfold sTolA
      rw [(tol_eq hI hH (k := nn x) 40 (by omega)).1]
    · rw [if_neg hH, if_neg hH]
  · rw [if_neg hc, if_neg hc]
/-! the limit is not asked but in a round -/
def s63 (σ τ : sg) : Prop := (∀ f, f ≠ 6 → τ f = σ f) ∧ τ 6 0 = σ 6 0 ∧ τ 6 1 = σ 6 1 ∧ τ 6 2 = σ 6 2
theorem s63_set (σ : sg) (v : Int32) : s63 σ (sg1 σ 6 3 v) := ⟨fun f hf => funext (fun k => sg1_f hf), sg1_k (by decide), sg1_k (by decide), sg1_k (by decide)⟩
theorem c63_M {σ τ : sg} (h : s63 σ τ) : sM τ = sM σ := by unfold sM; rw [h.2.1]
theorem c63_P {σ τ : sg} (h : s63 σ τ) : sP τ = sP σ := by unfold sP; rw [h.2.2.1]
theorem c63_R {σ τ : sg} (h : s63 σ τ) : sR τ = sR σ := by unfold sR; rw [h.2.2.2]
theorem c63_tou {σ τ : sg} (h : s63 σ τ) (p : Int32) : ∀ n, sTou τ p n = sTou σ p n
  | 0 => rfl
  | n + 1 => by rw [sTou, sTou, c63_tou h p n, h.1 5 (by decide), h.1 2 (by decide), h.1 3 (by decide)]
theorem c63_giv {σ τ : sg} (h : s63 σ τ) {u : Nat} (hu : u < 2) (a b c : Int32) : sGiv τ u a b c = sGiv σ u a b c := by
  unfold sGiv sC
  rw [h.1 11 (by decide), h.1 (9 + u) (by omega)]
theorem c63_W {σ τ : sg} (h : s63 σ τ) (k : Nat) : sW τ k = sW σ k := by
  unfold sW sTch sWd sR8
  rw [c63_giv h (by decide), h.1 0 (by decide), h.1 1 (by decide), h.1 3 (by decide), c63_tou h, c63_M h, c63_R h]
theorem c63_S {σ τ : sg} (h : s63 σ τ) (k : Nat) : sS τ k = sS σ k := by
  unfold sS sRd sR8
  rw [c63_giv h (by decide), h.1 0 (by decide), h.1 1 (by decide), h.1 4 (by decide), h.2.2.2, c63_R h]
theorem c63_on {σ τ : sg} (h : s63 σ τ) : ∀ n, sOn τ n = sOn σ n
  | 0 => rfl
  | n + 1 => by rw [sOn, sOn, c63_on h n, h.1 5 (by decide)]
theorem c63_set {σ τ : sg} (h : s63 σ τ) : sSet τ = sSet σ := by unfold sSet; rw [c63_M h, c63_on h]
theorem c63_pass {σ τ : sg} (h : s63 σ τ) (S : Nat) : ∀ n t, sPass τ S n t = sPass σ S n t
  | 0, _ => rfl
  | n + 1, t => by rw [sPass, sPass, c63_pass h S n t, h.1 2 (by decide), h.1 3 (by decide)]
theorem c63_passes {σ τ : sg} (h : s63 σ τ) (S : Nat) : ∀ n, sPasses τ S n = sPasses σ S n
  | 0 => rfl
  | n + 1 => by rw [sPasses, sPasses, c63_passes h S n, c63_pass h, c63_M h]
theorem c63_tied {σ τ : sg} (h : s63 σ τ) : sTied τ (sSet τ) = sTied σ (sSet σ) := by unfold sTied; rw [c63_set h, c63_passes h, c63_P h]
theorem c63_entN {σ τ : sg} (h : s63 σ τ) (M : Nat → Nat → Int64) : ∀ n, sEntN τ M n = sEntN σ M n
  | 0 => rfl
  | n + 1 => by rw [sEntN, sEntN, c63_entN h M n, h.1 5 (by decide), h.1 2 (by decide), h.1 3 (by decide), c63_W h, c63_S h]
theorem c63_fnd {σ τ : sg} (h : s63 σ τ) (M : Nat → Nat → Int64) : sFnd τ M = sFnd σ M := by unfold sFnd; rw [c63_entN h, c63_M h, c63_P h]
theorem c63_ln {σ τ : sg} (h : s63 σ τ) : fLn τ = fLn σ := by unfold fLn; rw [c63_fnd h]
theorem c63_ab {σ τ : sg} (h : s63 σ τ) : fAb τ = fAb σ := by funext j; unfold fAb; rw [c63_fnd h]
theorem c63_dbt {σ τ : sg} (h : s63 σ τ) (l : Int64) (p : Nat → Int64) (k : Nat) : sDbt τ l p k = sDbt σ l p k := by
  unfold sDbt sMisX
  rw [c63_W h, c63_S h, h.1 2 (by decide), h.1 3 (by decide)]
theorem c63_mo {σ τ : sg} (h : s63 σ τ) (l : Int64) (p : Nat → Int64) : ∀ n, sMo τ l p n = sMo σ l p n
  | 0 => rfl
  | n + 1 => by rw [sMo, sMo, c63_mo h l p n, c63_dbt h, h.1 5 (by decide)]
theorem c63_mst {σ τ : sg} (h : s63 σ τ) : sMst τ = sMst σ := by unfold sMst; rw [c63_mo h, c63_ln h, c63_ab h, c63_M h]
theorem c63_goC (σ : sg) (v : Int32) : sGoC (sg1 σ 6 3 v) ↔ sTied σ (sSet σ) = 2 ^ sP σ - 1 ∧ ¬ sMst σ < 0 ∧ v.toInt64 * fLn σ < sDbt σ (fLn σ) (fAb σ) (nn (sMst σ)) := by
  have h := s63_set σ v
  unfold sGoC
  rw [c63_tied h, c63_P h, c63_mst h, c63_ln h, c63_ab h, c63_dbt h, sg1_at]
/-- how much a limit must be that none goes now -/
theorem lst_v {σ : sg} (hI : sInv σ) : ∃ n : Nat, n ≤ 2 ^ 36 ∧ sLst σ = lN n ∧ ∀ v, v ≤ 99 → (sGoC (sg1 σ 6 3 (nI v)) ↔ v < n) := by
  by_cases hH : mHol σ
  · obtain ⟨e1, e2⟩ := fm_eq hI hH
    obtain ⟨k, hk, ek, -⟩ := mMst_ex hI hH
    have hM := mst_eq hI hH
    have h8 := (sIM hI).2
    have hL := lPl_b hI hH
    have hd := dI_b hI hH hk
    have hk0 : ¬ (nI k : Int32) < 0 := fun q => by
      have := Int32.lt_iff_toInt_lt.mp q
      rw [nI_toInt (by omega), show (0 : Int32).toInt = 0 from by decide] at this
      omega
    have eD : sDbt σ (fLn σ) (fAb σ) (nn (sMst σ)) = iL (dI σ k) := by
      rw [hM, ek, nn_nI (by omega), dbt_c hI hk e1 e2, dbt_v hI hH hk]
    have eL : fLn σ = iL (lPl σ) := e1.trans (ln_v hI)
    have key : ∀ v : Nat, v ≤ 99 → (sGoC (sg1 σ 6 3 (nI v)) ↔ (v : Int) * lPl σ < dI σ k) := fun v hv => by
      have hb := nb_mul (x := (v : Int)) (y := lPl σ) (A := 99) (B := 2 ^ 20) (by omega) (by omega)
      rw [c63_goC, eD, eL, hM, ek, iL_32, nI_toInt (by omega), iL_mul, iL_lt (by omega) (by omega)]
      exact ⟨fun q => q.2.2, fun q => ⟨hH, hk0, q⟩⟩
    have h0 : 0 ≤ (dI σ k + lPl σ - 1) / lPl σ := Int.ediv_nonneg (by omega) (by omega)
    have h1 : (dI σ k + lPl σ - 1) / lPl σ ≤ dI σ k + lPl σ - 1 := Int.ediv_le_self _ (by omega)
    refine ⟨((dI σ k + lPl σ - 1) / lPl σ).toNat, by omega, ?_, fun v hv => (key v hv).trans ?_⟩
    · unfold sLst
      rw [if_pos (show sTied σ (sSet σ) = 2 ^ sP σ - 1 from hH), if_pos (by rw [hM, ek]; exact Int32.not_lt.mp hk0), eD, eL]
      unfold sQuo
      rw [if_neg (fun q => by have := (iL_e (by omega) (by decide)).mp (q.trans iL_0.symm); omega), iL_add, ← iL_1, iL_sub]
      apply Int64.toInt_inj.mp
      rw [Int64.toInt_div_of_ne_right _ _ (fun e => by have h := congrArg Int64.toInt e; rw [iL_t (by omega), show (-1 : Int64).toInt = -1 from by decide] at h; omega), iL_t (by omega), iL_t (by omega), lNt (by omega), Int.tdiv_eq_ediv_of_nonneg (by omega)]
      omega
    · have e : (v < ((dI σ k + lPl σ - 1) / lPl σ).toNat) ↔ ((v : Int) + 1 ≤ (dI σ k + lPl σ - 1) / lPl σ) := by omega
      rw [e, Int.le_ediv_iff_mul_le hL.1, Int.add_mul]
      omega
  · refine ⟨0, Nat.zero_le _, ?_, fun v _ => ⟨fun q => absurd ((c63_goC σ _).mp q).1 hH, fun q => absurd q (Nat.not_lt_zero _)⟩⟩
    unfold sLst
    rw [if_neg (show ¬ sTied σ (sSet σ) = 2 ^ sP σ - 1 from hH)]
    rfl
theorem lf_v {σ : sg} (hI : sInv σ) : ∀ N, sR σ + N ≤ 1000000 → ∃ n : Nat, n ≤ 2 ^ 36 ∧ sLf σ N = lN n ∧ ∀ v, v ≤ 99 → (n ≤ v ↔ ∀ i, i < N → ¬ sGoC (sg1 (sRdd σ i) 6 3 (nI v)))
  | 0, _ => ⟨0, Nat.zero_le _, rfl, fun v _ => ⟨fun _ i hi => absurd hi (Nat.not_lt_zero i), fun _ => Nat.zero_le v⟩⟩
  | N + 1, hN => by
    obtain ⟨n, h1, h2, h3⟩ := lf_v hI N (by omega)
    obtain ⟨m, g1, g2, g3⟩ := lst_v (inv_rdd hI N (by omega)).1
    have hlt : ∀ a b : Nat, a ≤ 2 ^ 36 → b ≤ 2 ^ 36 → ((lN a < lN b) ↔ a < b) := fun a b ha hb => by
      rw [Int64.lt_iff_toInt_lt, lNt (by omega), lNt (by omega)]; omega
    have hs : ∀ v, v ≤ 99 → ((n ≤ v ∧ m ≤ v) ↔ ∀ i, i < N + 1 → ¬ sGoC (sg1 (sRdd σ i) 6 3 (nI v))) := fun v hv => by
      constructor
      · rintro ⟨q1, q2⟩ i hi
        by_cases e : i = N
        · subst e
          exact fun q => by have := (g3 v hv).mp q; omega
        · exact (h3 v hv).mp q1 i (by omega)
      · intro q
        refine ⟨(h3 v hv).mpr (fun i hi => q i (by omega)), Nat.le_of_not_lt (fun q2 => q N (Nat.lt_succ_self N) ((g3 v hv).mpr q2))⟩
    rw [sLf, h2, g2]
    by_cases c : m < n
    · rw [if_pos ((hlt m n g1 h1).mpr c)]
      exact ⟨n, h1, rfl, fun v hv => (show n ≤ v ↔ (n ≤ v ∧ m ≤ v) by omega).trans (hs v hv)⟩
    · rw [if_neg (fun q => c ((hlt m n g1 h1).mp q))]
      exact ⟨m, g1, rfl, fun v hv => (show m ≤ v ↔ (n ≤ v ∧ m ≤ v) by omega).trans (hs v hv)⟩
theorem rdd_3 (σ : sg) (v : Int32) : ∀ i, sRdd (sg1 σ 6 3 v) i = sg1 (sRdd σ i) 6 3 v
  | 0 => rfl
  | i + 1 => by
    rw [sRdd, sRdd, rdd_3 σ v i, sg1_k (show (2 : Nat) ≠ 3 by decide)]
    funext f k
    unfold sg1
    by_cases a : f = 6 ∧ k = 2
    · rw [if_pos a, if_neg (by omega), if_pos a]
    · rw [if_neg a]
      by_cases b : f = 6 ∧ k = 3
      · rw [if_pos b, if_pos b]
      · rw [if_neg b, if_neg b, if_neg a]
theorem rdd_f (σ : sg) : ∀ i f k, (f ≠ 6 ∨ k ≠ 2) → sRdd σ i f k = σ f k
  | 0, _, _, _ => rfl
  | i + 1, f, k, h => by
    rw [sRdd]
    refine Eq.trans ?_ (rdd_f σ i f k h)
    exact if_neg (fun q => h.elim (fun z => z q.1) (fun z => z q.2))
theorem rdd_set (σ : sg) (i : Nat) : sSet (sRdd σ i) = sSet σ := by
  have e : sM (sRdd σ i) = sM σ := by unfold sM; rw [rdd_f σ i 6 0 (Or.inr (by decide))]
  have on : ∀ n, sOn (sRdd σ i) n = sOn σ n := by
    intro n
    induction n with
    | zero => rfl
    | succ n ih => rw [sOn, sOn, ih, rdd_f σ i 5 n (Or.inl (by decide))]
  unfold sSet
  rw [e, on]
theorem bt_and (S T : Nat) (hS : S < 256) (hT : T < 256) : (nI S &&& (nI T ^^^ (-1))) = 0 ↔ ∀ k, k < 8 → S.testBit k = true → T.testBit k = true := by
  have hx : ∀ i, i < 32 → (nI S &&& (nI T ^^^ (-1))).toBitVec.getLsbD i = (S.testBit i && !T.testBit i) := fun i hi => by
    show (BitVec.ofNat 32 S &&& (BitVec.ofNat 32 T ^^^ BitVec.allOnes 32)).getLsbD i = _
    rw [BitVec.getLsbD_and, BitVec.getLsbD_xor, BitVec.getLsbD_allOnes, BitVec.getLsbD_ofNat, BitVec.getLsbD_ofNat]
    simp [hi]
  constructor
  · intro h k hk hs
    have := hx k (by omega)
    rw [h, hs] at this
    have z : (0 : Int32).toBitVec.getLsbD k = false := by show (0#32).getLsbD k = false; simp
    rw [z] at this
    simpa using this
  · intro h
    apply Int32.toBitVec_inj.mp
    apply BitVec.eq_of_getLsbD_eq
    intro i hi
    rw [hx i hi]
    have z : (0 : Int32).toBitVec.getLsbD i = false := by show (0#32).getLsbD i = false; simp
    rw [z]
    by_cases h8 : i < 8
    · by_cases hs : S.testBit i = true
      · rw [hs, h i h8 hs]; rfl
      · rw [Bool.not_eq_true _ |>.mp hs]; rfl
    · rw [Nat.testBit_lt_two_pow (Nat.lt_of_lt_of_le hS (show 2 ^ 8 ≤ 2 ^ i from Nat.pow_le_pow_right (by omega) (by omega)))]; rfl
theorem sty_v {σ : sg} (hI : sInv σ) {v : Nat} (hv : v ≤ 99) : ∀ N, sR σ + N ≤ 1000000 → (mSty (sg1 σ 6 3 (nI v)) N = true ↔ ∀ i, i < N → ¬ sGoC (sg1 (sRdd σ i) 6 3 (nI v))) ∧ (mSty (sg1 σ 6 3 (nI v)) N = true → sGoN (sg1 σ 6 3 (nI v)) N = sRdd (sg1 σ 6 3 (nI v)) N)
  | 0, _ => ⟨⟨fun _ i hi => absurd hi (Nat.not_lt_zero i), fun _ => rfl⟩, fun _ => rfl⟩
  | N + 1, hN => by
    obtain ⟨h1, h2⟩ := sty_v hI hv N (by omega)
    have hI3 : sInv (sg1 σ 6 3 (nI v)) := inv_63 hI (by rw [nI_toInt (by omega)]; omega)
    have hR3 : sR (sg1 σ 6 3 (nI v)) = sR σ := sR_sg1 (Or.inr (by decide))
    by_cases c : mSty (sg1 σ 6 3 (nI v)) N = true
    · have e := h2 c
      have eg : sGoN (sg1 σ 6 3 (nI v)) (N + 1) = sGo (sg1 (sRdd σ N) 6 3 (nI v)) := by rw [← rdd_3, ← e]; rfl
      have hIN : sInv (sg1 (sRdd σ N) 6 3 (nI v)) := by rw [← rdd_3]; exact (inv_rdd hI3 N (by omega)).1
      have eS : sSet (sg1 (sRdd σ N) 6 3 (nI v)) = sSet (sg1 σ 6 3 (nI v)) := by rw [← rdd_3, rdd_set]
      by_cases g : sGoC (sg1 (sRdd σ N) 6 3 (nI v))
      · have hf : mSty (sg1 σ 6 3 (nI v)) (N + 1) = false := by
          rw [mSty, eg, c, Bool.true_and]
          refine decide_eq_false (fun q => ?_)
          have hRN : sR (sg1 (sRdd σ N) 6 3 (nI v)) < 1000000 := by
            rw [← rdd_3, (inv_rdd hI3 N (by omega)).2]; omega
          have hgo := inv_go hIN hRN
          have hb := (bt_and _ _ (sSet_lt2 hI3) (sSet_lt2 hgo.1)).mp q
          obtain ⟨k, hk, ek, ho⟩ := sMst_ex hIN g.2.1
          have h8 := (sIM hIN).2
          have hk8 : k < 8 := Nat.lt_of_lt_of_le hk h8
          have hbk := hb k hk8 (by rw [← eS]; exact (sOn_bit _ _ k hk).mpr ho)
          have hoff := (sOn_bit _ _ k (by rw [hgo.2.1]; exact hk)).mp hbk
          unfold sGo at hoff
          rw [if_pos g, sg1_f (by decide), sg1_f (by decide), ek, nn_nI (by omega), sg1_at] at hoff
          exact absurd hoff (by decide)
        refine ⟨⟨fun q => absurd (hf.symm.trans q) (by decide), fun q => absurd g (q N (Nat.lt_succ_self N))⟩, fun q => absurd (hf.symm.trans q) (by decide)⟩
      · have e2 : sGoN (sg1 σ 6 3 (nI v)) (N + 1) = sRdd (sg1 σ 6 3 (nI v)) (N + 1) := by
          rw [eg, sRdd, rdd_3]
          unfold sGo
          rw [if_neg g]
        have ht : mSty (sg1 σ 6 3 (nI v)) (N + 1) = true := by
          rw [mSty, c, Bool.true_and, e2, rdd_set]
          exact decide_eq_true ((bt_and _ _ (sSet_lt2 hI3) (sSet_lt2 hI3)).mpr (fun _ _ q => q))
        refine ⟨⟨fun _ i hi => ?_, fun _ => ht⟩, fun _ => e2⟩
        by_cases ei : i = N
        · rw [ei]; exact g
        · exact h1.mp c i (by omega)
    · have hf : mSty (sg1 σ 6 3 (nI v)) (N + 1) = false := by rw [mSty, Bool.not_eq_true _ |>.mp c]; rfl
      exact ⟨⟨fun q => absurd (hf.symm.trans q) (by decide), fun q => absurd (h1.mpr (fun i hi => q i (by omega))) c⟩, fun q => absurd (hf.symm.trans q) (by decide)⟩
theorem mLf_v {σ : sg} {N m : Nat} (h : ∀ v, v ≤ 99 → (m ≤ v ↔ mSty (sg1 σ 6 3 (nI v)) N = true)) : ∀ f v, v + f = 100 → v ≤ m → mLf σ N f v = if m ≤ 99 then nI m else -1
  | 0, v, hv, hm => by rw [mLf, if_neg (by omega)]
  | f + 1, v, hv, hm => by
    rw [mLf]
    by_cases c : mSty (sg1 σ 6 3 (nI v)) N = true
    · have := (h v (by omega)).mpr c
      have e : v = m := by omega
      rw [if_pos c, if_pos (by omega), e]
    · rw [if_neg c]
      have : ¬ m ≤ v := fun q => c ((h v (by omega)).mp q)
      exact mLf_v h f (v + 1) (by omega) (by omega)
theorem limitFor_eq {s : sg} (hI : sInv s) (hR : sR s ≤ 9999) (k r : sg) (n : Int32) : sm_limitFor s k r n = sq_limitFor s k r n := by
  unfold sm_limitFor sq_limitFor
  by_cases hc : 0 ≤ n ∧ n ≤ 40
  · rw [if_pos hc, if_pos hc]
    obtain ⟨N, hN, rfl⟩ := rng0_ex (n := 40) (by omega) hc
    rw [nn_nI (by omega)]
    obtain ⟨m, h1, h2, h3⟩ := lf_v hI N (by omega)
    have e := mLf_v (σ := s) (N := N) (m := m) (fun v hv => (h3 v hv).trans (sty_v hI hv N (by omega)).1.symm) 100 0 rfl (Nat.zero_le m)
    rw [e, h2]
    have h99 : (lN m ≤ 99) ↔ m ≤ 99 := by
      rw [Int64.le_iff_toInt_le, lNt (by omega), show (99 : Int64).toInt = 99 from by decide]; omega
    by_cases c : m ≤ 99
    · rw [if_pos c, if_pos (h99.mpr c), if_pos (nI_pos' (by omega))]
      congr 1
      rw [← nI_l64 (by omega), Int32.toInt32_toInt64]
    · rw [if_neg c, if_neg (fun q => c (h99.mp q)), if_neg (by decide)]
  · rw [if_neg hc, if_neg hc]
