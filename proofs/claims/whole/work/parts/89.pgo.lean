/-! ===== pure: both go alike ===== -/
/-! both go alike -/
theorem iL_lt {x y : Int} (hx : x.natAbs < 2 ^ 63) (hy : y.natAbs < 2 ^ 63) : iL x < iL y ↔ x < y := by rw [Int64.lt_iff_toInt_lt, iL_t hx, iL_t hy]
theorem iL_abs {x : Int} (hx : x.natAbs < 2 ^ 63) : sAbs (iL x) = iL (x.natAbs : Int) := by
  unfold sAbs
  by_cases h : 0 < x
  · rw [if_pos (show (0 : Int64) < iL x from (iL_lt (x := 0) (by decide) hx).mpr h)]
    congr 1; omega
  · rw [if_neg (fun q : (0 : Int64) < iL x => h ((iL_lt (x := 0) (by decide) hx).mp q)), iL_neg]
    congr 1; omega
theorem mis_c {σ : sg} (hI : sInv σ) {k : Nat} (hk : k < sM σ) {l l2 : Int64} {p p2 : Nat → Int64} (hl : l = l2) (hp : ∀ j, j < sP σ → p j = p2 j) (x : Int32) : sMisX σ l p k x = sMisX σ l2 p2 k x := by
  obtain ⟨q1, q2, -⟩ := nn_lt hI hk
  unfold sMisX
  rw [hl, hp _ q1]
  by_cases hf : σ 2 k < 0
  · rw [if_pos hf, if_pos hf]
  · rw [if_neg hf, if_neg hf, hp _ (q2 hf)]
theorem dbt_c {σ : sg} (hI : sInv σ) {k : Nat} (hk : k < sM σ) {l l2 : Int64} {p p2 : Nat → Int64} (hl : l = l2) (hp : ∀ j, j < sP σ → p j = p2 j) : sDbt σ l p k = sDbt σ l2 p2 k := by
  unfold sDbt
  rw [mis_c hI hk hl hp]
theorem sm_c {σ : sg} (hI : sInv σ) {l l2 : Int64} {p p2 : Nat → Int64} (hl : l = l2) (hp : ∀ j, j < sP σ → p j = p2 j) : ∀ m, m ≤ sM σ → sSm σ l p m = sSm σ l2 p2 m
  | 0, _ => rfl
  | m + 1, hm => by rw [sSm, sSm, sm_c hI hl hp m (by omega), mis_c hI (k := m) (by omega) hl hp]
theorem mo_c {σ : sg} (hI : sInv σ) {l l2 : Int64} {p p2 : Nat → Int64} (hl : l = l2) (hp : ∀ j, j < sP σ → p j = p2 j) : ∀ m, m ≤ sM σ → sMo σ l p m = sMo σ l2 p2 m
  | 0, _ => rfl
  | m + 1, hm => by rw [sMo, sMo, mo_c hI hl hp m (by omega), dbt_c hI (k := m) (by omega) hl hp]
/-- a doubt, in whole numbers -/
def dI (σ : sg) (k : Nat) : Int := (sW σ k).toInt * ((mI σ k).natAbs : Int)
theorem dI_b {σ : sg} (hI : sInv σ) (hH : mHol σ) {k : Nat} (hk : k < sM σ) : 0 ≤ dI σ k ∧ dI σ k ≤ 2 ^ 34 := by
  have hW := sW_b σ k
  have h1 := mI_b hI hH hk
  have h2 := nb_mul (x := (sW σ k).toInt) (y := ((mI σ k).natAbs : Int)) (A := 4) (B := 2 ^ 32) (by omega) (by omega)
  have h3 := Int.mul_nonneg (a := (sW σ k).toInt) (b := ((mI σ k).natAbs : Int)) (by omega) (by omega)
  unfold dI
  omega
theorem dbt_v {σ : sg} (hI : sInv σ) (hH : mHol σ) {k : Nat} (hk : k < sM σ) : sDbt σ (mLn σ) (mAb σ) k = iL (dI σ k) := by
  have h1 := mI_b hI hH hk
  unfold sDbt dI
  rw [mis_v hI hk, iL_abs (by omega), iL_32, iL_mul]
theorem dbt_nn {σ : sg} (hI : sInv σ) (hH : mHol σ) {k : Nat} (hk : k < sM σ) : (-1 : Int64) < sDbt σ (mLn σ) (mAb σ) k := by
  have h := dI_b hI hH hk
  rw [dbt_v hI hH hk]
  exact (iL_lt (x := -1) (y := dI σ k) (by decide) (by omega)).mpr (by omega)
theorem mo_rel {σ : sg} (hI : sInv σ) (hH : mHol σ) : ∀ n, n ≤ sM σ → (mMo σ (mLn σ) (mAb σ) n = -1 ∧ sMo σ (mLn σ) (mAb σ) n = (-1, -1)) ∨ ∃ k, k < n ∧ mMo σ (mLn σ) (mAb σ) n = nI k ∧ sMo σ (mLn σ) (mAb σ) n = (nI k, sDbt σ (mLn σ) (mAb σ) k)
  | 0, _ => Or.inl ⟨rfl, rfl⟩
  | n + 1, hn => by
    have hM := (sIM hI).2
    have hd := dbt_nn hI hH (k := n) (by omega)
    rcases mo_rel hI hH n (by omega) with ⟨e1, e2⟩ | ⟨k, hk, e1, e2⟩
    · rw [mMo, sMo, e1, e2]
      dsimp only
      by_cases ho : σ 5 n = 1
      · rw [if_pos ⟨ho, Or.inl (by decide)⟩, if_pos ho, if_pos hd]
        exact Or.inr ⟨n, Nat.lt_succ_self n, rfl, rfl⟩
      · rw [if_neg (fun q => ho q.1), if_neg ho, if_neg (by decide)]
        exact Or.inl ⟨rfl, rfl⟩
    · have hdk := dbt_nn hI hH (k := k) (by omega)
      have hk0 : ¬ (nI k : Int32) < 0 := fun q => by
        have := Int32.lt_iff_toInt_lt.mp q
        rw [nI_toInt (by omega), show (0 : Int32).toInt = 0 from by decide] at this
        omega
      rw [mMo, sMo, e1, e2, nn_nI (by omega)]
      dsimp only
      by_cases ho : σ 5 n = 1
      · rw [if_pos (c := σ 5 n = 1) ho]
        by_cases hc : sDbt σ (mLn σ) (mAb σ) k < sDbt σ (mLn σ) (mAb σ) n
        · rw [if_pos ⟨ho, Or.inr hc⟩, if_pos hc]
          exact Or.inr ⟨n, Nat.lt_succ_self n, rfl, rfl⟩
        · rw [if_neg (fun q => q.2.elim hk0 hc), if_neg hc]
          exact Or.inr ⟨k, by omega, rfl, rfl⟩
      · rw [if_neg (fun q => ho q.1), if_neg (c := σ 5 n = 1) ho, if_neg (fun q => Int64.lt_irrefl (Int64.lt_trans hdk q))]
        exact Or.inr ⟨k, by omega, rfl, rfl⟩
theorem mst_eq {σ : sg} (hI : sInv σ) (hH : mHol σ) : sMst σ = mMst σ := by
  obtain ⟨e1, e2⟩ := fm_eq hI hH
  unfold sMst
  rw [mo_c hI e1 e2 _ (Nat.le_refl _)]
  rcases mo_rel hI hH (sM σ) (Nat.le_refl _) with ⟨q1, q2⟩ | ⟨k, -, q1, q2⟩
  · rw [q2]; exact q1.symm
  · rw [q2]; exact q1.symm
theorem drop_eq {x : Int32} (h : 0 ≤ x.toInt ∧ x.toInt ≤ 9999) : sHeld (x + 1) 0 9999 = if x + 1 < 9999 then x + 1 else 9999 := by
  obtain ⟨m, hm, rfl⟩ : ∃ m, m ≤ 9999 ∧ x = nI m := ⟨x.toInt.toNat, by omega, Int32.toInt_inj.mp (by rw [nI_toInt (by omega)]; omega)⟩
  have e9 : (9999 : Int32) = nI 9999 := by decide
  have e0 : (0 : Int32) = nI 0 := by decide
  unfold sHeld
  rw [jadd rfl nIc_1, e9, e0, if_neg (fun q => absurd ((nI_ltI (by omega) (by omega)).mp q) (Nat.not_lt_zero _))]
  by_cases c : m + 1 < 9999
  · rw [if_pos ((nI_ltI (by omega) (by omega)).mpr c), if_neg (fun q => by have := (nI_ltI (by omega) (by omega)).mp q; omega)]
  · rw [if_neg (fun q => c ((nI_ltI (by omega) (by omega)).mp q))]
    by_cases c2 : m + 1 = 9999
    · rw [c2, if_neg (fun q => by have := (nI_ltI (by omega) (by omega)).mp q; omega)]
    · rw [if_pos ((nI_ltI (by omega) (by omega)).mpr (by omega))]
theorem go_eq : goEq := by
  intro σ hI
  by_cases hH : mHol σ
  · obtain ⟨e1, e2⟩ := fm_eq hI hH
    have hM := mst_eq hI hH
    obtain ⟨k, hk, ek, ho⟩ := mMst_ex hI hH
    have h8 := (sIM hI).2
    have hk0 : ¬ (nI k : Int32) < 0 := fun q => by
      have := Int32.lt_iff_toInt_lt.mp q
      rw [nI_toInt (by omega), show (0 : Int32).toInt = 0 from by decide] at this
      omega
    have hD : sDbt σ (fLn σ) (fAb σ) (nn (mMst σ)) = sDbt σ (mLn σ) (mAb σ) (nn (mMst σ)) := dbt_c hI (by rw [ek, nn_nI (by omega)]; exact hk) e1 e2
    have hc : sGoC σ ↔ mGoC σ := by
      unfold sGoC mGoC
      rw [hM, hD, e1, ek]
      exact ⟨fun q => ⟨q.1, q.2.2⟩, fun q => ⟨q.1, hk0, q.2⟩⟩
    unfold mGo sGo
    by_cases c : mGoC σ
    · rw [if_pos c, if_pos (hc.mpr c), hM, drop_eq hI.2.2.2.2.1]
    · rw [if_neg c, if_neg (fun q => c (hc.mp q))]
  · unfold mGo sGo
    rw [if_neg (fun q => hH q.1), if_neg (fun q => hH q.1)]
theorem m_bnd {σ : sg} (hI : sInv σ) : mBnd σ := by
  intro hH
  have hL := lPl_b hI hH
  have hq := qS_b hI hH
  have h2 := Int.mul_pos hL.1 hL.1
  have h3 := nb_mul (x := lPl σ) (y := lPl σ) (A := 2 ^ 20) (B := 2 ^ 20) (by omega) (by omega)
  refine ⟨?_, ?_, fun p hp => ?_, fun k hk => ?_, ?_⟩
  · rw [ln_v hI, iL_t (by omega)]; exact hL.1
  · rw [ln_v hI, iL_mul, iL_t (by omega)]; exact h2
  · have := xPl_b hI hp
    rw [ab_v hI hp, iL_t (by omega)]; omega
  · have := mI_b hI hH hk
    rw [mis_v hI hk, iL_t (by omega)]; omega
  · rw [sm_v hI _ (Nat.le_refl _), iL_t (by omega)]; omega
theorem place_eq {s : sg} (hI : sInv s) (k r : sg) (x p : Int32) : sm_place s k r x p = sq_place s k r x p := by
  unfold sm_place sq_place
  by_cases hc : sIsP s x ∧ (0 ≤ p ∧ p ≤ 1)
  · rw [if_pos hc, if_pos hc]
    by_cases hH : mHol s
    · rw [if_pos hH, if_pos hH]
      obtain ⟨j, hj, rfl⟩ := sIsP_ex2 hI hc.1
      obtain ⟨e1, e2⟩ := fm_eq hI hH
      have B := m_bnd hI hH
      have h4 := (sIP hI).2.2
      rw [nn_nI (by omega), e1, e2 j hj, mPart_s (B.2.2.1 j hj) B.1]
    · rw [if_neg hH, if_neg hH]
  · rw [if_neg hc, if_neg hc]
theorem miss_eq {s : sg} (hI : sInv s) (k r : sg) (x p : Int32) : sm_miss s k r x p = sq_miss s k r x p := by
  unfold sm_miss sq_miss
  by_cases hc : sIsM s x ∧ (0 ≤ p ∧ p ≤ 1)
  · rw [if_pos hc, if_pos hc]
    by_cases hH : mHol s
    · rw [if_pos hH, if_pos hH]
      obtain ⟨j, hj, rfl⟩ := sIsM_ex hI hc.1
      obtain ⟨e1, e2⟩ := fm_eq hI hH
      have B := m_bnd hI hH
      have h8 := (sIM hI).2
      rw [nn_nI (by omega), mis_c hI hj e1 e2, e1, mPart_s (B.2.2.2.1 j hj) B.1]
    · rw [if_neg hH, if_neg hH]
  · rw [if_neg hc, if_neg hc]
theorem sum_eq {s : sg} (hI : sInv s) (k r : sg) (p : Int32) : sm_sum s k r p = sq_sum s k r p := by
  unfold sm_sum sq_sum
  by_cases hc : 0 ≤ p ∧ p ≤ 1
  · rw [if_pos hc, if_pos hc]
    by_cases hH : mHol s
    · rw [if_pos hH, if_pos hH]
      obtain ⟨e1, e2⟩ := fm_eq hI hH
      have B := m_bnd hI hH
      rw [sm_c hI e1 e2 _ (Nat.le_refl _), e1, mPart_s B.2.2.2.2 B.2.1]
    · rw [if_neg hH, if_neg hH]
  · rw [if_neg hc, if_neg hc]
theorem doubted_eq {s : sg} (hI : sInv s) (k r : sg) : sm_doubted s k r = sq_doubted s k r := by
  unfold sm_doubted sq_doubted
  by_cases hH : mHol s
  · rw [if_pos hH, if_pos hH, mst_eq hI hH]
  · rw [if_neg hH, if_neg hH]
