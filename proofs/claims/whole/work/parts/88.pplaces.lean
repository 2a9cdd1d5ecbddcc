/-! ===== pure: both find the same places ===== -/
/-! determinants in whole numbers -/
def iDl (A : Nat → Nat → Int) (fr used : Nat) (rec : Nat → Int) : Nat → Int × Int
  | 0 => (0, 1)
  | c + 1 => if used.testBit c = true then iDl A fr used rec c else ((iDl A fr used rec c).1 + (iDl A fr used rec c).2 * A fr c * rec (used ||| 2 ^ c), -(iDl A fr used rec c).2)
def iDet (A : Nat → Nat → Int) (P : Nat) : Nat → Nat → Int
  | 0, _ => 1
  | k + 1, used => (iDl A (P - (k + 1)) used (iDet A P k) P).1
theorem mDl_i {sq rt : Nat → Int64} {col : Int32} {A : Nat → Nat → Int} {fr used : Nat} {rc : Nat → Int64} {ri : Nat → Int} (hf : fr < 4) (hA : ∀ c, c < 4 → (if nI c = col then rt fr else sq (4 * fr + c)) = iL (A fr c)) (hr : ∀ u, rc u = iL (ri u)) : ∀ c, c ≤ 4 → (mDl sq rt col fr used rc c).1 = iL (iDl A fr used ri c).1 ∧ (mDl sq rt col fr used rc c).2 = iL (iDl A fr used ri c).2
  | 0, _ => ⟨rfl, rfl⟩
  | c + 1, hc => by
    obtain ⟨h1, h2⟩ := mDl_i hf hA hr (used := used) c (by omega)
    rw [mDl, iDl]
    by_cases q : used.testBit c = true
    · rw [if_pos q, if_pos q]; exact ⟨h1, h2⟩
    · rw [if_neg q, if_neg q]
      dsimp only
      rw [hA c (by omega), h1, h2, hr]
      refine ⟨?_, iL_neg _⟩
      by_cases z : iL (A fr c) = 0
      · rw [if_pos z, ← iL_add, ← iL_mul, ← iL_mul, z, Int64.mul_zero, Int64.zero_mul]
      · rw [if_neg z, iL_mul, iL_mul, iL_add]
theorem mDet_i {sq rt : Nat → Int64} {col : Int32} {P : Nat} {A : Nat → Nat → Int} (hP : P ≤ 4) (hA : ∀ fr c, fr < 4 → c < 4 → (if nI c = col then rt fr else sq (4 * fr + c)) = iL (A fr c)) : ∀ k, k ≤ P → ∀ u, mDet sq rt col P k u = iL (iDet A P k u)
  | 0, _, _ => rfl
  | k + 1, hk, u => (mDl_i (by omega) (fun c hc => hA (P - (k + 1)) c (by omega) hc) (mDet_i hP hA k (by omega)) P hP).1
def iD (A : Nat → Nat → Int) : Nat → Int
  | 0 => 1
  | 1 => A 0 0
  | 2 => bd2 (A 0 0) (A 0 1) (A 1 0) (A 1 1)
  | 3 => bd3 (A 0 0) (A 0 1) (A 0 2) (A 1 0) (A 1 1) (A 1 2) (A 2 0) (A 2 1) (A 2 2)
  | _ => bd4 (A 0 0) (A 0 1) (A 0 2) (A 0 3) (A 1 0) (A 1 1) (A 1 2) (A 1 3) (A 2 0) (A 2 1) (A 2 2) (A 2 3) (A 3 0) (A 3 1) (A 3 2) (A 3 3)
theorem iDet_D (A : Nat → Nat → Int) (P : Nat) (h : 1 ≤ P ∧ P ≤ 4) : iDet A P P 0 = iD A P := by
  obtain ⟨h1, h2⟩ := h
  obtain rfl | rfl | rfl | rfl : P = 1 ∨ P = 2 ∨ P = 3 ∨ P = 4 := by omega
  · simp +decide [iDet, iDl, iD]
  · simp +decide [iDet, iDl, iD, bd2]; grind
  · simp +decide [iDet, iDl, iD, bd3]; grind
  · simp +decide [iDet, iDl, iD, bd4, bd3]; grind
/-! sizes of what stands on the line -/
theorem le_of {x y z : Int} (hx : 0 < x) (h : x * y ≤ x * z) : y ≤ z := Int.le_of_mul_le_mul_left h hx
theorem lap_e {s n : Nat} {a : Nat → Nat → Int} (h : Lap s n a) {i : Nat} (hi : s < i) : a i i * a s s - a i s * a s i ≤ a i i * a s s := by
  obtain ⟨h1, h2, -, -⟩ := h
  have := mul_nn (h2 i s (by omega) (Nat.le_refl s) (by omega)) (h2 s i (Nat.le_refl s) (by omega) (by omega))
  omega
theorem lap_had {n : Nat} {a : Nat → Nat → Int} (hn : n ≤ 4) (h : Lap 0 n a) : ∀ k, k < n → bP a (k + 1) ≤ a k k * bP a k := by
  have hp := lap_pos hn h
  have l1 : 1 ≤ n → Lap 1 n (fun i j => a i j * a 0 0 - a i 0 * a 0 j) := fun q => lap_s h q
  have l2 : 2 ≤ n → Lap 2 n _ := fun q => lap_s (l1 (by omega)) q
  have e1 : ∀ i j, 1 ≤ i → a i j * a 0 0 - a i 0 * a 0 j = bE a 1 i j := fun i j q => (if_neg (by omega)).symm
  have e2 : ∀ i j, 2 ≤ i → i < 4 → (a i j * a 0 0 - a i 0 * a 0 j) * (a 1 1 * a 0 0 - a 1 0 * a 0 1) - (a i 1 * a 0 0 - a i 0 * a 0 1) * (a 1 j * a 0 0 - a 1 0 * a 0 j) = bP a 1 * bE a 2 i j := fun i j q q2 => by
    rw [e1 i j (by omega), e1 1 1 (by omega), e1 i 1 (by omega), e1 1 j (by omega)]
    exact bE_st a 1 i j (by omega) q2 (by omega)
  have g1 : 2 ≤ n → ∀ i, 1 ≤ i → bE a 1 i i ≤ a i i * bP a 1 := fun q i q2 => by
    have := lap_e h (i := i) (by omega)
    rw [e1 i i q2] at this
    exact this
  have g2 : 3 ≤ n → ∀ i, 2 ≤ i → i < 4 → bE a 2 i i ≤ a i i * bP a 2 := fun q i q2 q3 => by
    have h1 := lap_e (l1 (by omega)) (i := i) (by omega)
    rw [e2 i i q2 q3, e1 i i (by omega), e1 1 1 (by omega)] at h1
    have h2 := Int.mul_le_mul_of_nonneg_right (g1 (by omega) i (by omega)) (Int.le_of_lt (show 0 < bE a 1 1 1 from hp 2 (by omega)))
    have h3 : a i i * bP a 1 * bE a 1 1 1 = bP a 1 * (a i i * bP a 2) := by rw [bE_pv a 1 (by omega)]; grind
    rw [h3] at h2
    exact le_of (hp 1 (by omega)) (Int.le_trans h1 h2)
  intro k hk
  obtain rfl | rfl | rfl | rfl : k = 0 ∨ k = 1 ∨ k = 2 ∨ k = 3 := by omega
  · show a 0 0 ≤ a 0 0 * 1
    omega
  · exact g1 (by omega) 1 (by omega)
  · exact g2 (by omega) 2 (by omega) (by omega)
  · have h1 := lap_e (l2 (by omega)) (i := 3) (by omega)
    rw [e2 3 3 (by omega) (by omega), e2 2 2 (by omega) (by omega), e2 3 2 (by omega) (by omega), e2 2 3 (by omega) (by omega)] at h1
    have e3 := bE_st a 2 3 3 (by omega) (by omega) (by omega)
    have e4 : bP a 1 * bE a 2 3 3 * (bP a 1 * bE a 2 2 2) - bP a 1 * bE a 2 3 2 * (bP a 1 * bE a 2 2 3) = bP a 1 * (bP a 1 * (bP a 2 * bE a 3 3 3)) := by rw [← e3]; grind
    rw [e4] at h1
    have e5 : bP a 1 * bE a 2 3 3 * (bP a 1 * bE a 2 2 2) = bP a 1 * (bP a 1 * (bE a 2 3 3 * bE a 2 2 2)) := by grind
    rw [e5] at h1
    have h2 := le_of (hp 1 (by omega)) (le_of (hp 1 (by omega)) h1)
    have h3 := Int.mul_le_mul_of_nonneg_right (g2 (by omega) 3 (by omega) (by omega)) (Int.le_of_lt (show 0 < bE a 2 2 2 from hp 3 (by omega)))
    have e6 : a 3 3 * bP a 2 * bE a 2 2 2 = bP a 2 * (a 3 3 * bP a 3) := by rw [bE_pv a 2 (by omega)]; grind
    rw [e6] at h3
    exact le_of (hp 2 (by omega)) (Int.le_trans h2 h3)
theorem bE_cr (a : Nat → Nat → Int) (n : Nat) (hn : n ≤ 4) (i : Nat) (hi : i < n) : rsum (fun j => a i j * bE a n j 4) 0 n = bP a n * a i 4 := by
  obtain rfl | rfl | rfl | rfl : n = 1 ∨ n = 2 ∨ n = 3 ∨ n = 4 := by omega
  · obtain rfl : i = 0 := by omega
    simp [rsum, bE, bP]
  · obtain rfl | rfl : i = 0 ∨ i = 1 := by omega
    · simp [rsum, bE, bP]; grind
    · simp [rsum, bE, bP]; grind
  · obtain rfl | rfl | rfl : i = 0 ∨ i = 1 ∨ i = 2 := by omega
    · simp [rsum, bE, bP, bM3, bd3]; grind
    · simp [rsum, bE, bP, bM3, bd3]; grind
    · simp [rsum, bE, bP, bM3, bd3]; grind
  · obtain rfl | rfl | rfl | rfl : i = 0 ∨ i = 1 ∨ i = 2 ∨ i = 3 := by omega
    · simp [rsum, bE, bP, bM4, bd4, bd3]; grind
    · simp [rsum, bE, bP, bM4, bd4, bd3]; grind
    · simp [rsum, bE, bP, bM4, bd4, bd3]; grind
    · simp [rsum, bE, bP, bM4, bd4, bd3]; grind
/-! places, as the class and the reference find them -/
def lPl (σ : sg) : Int := bP (aM σ (sM σ)) (sP σ)
def xPl (σ : sg) (p : Nat) : Int := bE (aM σ (sM σ)) (sP σ) p 4
theorem iD_P (a : Nat → Nat → Int) (P : Nat) (h : 1 ≤ P ∧ P ≤ 4) : iD a P = bP a P := by
  obtain ⟨h1, h2⟩ := h
  obtain rfl | rfl | rfl | rfl : P = 1 ∨ P = 2 ∨ P = 3 ∨ P = 4 := by omega
  · rfl
  · simp [iD, bP, bd2]; grind
  · rfl
  · rfl
theorem iD_E (a : Nat → Nat → Int) (P p : Nat) (h : 1 ≤ P ∧ P ≤ 4) (hp : p < P) : iD (fun i j => if j = p then a i 4 else a i j) P = bE a P p 4 := by
  obtain ⟨h1, h2⟩ := h
  obtain rfl | rfl | rfl | rfl : P = 1 ∨ P = 2 ∨ P = 3 ∨ P = 4 := by omega
  · obtain rfl : p = 0 := by omega
    rfl
  · obtain rfl | rfl : p = 0 ∨ p = 1 := by omega
    · simp [iD, bE, bd2]
    · simp [iD, bE, bd2]; grind
  · obtain rfl | rfl | rfl : p = 0 ∨ p = 1 ∨ p = 2 := by omega
    · rfl
    · rfl
    · rfl
  · obtain rfl | rfl | rfl | rfl : p = 0 ∨ p = 1 ∨ p = 2 ∨ p = 3 := by omega
    · rfl
    · rfl
    · rfl
    · rfl
theorem nI_m1 {c : Nat} (h : c < 4) : nI c ≠ -1 := by
  obtain rfl | rfl | rfl | rfl : c = 0 ∨ c = 1 ∨ c = 2 ∨ c = 3 := by omega
  all_goals decide
theorem ln_v {σ : sg} (hI : sInv σ) : mLn σ = iL (lPl σ) := by
  have hP := (sIP hI).2
  obtain ⟨h1, h2⟩ := mat_v hI (sM σ) (Nat.le_refl _)
  unfold mLn lPl
  rw [mDet_i (A := aM σ (sM σ)) hP.2 (fun fr c hf hc => by rw [if_neg (nI_m1 hc), h1 fr c hf hc]) _ (Nat.le_refl _), iDet_D _ _ hP, iD_P _ _ hP]
theorem ab_v {σ : sg} (hI : sInv σ) {p : Nat} (hp : p < sP σ) : mAb σ p = iL (xPl σ p) := by
  have hP := (sIP hI).2
  obtain ⟨h1, h2⟩ := mat_v hI (sM σ) (Nat.le_refl _)
  unfold mAb xPl
  rw [mDet_i (A := fun i j => if j = p then aM σ (sM σ) i 4 else aM σ (sM σ) i j) hP.2 (fun fr c hf hc => by
    by_cases e : c = p
    · rw [e, if_pos rfl, if_pos rfl, h2 fr hf]
    · rw [if_neg e, if_neg (fun q => e ((nI_eq (by omega) (by omega)).mp q)), h1 fr c hf hc]) _ (Nat.le_refl _), iDet_D _ _ hP, iD_E _ _ _ hP hp]
theorem f_v {σ : sg} (hI : sInv σ) (hH : sHolds σ (sSet σ)) : fLn σ = iL (lPl σ) ∧ ∀ j, j < sP σ → fAb σ j = iL (xPl σ j) :=
  so_sol (sIP hI).2.2 (aM_S hI) (fun i j hi hj => entN_v hI (sM σ) (Nat.le_refl _) i j (Nat.lt_of_lt_of_le hi (sIP hI).2.2) hj) (aM_pos hI hH)
theorem fm_eq {σ : sg} (hI : sInv σ) (hH : sHolds σ (sSet σ)) : fLn σ = mLn σ ∧ ∀ j, j < sP σ → fAb σ j = mAb σ j := by
  obtain ⟨h1, h2⟩ := f_v hI hH
  exact ⟨h1.trans (ln_v hI).symm, fun j hj => (h2 j hj).trans (ab_v hI hj).symm⟩
theorem had_k {σ : sg} (hI : sInv σ) (hH : sHolds σ (sSet σ)) : ∀ k, k ≤ sP σ → bP (aM σ (sM σ)) k ≤ 32 ^ k
  | 0, _ => by show (1 : Int) ≤ 1; exact Int.le_refl 1
  | k + 1, hk => by
    have hP := (sIP hI).2.2
    have hs := (aM_S hI).1 k k (by omega) (by omega)
    have e : ∀ k, bP (aM σ (sM σ)) k = bP (lE σ (sM σ)) k := bP_c (fun i j hi hj => lE_a hj (sM σ))
    have h1 := lap_had hP (lE_lap hI hH) k hk
    rw [← e, ← e, ← lE_a (by omega)] at h1
    have h2 := had_k hI hH k (by omega)
    have h3 := aM_pos hI hH k (by omega)
    have h4 := Int.mul_le_mul (show aM σ (sM σ) k k ≤ 32 by omega) h2 (Int.le_of_lt h3) (by decide)
    have h5 : (32 : Int) * 32 ^ k = 32 ^ (k + 1) := by rw [Int.pow_succ, Int.mul_comm]
    omega
theorem lPl_b {σ : sg} (hI : sInv σ) (hH : sHolds σ (sSet σ)) : 0 < lPl σ ∧ lPl σ ≤ 2 ^ 20 := by
  have hP := (sIP hI).2
  refine ⟨aM_pos hI hH _ (Nat.le_refl _), Int.le_trans (had_k hI hH _ (Nat.le_refl _)) ?_⟩
  generalize sP σ = P at hP
  obtain rfl | rfl | rfl | rfl : P = 1 ∨ P = 2 ∨ P = 3 ∨ P = 4 := by omega
  all_goals decide
theorem xPl_b {σ : sg} (hI : sInv σ) {p : Nat} (hp : p < sP σ) : (xPl σ p).natAbs ≤ 2 ^ 30 := bE_b (aM_S hI) _ _ _ (Nat.lt_of_lt_of_le hp (sIP hI).2.2) (by omega)
/-- what a mark lays between its ends; what it misses -/
def vPl (σ : sg) (k : Nat) : Int := rsum (fun j => eM σ k j * xPl σ j) 0 (sP σ)
def mI (σ : sg) (k : Nat) : Int := (sS σ k).toInt * lPl σ - vPl σ k
theorem rsum_p (x : Nat → Int) (t : Nat) : ∀ n, rsum (fun j => (if j = t then 1 else 0) * x j) 0 n = if t < n then x t else 0
  | 0 => rfl
  | n + 1 => by
    rw [rsum, rsum_p x t n]
    grind
theorem vPl_v {σ : sg} (hI : sInv σ) {k : Nat} (hk : k < sM σ) : vPl σ k = xPl σ (nn (σ 3 k)) - if σ 2 k < 0 then 0 else xPl σ (nn (σ 2 k)) := by
  obtain ⟨q1, q2, q3⟩ := nn_lt hI hk
  unfold vPl
  by_cases hf : σ 2 k < 0
  · rw [if_pos hf, rsum_c (g := fun j => (if j = nn (σ 3 k) then 1 else 0) * xPl σ j) _ (fun j _ _ => by rw [eM_g hf]), rsum_p, if_pos q1, Int.sub_zero]
  · rw [if_neg hf, rsum_c (g := fun j => (if j = nn (σ 3 k) then 1 else 0) * xPl σ j - (if j = nn (σ 2 k) then 1 else 0) * xPl σ j) _ (fun j _ _ => by rw [eM_p hf, Int.sub_mul]), rsum_s, rsum_p, rsum_p, if_pos q1, if_pos (q2 hf)]
theorem mis_v {σ : sg} (hI : sInv σ) {k : Nat} (hk : k < sM σ) : sMisX σ (mLn σ) (mAb σ) k (sS σ k) = iL (mI σ k) := by
  obtain ⟨q1, q2, q3⟩ := nn_lt hI hk
  unfold sMisX mI
  rw [vPl_v hI hk, ln_v hI, ab_v hI q1, iL_32]
  by_cases hf : σ 2 k < 0
  · rw [if_pos hf, if_pos hf, iL_mul, iL_sub, Int64.add_zero]
    congr 1
    omega
  · rw [if_neg hf, if_neg hf, ab_v hI (q2 hf), iL_mul, iL_sub, iL_add]
    congr 1
    omega
theorem mI_b {σ : sg} (hI : sInv σ) (hH : sHolds σ (sSet σ)) {k : Nat} (hk : k < sM σ) : (mI σ k).natAbs ≤ 2 ^ 32 := by
  obtain ⟨q1, q2, q3⟩ := nn_lt hI hk
  have hS := sS_b σ k
  have hL := lPl_b hI hH
  have h1 := nb_mul (x := (sS σ k).toInt) (y := lPl σ) (A := 30) (B := 2 ^ 20) (by omega) (by omega)
  have h2 := xPl_b hI q1
  unfold mI
  rw [vPl_v hI hk]
  by_cases hf : σ 2 k < 0
  · rw [if_pos hf]; omega
  · rw [if_neg hf]
    have h3 := xPl_b hI (q2 hf)
    omega
/-- over the marks that are on, by weight -/
def kS (σ : sg) (f : Nat → Int) : Nat → Int
  | 0 => 0
  | m + 1 => kS σ f m + (if σ 5 m = 1 then (sW σ m).toInt * f m else 0)
theorem kS_c (σ : sg) (x : Nat → Int) (P : Nat) : ∀ m, rsum (fun i => x i * aM σ m i 4) 0 P = kS σ (fun k => (sS σ k).toInt * rsum (fun j => eM σ k j * x j) 0 P) m
  | 0 => by rw [rsum_c (g := fun i => 0 * x i) _ (fun j _ _ => by show x j * 0 = 0 * x j; omega), rsum_k, Int.zero_mul]; rfl
  | m + 1 => by
    rw [kS, ← kS_c σ x P m]
    by_cases ho : σ 5 m = 1
    · rw [if_pos ho, rsum_c (g := fun i => x i * aM σ m i 4 + (sW σ m).toInt * (sS σ m).toInt * (eM σ m i * x i)) _ (fun j _ _ => by rw [aM, gM, if_pos ho, fM, if_pos rfl]; grind), rsum_a, rsum_k, Int.mul_assoc]
    · rw [if_neg ho, rsum_c (g := fun i => x i * aM σ m i 4) _ (fun j _ _ => by rw [aM, gM, if_neg ho, Int.add_zero]), Int.add_zero]
theorem kS_a (σ : sg) (x : Nat → Int) {P : Nat} (hP : P ≤ 4) : ∀ m, rsum (fun i => x i * rsum (fun j => aM σ m i j * x j) 0 P) 0 P = kS σ (fun k => rsum (fun j => eM σ k j * x j) 0 P * rsum (fun j => eM σ k j * x j) 0 P) m
  | 0 => by
    rw [rsum_c (g := fun i => 0 * x i) _ (fun j _ _ => by rw [rsum_c (g := fun j => 0 * x j) _ (fun j _ _ => by show 0 * x j = 0 * x j; rfl), rsum_k]; omega), rsum_k, Int.zero_mul]; rfl
  | m + 1 => by
    rw [kS, ← kS_a σ x hP m]
    by_cases ho : σ 5 m = 1
    · have e : ∀ i, rsum (fun j => aM σ (m + 1) i j * x j) 0 P = rsum (fun j => aM σ m i j * x j) 0 P + (sW σ m).toInt * eM σ m i * rsum (fun j => eM σ m j * x j) 0 P := fun i => by
        rw [rsum_c (g := fun j => aM σ m i j * x j + (sW σ m).toInt * eM σ m i * (eM σ m j * x j)) _ (fun j _ q => by rw [aM, gM, if_pos ho, fM, if_neg (by omega)]; grind), rsum_a, rsum_k]
      rw [if_pos ho, rsum_c (g := fun i => x i * rsum (fun j => aM σ m i j * x j) 0 P + (sW σ m).toInt * rsum (fun j => eM σ m j * x j) 0 P * (eM σ m i * x i)) _ (fun i _ _ => by rw [e i]; grind), rsum_a, rsum_k, Int.mul_assoc]
    · have e : ∀ i, rsum (fun j => aM σ (m + 1) i j * x j) 0 P = rsum (fun j => aM σ m i j * x j) 0 P := fun i => rsum_c _ (fun j _ q => by rw [aM, gM, if_neg ho, Int.add_zero])
      rw [if_neg ho, rsum_c (g := fun i => x i * rsum (fun j => aM σ m i j * x j) 0 P) _ (fun i _ _ => by rw [e i]), Int.add_zero]
theorem kS_n {σ : sg} {f : Nat → Int} (h : ∀ k, 0 ≤ f k) : ∀ m, 0 ≤ kS σ f m
  | 0 => Int.le_refl 0
  | m + 1 => by
    have h1 := kS_n (σ := σ) h m
    have hW := sW_b σ m
    have h2 := Int.mul_nonneg (show 0 ≤ (sW σ m).toInt by omega) (h m)
    rw [kS]
    split <;> omega
theorem kS_3 (σ : sg) (f g h : Nat → Int) (c : Int) : ∀ m, kS σ (fun k => (f k * c - g k) * (f k * c - g k)) m = c * c * kS σ (fun k => f k * f k) m - 2 * c * kS σ (fun k => f k * g k) m + kS σ (fun k => g k * g k) m
  | 0 => by show (0 : Int) = c * c * 0 - 2 * c * 0 + 0; omega
  | m + 1 => by
    rw [kS, kS, kS, kS, kS_3 σ f g h c m]
    by_cases ho : σ 5 m = 1
    · rw [if_pos ho, if_pos ho, if_pos ho, if_pos ho]; grind
    · rw [if_neg ho, if_neg ho, if_neg ho, if_neg ho]; grind
theorem kS_b {σ : sg} {f : Nat → Int} {B : Int} (h : ∀ k, f k ≤ B) (h0 : 0 ≤ B) : ∀ m : Nat, kS σ f m ≤ 4 * B * m
  | 0 => by show (0 : Int) ≤ 4 * B * 0; omega
  | m + 1 => by
    have h1 := kS_b (σ := σ) h h0 m
    have hW := sW_b σ m
    have h2 := Int.mul_le_mul_of_nonneg_left (h m) (show 0 ≤ (sW σ m).toInt by omega)
    have h3 := Int.mul_le_mul_of_nonneg_right (show (sW σ m).toInt ≤ 4 by omega) h0
    rw [kS]
    have e : 4 * B * ((m + 1 : Nat) : Int) = 4 * B * m + 4 * B := by rw [Int.natCast_add]; grind
    rw [e]
    split <;> omega
def qS (σ : sg) : Nat → Int := kS σ (fun k => mI σ k * mI σ k)
theorem qS_b {σ : sg} (hI : sInv σ) (hH : sHolds σ (sSet σ)) : 0 ≤ qS σ (sM σ) ∧ qS σ (sM σ) ≤ 2 ^ 55 := by
  have hL := lPl_b hI hH
  have hP := (sIP hI).2.2
  have hM := (sIM hI).2
  have sq : ∀ x : Int, 0 ≤ x * x := fun x => by
    by_cases q : 0 ≤ x
    · exact Int.mul_nonneg q q
    · exact mul_nn (by omega) (by omega)
  refine ⟨kS_n (fun k => sq _) _, ?_⟩
  have e1 : qS σ (sM σ) = _ := kS_3 σ (fun k => (sS σ k).toInt) (vPl σ) (vPl σ) (lPl σ) (sM σ)
  have e2 : rsum (fun i => xPl σ i * aM σ (sM σ) i 4) 0 (sP σ) = kS σ (fun k => (sS σ k).toInt * vPl σ k) (sM σ) := kS_c σ (xPl σ) (sP σ) (sM σ)
  have e3 : rsum (fun i => xPl σ i * rsum (fun j => aM σ (sM σ) i j * xPl σ j) 0 (sP σ)) 0 (sP σ) = kS σ (fun k => vPl σ k * vPl σ k) (sM σ) := kS_a σ (xPl σ) hP (sM σ)
  have e4 : rsum (fun i => xPl σ i * rsum (fun j => aM σ (sM σ) i j * xPl σ j) 0 (sP σ)) 0 (sP σ) = lPl σ * rsum (fun i => xPl σ i * aM σ (sM σ) i 4) 0 (sP σ) := by
    rw [← rsum_k]
    refine rsum_c _ (fun i _ hi => ?_)
    have : rsum (fun j => aM σ (sM σ) i j * xPl σ j) 0 (sP σ) = lPl σ * aM σ (sM σ) i 4 := bE_cr _ _ hP i hi
    rw [this]
    grind
  have h1 := kS_n (σ := σ) (f := fun k => vPl σ k * vPl σ k) (fun k => sq _) (sM σ)
  have h2 := kS_b (σ := σ) (f := fun k => (sS σ k).toInt * (sS σ k).toInt) (B := 900) (fun k => by
    have hS := sS_b σ k
    have := nb_mul (x := (sS σ k).toInt) (y := (sS σ k).toInt) (A := 30) (B := 30) (by omega) (by omega)
    omega) (by decide) (sM σ)
  have e5 : lPl σ * kS σ (fun k => (sS σ k).toInt * vPl σ k) (sM σ) = kS σ (fun k => vPl σ k * vPl σ k) (sM σ) := by rw [← e2, ← e3, e4]
  have h3 := Int.mul_le_mul (show lPl σ ≤ 2 ^ 20 from hL.2) (show lPl σ ≤ 2 ^ 20 from hL.2) (Int.le_of_lt hL.1) (by decide)
  have h4 := Int.mul_le_mul h3 (show kS σ (fun k => (sS σ k).toInt * (sS σ k).toInt) (sM σ) ≤ 28800 by omega) (kS_n (fun k => sq _) _) (by decide)
  rw [e1, show 2 * lPl σ * kS σ (fun k => (sS σ k).toInt * vPl σ k) (sM σ) = 2 * (lPl σ * kS σ (fun k => (sS σ k).toInt * vPl σ k) (sM σ)) from Int.mul_assoc _ _ _, e5]
  have h5 : (2 : Int) ^ 20 * 2 ^ 20 * 28800 ≤ 2 ^ 55 := by decide
  omega
theorem sm_v {σ : sg} (hI : sInv σ) : ∀ m, m ≤ sM σ → sSm σ (mLn σ) (mAb σ) m = iL (qS σ m)
  | 0, _ => rfl
  | m + 1, hm => by
    rw [sSm, sm_v hI m (by omega), mis_v hI (by omega)]
    show _ = iL (qS σ m + (if σ 5 m = 1 then (sW σ m).toInt * (mI σ m * mI σ m) else 0))
    by_cases ho : σ 5 m = 1
    · rw [if_pos ho, if_pos ho, iL_32, iL_mul, iL_mul, iL_add, Int.mul_assoc]
    · rw [if_neg ho, if_neg ho, Int.add_zero, Int64.add_zero]
