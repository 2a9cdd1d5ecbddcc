/-! ===== pure: what holds has places ===== -/
/-! blocks' rows: what is tied stands above nothing -/
def rsum (f : Nat → Int) (s : Nat) : Nat → Int
  | 0 => 0
  | n + 1 => rsum f s n + (if s ≤ n then f n else 0)
theorem rsum_0 (f : Nat → Int) {s : Nat} : ∀ n, n ≤ s → rsum f s n = 0
  | 0, _ => rfl
  | n + 1, h => by rw [rsum, rsum_0 f n (by omega), if_neg (by omega)]; rfl
theorem rsum_1 (f : Nat → Int) {s : Nat} : ∀ n, s < n → rsum f s n = f s + rsum f (s + 1) n
  | 0, h => absurd h (Nat.not_lt_zero s)
  | n + 1, h => by
    rw [rsum, rsum]
    by_cases e : s = n
    · subst e
      rw [rsum_0 f s (Nat.le_refl s), rsum_0 f s (Nat.le_succ s), if_pos (Nat.le_refl s), if_neg (by omega)]
      omega
    · rw [rsum_1 f n (by omega), if_pos (by omega), if_pos (by omega)]
      omega
theorem rsum_c {f g : Nat → Int} {s : Nat} : ∀ n, (∀ j, s ≤ j → j < n → f j = g j) → rsum f s n = rsum g s n
  | 0, _ => rfl
  | n + 1, h => by
    rw [rsum, rsum, rsum_c n (fun j q1 q2 => h j q1 (by omega))]
    by_cases q : s ≤ n
    · rw [if_pos q, if_pos q, h n q (Nat.lt_succ_self n)]
    · rw [if_neg q, if_neg q]
theorem rsum_l (f g : Nat → Int) (c d : Int) (s : Nat) : ∀ n, rsum (fun j => f j * c - d * g j) s n = rsum f s n * c - d * rsum g s n
  | 0 => by simp [rsum]
  | n + 1 => by
    rw [rsum, rsum, rsum, rsum_l f g c d s n]
    by_cases q : s ≤ n
    · rw [if_pos q, if_pos q, if_pos q]; grind
    · rw [if_neg q, if_neg q, if_neg q]; grind
theorem rsum_n {f : Nat → Int} {s : Nat} : ∀ n, (∀ j, s ≤ j → j < n → f j ≤ 0) → rsum f s n ≤ 0
  | 0, _ => Int.le_refl 0
  | n + 1, h => by
    have := rsum_n n (fun j q1 q2 => h j q1 (by omega))
    rw [rsum]
    by_cases q : s ≤ n
    · rw [if_pos q]; have := h n q (Nat.lt_succ_self n); omega
    · rw [if_neg q]; omega
theorem rsum_m {f : Nat → Int} {s : Nat} : ∀ n, (∀ j, s ≤ j → j < n → f j ≤ 0) → ∀ j, s ≤ j → j < n → rsum f s n ≤ f j
  | 0, _, j, _, h => absurd h (Nat.not_lt_zero j)
  | n + 1, h, j, q1, q2 => by
    have h0 := rsum_n n (fun j q1 q2 => h j q1 (by omega))
    rw [rsum, if_pos (by omega)]
    by_cases e : j = n
    · subst e; omega
    · have := rsum_m n (fun j q1 q2 => h j q1 (by omega)) j q1 (by omega)
      have := h n (by omega) (Nat.lt_succ_self n)
      omega
def Lap (s n : Nat) (a : Nat → Nat → Int) : Prop :=
  (∀ i j, a i j = a j i) ∧ (∀ i j, s ≤ i → s ≤ j → i ≠ j → a i j ≤ 0) ∧ (∀ i, s ≤ i → i < n → 0 ≤ rsum (a i) s n) ∧
  ∀ S : Nat → Prop, (∃ i, s ≤ i ∧ i < n ∧ S i) → ∃ i, s ≤ i ∧ i < n ∧ S i ∧ (0 < rsum (a i) s n ∨ ∃ j, s ≤ j ∧ j < n ∧ ¬ S j ∧ a i j < 0)
theorem lap_d {s n : Nat} {a : Nat → Nat → Int} (h : Lap s n a) (hs : s < n) : 0 < a s s := by
  obtain ⟨h1, h2, h3, h4⟩ := h
  have hr := h3 s (Nat.le_refl s) hs
  rw [rsum_1 _ n hs] at hr
  have hn : ∀ j, s + 1 ≤ j → j < n → a s j ≤ 0 := fun j q1 q2 => h2 s j (Nat.le_refl s) (by omega) (by omega)
  have h0 := rsum_n (f := a s) n hn
  obtain ⟨i, -, -, rfl, h5 | ⟨j, q1, q2, q3, q4⟩⟩ := h4 (fun i => i = s) ⟨s, Nat.le_refl s, hs, rfl⟩
  · rw [rsum_1 _ n hs] at h5; omega
  · have := rsum_m (f := a i) n hn j (by omega) q2
    omega
theorem mul_nn {x y : Int} (hx : x ≤ 0) (hy : y ≤ 0) : 0 ≤ x * y := by have := Int.mul_nonneg (a := -x) (b := -y) (by omega) (by omega); rw [Int.neg_mul_neg] at this; exact this
theorem mul_pp {x y : Int} (hx : x < 0) (hy : y < 0) : 0 < x * y := by have := Int.mul_pos (a := -x) (b := -y) (by omega) (by omega); rw [Int.neg_mul_neg] at this; exact this
theorem mul_np {x y : Int} (hx : x ≤ 0) (hy : 0 ≤ y) : x * y ≤ 0 := by have := Int.mul_nonneg (a := -x) (b := y) (by omega) (by omega); rw [Int.neg_mul] at this; omega
theorem mul_ngp {x y : Int} (hx : x < 0) (hy : 0 < y) : x * y < 0 := by have := Int.mul_pos (a := -x) (b := y) (by omega) (by omega); rw [Int.neg_mul] at this; omega
theorem lap_s {s n : Nat} {a : Nat → Nat → Int} (h : Lap s n a) (hs : s < n) : Lap (s + 1) n (fun i j => a i j * a s s - a i s * a s j) := by
  have hD := lap_d h hs
  obtain ⟨h1, h2, h3, h4⟩ := h
  have hrs : ∀ i, rsum (fun j => a i j * a s s - a i s * a s j) (s + 1) n = rsum (a i) s n * a s s - a i s * rsum (a s) s n := fun i => by
    rw [rsum_l, rsum_1 (a i) n hs, rsum_1 (a s) n hs]
    grind
  have hs0 := h3 s (Nat.le_refl s) hs
  have hss : ∀ i, s + 1 ≤ i → a i s ≤ 0 := fun i q => h2 i s (by omega) (Nat.le_refl s) (by omega)
  have hss' : ∀ i, s + 1 ≤ i → a s i ≤ 0 := fun i q => h2 s i (Nat.le_refl s) (by omega) (by omega)
  refine ⟨fun i j => ?_, fun i j q1 q2 q3 => ?_, fun i q1 q2 => ?_, fun S hS => ?_⟩
  · show a i j * a s s - a i s * a s j = a j i * a s s - a j s * a s i
    rw [h1 i j, h1 i s, h1 s j]; grind
  · show a i j * a s s - a i s * a s j ≤ 0
    have e1 := mul_np (h2 i j (by omega) (by omega) q3) (Int.le_of_lt hD)
    have e2 := mul_nn (hss i q1) (hss' j q2)
    omega
  · show 0 ≤ rsum (fun j => a i j * a s s - a i s * a s j) (s + 1) n
    rw [hrs i]
    have e1 := Int.mul_nonneg (h3 i (by omega) q2) (Int.le_of_lt hD)
    have e2 := mul_np (hss i q1) hs0
    omega
  · show ∃ i, s + 1 ≤ i ∧ i < n ∧ S i ∧ (0 < rsum (fun j => a i j * a s s - a i s * a s j) (s + 1) n ∨ ∃ j, s + 1 ≤ j ∧ j < n ∧ ¬ S j ∧ a i j * a s s - a i s * a s j < 0)
    obtain ⟨i1, p1, p2, p3⟩ := hS
    by_cases hc : ∃ i0, s + 1 ≤ i0 ∧ i0 < n ∧ S i0 ∧ a i0 s < 0
    · obtain ⟨i0, r1, r2, r3, r4⟩ := hc
      obtain ⟨i, q1, q2, q3, q4⟩ := h4 (fun i => i = s ∨ S i) ⟨i1, by omega, p2, Or.inr p3⟩
      by_cases e : i = s
      · subst e
        refine ⟨i0, r1, r2, r3, ?_⟩
        rcases q4 with q4 | ⟨j, w1, w2, w3, w4⟩
        · refine Or.inl ?_
          rw [hrs i0]
          have e1 := Int.mul_nonneg (h3 i0 (by omega) r2) (Int.le_of_lt hD)
          have e2 := mul_ngp r4 q4
          omega
        · have hj : j ≠ i := fun q => w3 (Or.inl q)
          refine Or.inr ⟨j, by omega, w2, fun q => w3 (Or.inr q), ?_⟩
          have hne : i0 ≠ j := fun q => w3 (Or.inr (q ▸ r3))
          have e1 := mul_np (h2 i0 j (by omega) (by omega) hne) (Int.le_of_lt hD)
          have e2 := mul_pp r4 w4
          omega
      · have hi : S i := q3.resolve_left e
        refine ⟨i, by omega, q2, hi, ?_⟩
        rcases q4 with q4 | ⟨j, w1, w2, w3, w4⟩
        · refine Or.inl ?_
          rw [hrs i]
          have e1 := Int.mul_pos q4 hD
          have e2 := mul_np (hss i (by omega)) hs0
          omega
        · have hj : j ≠ s := fun q => w3 (Or.inl q)
          refine Or.inr ⟨j, by omega, w2, fun q => w3 (Or.inr q), ?_⟩
          have e1 := mul_ngp w4 hD
          have e2 := mul_nn (hss i (by omega)) (hss' j (by omega))
          omega
    · have hz : ∀ i, s + 1 ≤ i → i < n → S i → a i s = 0 := fun i z1 z2 z3 => by
        have := hss i z1
        by_cases q : a i s < 0
        · exact absurd ⟨i, z1, z2, z3, q⟩ hc
        · omega
      obtain ⟨i, q1, q2, q3, q4⟩ := h4 (fun i => s + 1 ≤ i ∧ S i) ⟨i1, by omega, p2, p1, p3⟩
      refine ⟨i, q3.1, q2, q3.2, ?_⟩
      have z := hz i q3.1 q2 q3.2
      rcases q4 with q4 | ⟨j, w1, w2, w3, w4⟩
      · refine Or.inl ?_
        rw [hrs i, z]
        have e1 := Int.mul_pos q4 hD
        omega
      · have hj : j ≠ s := fun q => by rw [q, z] at w4; omega
        refine Or.inr ⟨j, by omega, w2, fun q => w3 ⟨by omega, q⟩, ?_⟩
        rw [z]
        have e1 := mul_ngp w4 hD
        omega
theorem pos_of {x y : Int} (hx : 0 < x) (h : 0 < x * y) : 0 < y := by
  by_cases q : 0 < y
  · exact q
  · have := Int.mul_nonneg (a := x) (b := -y) (by omega) (by omega)
    rw [Int.mul_neg] at this
    omega
theorem lap_pos {n : Nat} {a : Nat → Nat → Int} (hn : n ≤ 4) (h : Lap 0 n a) : ∀ k, k ≤ n → 0 < bP a k := by
  have p0 : 0 < bP a 0 := by show (0 : Int) < 1; decide
  have f1 : 1 ≤ n → 0 < bP a 1 := fun q => lap_d h q
  have l1 : 1 ≤ n → Lap 1 n (fun i j => a i j * a 0 0 - a i 0 * a 0 j) := fun q => lap_s h q
  have f2 : 2 ≤ n → 0 < bP a 2 := fun q => lap_d (l1 (by omega)) q
  have l2 : 2 ≤ n → Lap 2 n _ := fun q => lap_s (l1 (by omega)) q
  have e1 : ∀ i j, 1 ≤ i → a i j * a 0 0 - a i 0 * a 0 j = bE a 1 i j := fun i j q => (if_neg (by omega)).symm
  have e2 : ∀ i j, 2 ≤ i → i < 4 → (a i j * a 0 0 - a i 0 * a 0 j) * (a 1 1 * a 0 0 - a 1 0 * a 0 1) - (a i 1 * a 0 0 - a i 0 * a 0 1) * (a 1 j * a 0 0 - a 1 0 * a 0 j) = bP a 1 * bE a 2 i j := fun i j q q2 => by
    rw [e1 i j (by omega), e1 1 1 (by omega), e1 i 1 (by omega), e1 1 j (by omega)]
    exact bE_st a 1 i j (by omega) q2 (by omega)
  have f3 : 3 ≤ n → 0 < bP a 3 := fun q => by
    have := lap_d (l2 (by omega)) q
    rw [e2 2 2 (by omega) (by omega)] at this
    exact pos_of (f1 (by omega)) this
  have f4 : 4 ≤ n → 0 < bP a 4 := fun q => by
    have := lap_d (lap_s (l2 (by omega)) (by omega)) q
    rw [e2 3 3 (by omega) (by omega), e2 2 2 (by omega) (by omega), e2 3 2 (by omega) (by omega), e2 2 3 (by omega) (by omega)] at this
    have e3 := bE_st a 2 3 3 (by omega) (by omega) (by omega)
    have e4 : bP a 1 * bE a 2 3 3 * (bP a 1 * bE a 2 2 2) - bP a 1 * bE a 2 3 2 * (bP a 1 * bE a 2 2 3) = bP a 1 * (bP a 1 * (bP a 2 * bE a 3 3 3)) := by rw [← e3]; grind
    rw [e4] at this
    exact pos_of (f2 (by omega)) (pos_of (f1 (by omega)) (pos_of (f1 (by omega)) this))
  intro k hk
  obtain rfl | rfl | rfl | rfl | rfl : k = 0 ∨ k = 1 ∨ k = 2 ∨ k = 3 ∨ k = 4 := by omega
  · exact p0
  · exact f1 hk
  · exact f2 hk
  · exact f3 hk
  · exact f4 hk
/-! the block's rows in whole numbers -/
theorem held_b {x lo hi : Int32} (h : lo.toInt ≤ hi.toInt) : lo.toInt ≤ (sHeld x lo hi).toInt ∧ (sHeld x lo hi).toInt ≤ hi.toInt := by
  unfold sHeld
  by_cases q : x < lo
  · rw [if_pos q]; exact ⟨Int.le_refl _, h⟩
  · rw [if_neg q]
    by_cases q2 : hi < x
    · rw [if_pos q2]; exact ⟨h, Int.le_refl _⟩
    · rw [if_neg q2]
      exact ⟨Int32.le_iff_toInt_le.mp (Int32.not_lt.mp q), Int32.le_iff_toInt_le.mp (Int32.not_lt.mp q2)⟩
theorem sW_b (σ : sg) (k : Nat) : 1 ≤ (sW σ k).toInt ∧ (sW σ k).toInt ≤ 4 := by
  have h := held_b (x := (if sC σ 0 = 0 then sWd σ k (sTch σ k) else (sRun (σ (9 + 0)) (sWd σ k (sTch σ k)) (sTch σ k) (sR8 σ) (sC σ 0)).headD 0)) (show (sLo 0).toInt ≤ (sHi 0).toInt by decide)
  exact h
theorem sS_b (σ : sg) (k : Nat) : -30 ≤ (sS σ k).toInt ∧ (sS σ k).toInt ≤ 30 := by
  have h := held_b (x := (if sC σ 1 = 0 then sRd σ k else (sRun (σ (9 + 1)) (sRd σ k) (σ 4 k) (sR8 σ) (sC σ 1)).headD 0)) (show (sLo 1).toInt ≤ (sHi 1).toInt by decide)
  exact h
theorem iL_32 (x : Int32) : x.toInt64 = iL x.toInt := rfl
theorem iL_w2 {W S : Int32} (hW : 1 ≤ W.toInt ∧ W.toInt ≤ 4) (hS : -30 ≤ S.toInt ∧ S.toInt ≤ 30) : (W * S).toInt64 = iL (W.toInt * S.toInt) := by
  rw [iL_32, Int32.toInt_mul]
  have b := nb_mul (x := W.toInt) (y := S.toInt) (A := 4) (B := 30) (by omega) (by omega)
  congr 1
  exact Int.bmod_eq_of_le (by omega) (by omega)
/-- one end of a mark -/
def eM (σ : sg) (m i : Nat) : Int := (if i = nn (σ 3 m) then 1 else 0) - (if ¬ σ 2 m < 0 ∧ i = nn (σ 2 m) then 1 else 0)
def fM (σ : sg) (m j : Nat) : Int := if j = 4 then (sS σ m).toInt else eM σ m j
def gM (σ : sg) (m i j : Nat) : Int := if σ 5 m = 1 then (sW σ m).toInt * eM σ m i * fM σ m j else 0
def aM (σ : sg) : Nat → Nat → Nat → Int
  | 0, _, _ => 0
  | m + 1, i, j => aM σ m i j + gM σ m i j
theorem tf_ne {σ : sg} (hI : sInv σ) {k : Nat} (hk : k < sM σ) (h : ¬ σ 2 k < 0) : nn (σ 3 k) ≠ nn (σ 2 k) := by
  obtain ⟨⟨t, t1, t2, -⟩, -, h3⟩ := sTf hI hk
  obtain ⟨f, f1, f2⟩ := h3 h
  have h4 := (sIP hI).2.2
  obtain ⟨-, -, -, -, ne, -⟩ := sIk hI hk
  rw [t2, f2, nn_nI (by omega), nn_nI (by omega)]
  intro e
  exact ne (by rw [t2, f2, e])
theorem ent_v {σ : sg} (hI : sInv σ) {k : Nat} (hk : k < sM σ) {M : Nat → Nat → Int64} {a : Nat → Nat → Int} (h : ∀ i j, i < 4 → j < 5 → M (50 + i) j = iL (a i j)) {i j : Nat} (hi : i < 4) (hj : j < 5) : sEnt M (σ 2 k) (nn (σ 3 k)) (sW σ k) (sS σ k) (50 + i) j = iL (a i j + (sW σ k).toInt * eM σ k i * fM σ k j) := by
  have hW := sW_b σ k
  have hS := sS_b σ k
  obtain ⟨q1, q2, q3⟩ := nn_lt hI hk
  have eWS := iL_w2 hW hS
  have eW := iL_32 (sW σ k)
  unfold sEnt
  dsimp only
  by_cases hf : σ 2 k < 0
  · rw [if_pos hf]
    have e0 : ∀ x, eM σ k x = if x = nn (σ 3 k) then 1 else 0 := fun x => by unfold eM; rw [if_neg (c := ¬ σ 2 k < 0 ∧ x = nn (σ 2 k)) (fun q => q.1 hf)]; exact Int.sub_zero _
    unfold fM
    rw [e0, e0, eWS, eW]
    generalize (sW σ k).toInt = W
    generalize (sS σ k).toInt = S
    generalize nn (σ 3 k) = t at *
    simp only [lset_eq]
    by_cases c1 : i = t
    · subst c1
      by_cases c2 : j = 4
      · subst c2
        have c3 : ¬ (4 : Nat) = i := by omega
        have c4 : ¬ i = 4 := by omega
        simp only [c3, c4, h i 4 hi hj, and_false, and_true, if_true, if_false, and_self]
        rw [iL_add]
        congr 1
        grind
      · by_cases c3 : j = i
        · subst c3
          simp only [c2, h j j hi hj, and_false, and_true, if_true, if_false, and_self]
          rw [iL_add]
          congr 1
          grind
        · simp only [c2, c3, h i j hi hj, and_false, and_true, if_true, if_false, and_self]
          congr 1
          grind
    · have c5 : ¬ 50 + i = 50 + t := by omega
      simp only [c1, c5, h i j hi hj, false_and, if_false]
      congr 1
      grind
  · rw [if_neg hf]
    have hne := tf_ne hI hk hf
    have hf4 := q2 hf
    have e0 : ∀ x, eM σ k x = (if x = nn (σ 3 k) then 1 else 0) - (if x = nn (σ 2 k) then 1 else 0) := fun x => by
      unfold eM
      by_cases c : x = nn (σ 2 k)
      · rw [if_pos (c := ¬ σ 2 k < 0 ∧ x = nn (σ 2 k)) ⟨hf, c⟩, if_pos c]
      · rw [if_neg (c := ¬ σ 2 k < 0 ∧ x = nn (σ 2 k)) (fun q => c q.2), if_neg c]
    unfold fM
    rw [e0, e0, eWS, eW]
    generalize (sW σ k).toInt = W
    generalize (sS σ k).toInt = S
    generalize nn (σ 3 k) = t at *
    generalize nn (σ 2 k) = f at *
    have hne' : ¬ f = t := fun q => hne q.symm
    have hne2 : ¬ t = f := hne
    have d1 : ¬ 50 + f = 50 + t := by omega
    have d2 : ¬ 50 + t = 50 + f := by omega
    simp only [lset_eq]
    by_cases c1 : i = t
    · subst c1
      by_cases c2 : j = 4
      · subst c2
        have c3 : ¬ (4 : Nat) = i := by omega
        have c4 : ¬ (4 : Nat) = f := by omega
        have c5 : ¬ i = 4 := by omega
        have c6 : ¬ f = 4 := by omega
        simp only [c3, c4, c5, c6, d1, d2, hne', hne2, h i 4 hi hj, and_false, false_and, and_true, if_true, if_false, and_self, iL_add, iL_sub]
        congr 1
        grind
      · have c5 : ¬ i = 4 := by omega
        have c6 : ¬ f = 4 := by omega
        by_cases c3 : j = i
        · subst c3
          simp only [c2, c5, c6, d1, d2, hne', hne2, h j j hi hj, and_false, false_and, and_true, if_true, if_false, and_self, iL_add, iL_sub]
          congr 1
          grind
        · by_cases c4 : j = f
          · subst c4
            simp only [c2, c3, c5, c6, d1, d2, hne', hne2, h i j hi hj, and_false, false_and, and_true, if_true, if_false, and_self, iL_add, iL_sub]
            congr 1
            grind
          · simp only [c2, c3, c4, c5, c6, d1, d2, hne', hne2, h i j hi hj, and_false, false_and, and_true, if_true, if_false, and_self, iL_add, iL_sub]
            congr 1
            grind
    · have d3 : ¬ 50 + i = 50 + t := by omega
      by_cases c0 : i = f
      · subst c0
        by_cases c2 : j = 4
        · subst c2
          have c3 : ¬ (4 : Nat) = i := by omega
          have c4 : ¬ (4 : Nat) = t := by omega
          have c5 : ¬ i = 4 := by omega
          have c6 : ¬ t = 4 := by omega
          simp only [c1, c3, c4, c5, c6, d1, d2, d3, hne', hne2, h i 4 hi hj, and_false, false_and, and_true, if_true, if_false, and_self, iL_add, iL_sub]
          congr 1
          grind
        · have c5 : ¬ i = 4 := by omega
          have c6 : ¬ t = 4 := by omega
          by_cases c3 : j = i
          · subst c3
            simp only [c1, c2, c5, c6, d1, d2, d3, hne', hne2, h j j hi hj, and_false, false_and, and_true, if_true, if_false, and_self, iL_add, iL_sub]
            congr 1
            grind
          · by_cases c4 : j = t
            · subst c4
              simp only [c1, c2, c3, c5, c6, d1, d2, d3, hne', hne2, h i j hi hj, and_false, false_and, and_true, if_true, if_false, and_self, iL_add, iL_sub]
              congr 1
              grind
            · simp only [c1, c2, c3, c4, c5, c6, d1, d2, d3, hne', hne2, h i j hi hj, and_false, false_and, and_true, if_true, if_false, and_self, iL_add, iL_sub]
              congr 1
              grind
      · have d4 : ¬ 50 + i = 50 + f := by omega
        simp only [c0, c1, d1, d2, d3, d4, h i j hi hj, and_false, false_and, if_false]
        congr 1
        grind
theorem entN_v {σ : sg} (hI : sInv σ) {M : Nat → Nat → Int64} : ∀ m, m ≤ sM σ → ∀ i j, i < 4 → j < 5 → sEntN σ (sZer M) m (50 + i) j = iL (aM σ m i j)
  | 0, _, i, j, hi, hj => by
    show sZer M (50 + i) j = _
    unfold sZer
    rw [sZA_eq, if_pos (by omega)]
    rfl
  | m + 1, hm, i, j, hi, hj => by
    rw [sEntN]
    by_cases ho : σ 5 m = 1
    · rw [if_pos ho, ent_v hI (by omega) (entN_v hI m (by omega)) hi hj, aM, gM, if_pos ho]
    · rw [if_neg ho, entN_v hI m (by omega) i j hi hj, aM, gM, if_neg ho, Int.add_zero]
/-! the reference's sums are the same -/
theorem ad1_v {σ : sg} {k t : Nat} {q : mMT} {a : Nat → Nat → Int} (h : (∀ i j, i < 4 → j < 4 → q.1 (4 * i + j) = iL (a i j)) ∧ ∀ i, i < 4 → q.2 i = iL (a i 4)) (ht : t < 4) : (∀ i j, i < 4 → j < 4 → (mAd1 σ k t q).1 (4 * i + j) = iL (a i j + if i = t ∧ j = t then (sW σ k).toInt else 0)) ∧ ∀ i, i < 4 → (mAd1 σ k t q).2 i = iL (a i 4 + if i = t then (sW σ k).toInt * (sS σ k).toInt else 0) := by
  refine ⟨fun i j hi hj => ?_, fun i hi => ?_⟩
  · show vp_updL q.1 (5 * t) (q.1 (5 * t) + (sW σ k).toInt64) (4 * i + j) = _
    by_cases c : i = t ∧ j = t
    · obtain ⟨rfl, rfl⟩ := c
      rw [show 5 * j = 4 * j + j by omega, uL_at, h.1 j j hj hj, if_pos ⟨rfl, rfl⟩, iL_32, iL_add]
    · rw [if_neg c, uL_ne _ _ (by omega), h.1 i j hi hj, Int.add_zero]
  · show vp_updL q.2 t (q.2 t + (sW σ k).toInt64 * (sS σ k).toInt64) i = _
    by_cases c : i = t
    · subst c
      rw [uL_at, h.2 i hi, if_pos rfl, iL_32, iL_32, iL_mul, iL_add]
    · rw [uL_ne _ _ c, h.2 i hi, if_neg c, Int.add_zero]
theorem ad2_v {σ : sg} {k t f : Nat} {q : mMT} {a : Nat → Nat → Int} (h : (∀ i j, i < 4 → j < 4 → q.1 (4 * i + j) = iL (a i j)) ∧ ∀ i, i < 4 → q.2 i = iL (a i 4)) (ht : t < 4) (hf : f < 4) (hne : t ≠ f) : (∀ i j, i < 4 → j < 4 → (mAd2 σ k t f q).1 (4 * i + j) = iL (a i j + if i = f ∧ j = f then (sW σ k).toInt else if (i = f ∧ j = t) ∨ (i = t ∧ j = f) then -(sW σ k).toInt else 0)) ∧ ∀ i, i < 4 → (mAd2 σ k t f q).2 i = iL (a i 4 - if i = f then (sW σ k).toInt * (sS σ k).toInt else 0) := by
  refine ⟨fun i j hi hj => ?_, fun i hi => ?_⟩
  · show vp_updL (vp_updL (vp_updL q.1 (5 * f) (q.1 (5 * f) + (sW σ k).toInt64)) (4 * f + t) (vp_updL q.1 (5 * f) (q.1 (5 * f) + (sW σ k).toInt64) (4 * f + t) - (sW σ k).toInt64)) (4 * t + f) (vp_updL (vp_updL q.1 (5 * f) (q.1 (5 * f) + (sW σ k).toInt64)) (4 * f + t) (vp_updL q.1 (5 * f) (q.1 (5 * f) + (sW σ k).toInt64) (4 * f + t) - (sW σ k).toInt64) (4 * t + f) - (sW σ k).toInt64) (4 * i + j) = _
    have e5 : 5 * f = 4 * f + f := by omega
    by_cases c : i = f ∧ j = f
    · obtain ⟨rfl, rfl⟩ := c
      rw [uL_ne _ _ (by omega), uL_ne _ _ (by omega), e5, uL_at, h.1 j j hj hj, if_pos ⟨rfl, rfl⟩, iL_32, iL_add]
    · rw [if_neg c]
      by_cases c2 : i = f ∧ j = t
      · obtain ⟨rfl, rfl⟩ := c2
        rw [if_pos (Or.inl ⟨rfl, rfl⟩), uL_ne _ _ (by omega), uL_at, uL_ne _ _ (by omega), h.1 i j hi hj, iL_32, iL_sub]
        congr 1
      · by_cases c3 : i = t ∧ j = f
        · obtain ⟨rfl, rfl⟩ := c3
          rw [if_pos (Or.inr ⟨rfl, rfl⟩), uL_at, uL_ne _ _ (by omega), uL_ne _ _ (by omega), h.1 i j hi hj, iL_32, iL_sub]
          congr 1
        · rw [if_neg (fun q => q.elim c2 c3), uL_ne _ _ (by omega), uL_ne _ _ (by omega), uL_ne _ _ (by omega), h.1 i j hi hj, Int.add_zero]
  · show vp_updL q.2 f (q.2 f - (sW σ k).toInt64 * (sS σ k).toInt64) i = _
    by_cases c : i = f
    · subst c
      rw [uL_at, h.2 i hi, if_pos rfl, iL_32, iL_32, iL_mul, iL_sub]
    · rw [uL_ne _ _ c, h.2 i hi, if_neg c, Int.sub_zero]
theorem eM_g {σ : sg} {k : Nat} (h : σ 2 k < 0) (i : Nat) : eM σ k i = if i = nn (σ 3 k) then 1 else 0 := by
  unfold eM; rw [if_neg (c := ¬ σ 2 k < 0 ∧ i = nn (σ 2 k)) (fun q => q.1 h)]; exact Int.sub_zero _
theorem eM_p {σ : sg} {k : Nat} (h : ¬ σ 2 k < 0) (i : Nat) : eM σ k i = (if i = nn (σ 3 k) then 1 else 0) - (if i = nn (σ 2 k) then 1 else 0) := by
  unfold eM
  by_cases c : i = nn (σ 2 k)
  · rw [if_pos (c := ¬ σ 2 k < 0 ∧ i = nn (σ 2 k)) ⟨h, c⟩, if_pos c]
  · rw [if_neg (c := ¬ σ 2 k < 0 ∧ i = nn (σ 2 k)) (fun q => c q.2), if_neg c]
theorem mat_v {σ : sg} (hI : sInv σ) : ∀ m, m ≤ sM σ → (∀ i j, i < 4 → j < 4 → (mMat σ m).1 (4 * i + j) = iL (aM σ m i j)) ∧ ∀ i, i < 4 → (mMat σ m).2 i = iL (aM σ m i 4)
  | 0, _ => ⟨fun _ _ _ _ => rfl, fun _ _ => rfl⟩
  | m + 1, hm => by
    have h := mat_v hI m (by omega)
    obtain ⟨q1, q2, q3⟩ := nn_lt hI (k := m) (by omega)
    rw [mMat]
    by_cases ho : σ 5 m = 1
    · rw [if_pos ho, mAdd]
      have h1 := ad1_v (σ := σ) (k := m) h (Nat.lt_of_lt_of_le q1 q3)
      by_cases hf : σ 2 m < 0
      · rw [if_pos hf]
        refine ⟨fun i j hi hj => (h1.1 i j hi hj).trans ?_, fun i hi => (h1.2 i hi).trans ?_⟩
        · rw [aM, gM, if_pos ho, fM, if_neg (show ¬ j = 4 by omega), eM_g hf, eM_g hf]
          congr 2
          grind
        · rw [aM, gM, if_pos ho, fM, if_pos rfl, eM_g hf]
          congr 2
          grind
      · rw [if_neg hf]
        have hne := tf_ne hI (k := m) (by omega) hf
        have h2 := ad2_v (σ := σ) (k := m) (a := fun i j => aM σ m i j + if j = 4 then (if i = nn (σ 3 m) then (sW σ m).toInt * (sS σ m).toInt else 0) else (if i = nn (σ 3 m) ∧ j = nn (σ 3 m) then (sW σ m).toInt else 0)) (t := nn (σ 3 m)) (f := nn (σ 2 m))
          ⟨fun i j hi hj => (h1.1 i j hi hj).trans (by rw [if_neg (c := j = 4) (by omega)]), fun i hi => (h1.2 i hi).trans (by rw [if_pos (c := 4 = 4) rfl])⟩ (Nat.lt_of_lt_of_le q1 q3) (Nat.lt_of_lt_of_le (q2 hf) q3) hne
        refine ⟨fun i j hi hj => (h2.1 i j hi hj).trans ?_, fun i hi => (h2.2 i hi).trans ?_⟩
        · rw [aM, gM, if_pos ho, fM, if_neg (show ¬ j = 4 by omega), if_neg (show ¬ j = 4 by omega), eM_p hf, eM_p hf]
          congr 1
          grind
        · rw [aM, gM, if_pos ho, fM, if_pos rfl, if_pos (c := 4 = 4) rfl, eM_p hf]
          congr 1
          grind
    · rw [if_neg ho]
      refine ⟨fun i j hi hj => (h.1 i j hi hj).trans ?_, fun i hi => (h.2 i hi).trans ?_⟩ <;> rw [aM, gM, if_neg ho, Int.add_zero]
/-! what holds has places -/
def lG (σ : sg) (m i j : Nat) : Int := if σ 5 m = 1 then (sW σ m).toInt * (eM σ m i * eM σ m j) else 0
def lE (σ : sg) : Nat → Nat → Nat → Int
  | 0, _, _ => 0
  | m + 1, i, j => lE σ m i j + lG σ m i j
theorem lE_a {σ : sg} {i j : Nat} (hj : j < 4) : ∀ m, aM σ m i j = lE σ m i j
  | 0 => rfl
  | m + 1 => by
    rw [aM, lE, lE_a hj m, gM, lG, fM, if_neg (c := j = 4) (by omega), Int.mul_assoc]
theorem bP_c {a b : Nat → Nat → Int} (h : ∀ i j, i < 4 → j < 4 → a i j = b i j) (k : Nat) : bP a k = bP b k := by
  have h00 := h 0 0 (by omega) (by omega)
  have h01 := h 0 1 (by omega) (by omega)
  have h02 := h 0 2 (by omega) (by omega)
  have h03 := h 0 3 (by omega) (by omega)
  have h10 := h 1 0 (by omega) (by omega)
  have h11 := h 1 1 (by omega) (by omega)
  have h12 := h 1 2 (by omega) (by omega)
  have h13 := h 1 3 (by omega) (by omega)
  have h20 := h 2 0 (by omega) (by omega)
  have h21 := h 2 1 (by omega) (by omega)
  have h22 := h 2 2 (by omega) (by omega)
  have h23 := h 2 3 (by omega) (by omega)
  have h30 := h 3 0 (by omega) (by omega)
  have h31 := h 3 1 (by omega) (by omega)
  have h32 := h 3 2 (by omega) (by omega)
  have h33 := h 3 3 (by omega) (by omega)
  match k with
  | 0 => rfl
  | 1 => exact h00
  | 2 => show a 1 1 * a 0 0 - a 1 0 * a 0 1 = b 1 1 * b 0 0 - b 1 0 * b 0 1; rw [h00, h01, h10, h11]
  | 3 => show bM3 a 2 0 1 2 = bM3 b 2 0 1 2; unfold bM3; rw [h00, h01, h10, h11, h02, h12, h20, h21, h22]
  | k + 4 => show bM4 a 0 1 2 3 = bM4 b 0 1 2 3; unfold bM4; rw [h00, h01, h10, h11, h02, h12, h20, h21, h22, h03, h13, h23, h30, h31, h32, h33]
theorem lE_s (σ : sg) (i j : Nat) : ∀ m, lE σ m i j = lE σ m j i
  | 0 => rfl
  | m + 1 => by rw [lE, lE, lE_s σ i j m, lG, lG, Int.mul_comm (eM σ m i)]
theorem lG_o {σ : sg} (hI : sInv σ) {m : Nat} (hm : m < sM σ) {i j : Nat} (hne : i ≠ j) : lG σ m i j ≤ 0 := by
  have hW := sW_b σ m
  unfold lG
  by_cases ho : σ 5 m = 1
  · rw [if_pos ho]
    have e : eM σ m i * eM σ m j ≤ 0 := by
      by_cases hf : σ 2 m < 0
      · rw [eM_g hf, eM_g hf]; grind
      · have := tf_ne hI hm hf
        rw [eM_p hf, eM_p hf]; grind
    have := mul_np e (show (0 : Int) ≤ (sW σ m).toInt by omega)
    rw [Int.mul_comm] at this
    exact this
  · rw [if_neg ho]; exact Int.le_refl 0
theorem lE_o {σ : sg} (hI : sInv σ) {i j : Nat} (hne : i ≠ j) : ∀ m, m ≤ sM σ → lE σ m i j ≤ 0
  | 0, _ => Int.le_refl 0
  | m + 1, hm => by
    have h1 := lE_o hI hne m (by omega)
    have h2 := lG_o hI (m := m) (by omega) hne
    rw [lE]; omega
theorem lE_x {σ : sg} (hI : sInv σ) {k : Nat} (hk : k < sM σ) (ho : σ 5 k = 1) (hf : ¬ σ 2 k < 0) : ∀ m, m ≤ sM σ → k < m → lE σ m (nn (σ 3 k)) (nn (σ 2 k)) < 0
  | 0, _, h => absurd h (Nat.not_lt_zero k)
  | m + 1, hm, h => by
    have hne := tf_ne hI hk hf
    rw [lE]
    by_cases e : k = m
    · subst e
      have h1 := lE_o hI hne k (by omega)
      have h2 : lG σ k (nn (σ 3 k)) (nn (σ 2 k)) = -(sW σ k).toInt := by
        unfold lG
        rw [if_pos ho, eM_p hf, eM_p hf, if_pos rfl, if_neg hne, if_neg (fun q => hne q.symm), if_pos rfl]
        omega
      have hW := sW_b σ k
      omega
    · have h1 := lE_x hI hk ho hf m (by omega) (by omega)
      have h2 := lG_o hI (m := m) (by omega) hne
      omega
theorem rsum_a (f g : Nat → Int) (s : Nat) : ∀ n, rsum (fun j => f j + g j) s n = rsum f s n + rsum g s n
  | 0 => rfl
  | n + 1 => by
    rw [rsum, rsum, rsum, rsum_a f g s n]
    by_cases q : s ≤ n
    · rw [if_pos q, if_pos q, if_pos q]; omega
    · rw [if_neg q, if_neg q, if_neg q]; omega
theorem rsum_s (f g : Nat → Int) (s : Nat) : ∀ n, rsum (fun j => f j - g j) s n = rsum f s n - rsum g s n
  | 0 => rfl
  | n + 1 => by
    rw [rsum, rsum, rsum, rsum_s f g s n]
    by_cases q : s ≤ n
    · rw [if_pos q, if_pos q, if_pos q]; omega
    · rw [if_neg q, if_neg q, if_neg q]; omega
theorem rsum_k (c : Int) (f : Nat → Int) (s : Nat) : ∀ n, rsum (fun j => c * f j) s n = c * rsum f s n
  | 0 => (Int.mul_zero c).symm
  | n + 1 => by
    rw [rsum, rsum, rsum_k c f s n]
    by_cases q : s ≤ n
    · rw [if_pos q, if_pos q, Int.mul_add]
    · rw [if_neg q, if_neg q, Int.add_zero, Int.add_zero]
theorem rsum_z (t : Nat) : ∀ n, rsum (fun j => if j = t then 1 else 0) 0 n = if t < n then 1 else 0
  | 0 => rfl
  | n + 1 => by
    rw [rsum, rsum_z t n]
    grind
theorem eM_r {σ : sg} (hI : sInv σ) {k : Nat} (hk : k < sM σ) : rsum (eM σ k) 0 (sP σ) = if σ 2 k < 0 then 1 else 0 := by
  obtain ⟨q1, q2, q3⟩ := nn_lt hI hk
  by_cases hf : σ 2 k < 0
  · rw [show eM σ k = fun j => if j = nn (σ 3 k) then 1 else 0 from funext (eM_g hf), rsum_z, if_pos q1, if_pos hf]
  · rw [show eM σ k = fun j => (if j = nn (σ 3 k) then 1 else 0) - (if j = nn (σ 2 k) then 1 else 0) from funext (eM_p hf), rsum_s, rsum_z, rsum_z, if_pos q1, if_pos (q2 hf), if_neg hf]
    rfl
theorem lG_r {σ : sg} (hI : sInv σ) {m : Nat} (hm : m < sM σ) (i : Nat) : rsum (lG σ m i) 0 (sP σ) = if σ 5 m = 1 ∧ σ 2 m < 0 ∧ i = nn (σ 3 m) then (sW σ m).toInt else 0 := by
  by_cases ho : σ 5 m = 1
  · rw [show lG σ m i = fun j => ((sW σ m).toInt * eM σ m i) * eM σ m j from funext (fun j => by rw [lG, if_pos ho, Int.mul_assoc]), rsum_k, eM_r hI hm]
    by_cases hf : σ 2 m < 0
    · rw [if_pos hf, eM_g hf]
      grind
    · rw [if_neg hf, if_neg (fun q => hf q.2.1), Int.mul_zero]
  · rw [show lG σ m i = fun j => 0 * (0 : Int) from funext (fun j => by rw [lG, if_neg ho]; rfl), rsum_k, if_neg (fun q => ho q.1), Int.zero_mul]
theorem lE_r {σ : sg} (hI : sInv σ) (i : Nat) : ∀ m, m ≤ sM σ → 0 ≤ rsum (lE σ m i) 0 (sP σ)
  | 0, _ => by rw [show lE σ 0 i = fun j => 0 * (0 : Int) from rfl, rsum_k, Int.zero_mul]; exact Int.le_refl 0
  | m + 1, hm => by
    have h1 := lE_r hI i m (by omega)
    have hW := sW_b σ m
    rw [show lE σ (m + 1) i = fun j => lE σ m i j + lG σ m i j from rfl, rsum_a, lG_r hI (by omega) i]
    split <;> omega
theorem lE_y {σ : sg} (hI : sInv σ) {k : Nat} (hk : k < sM σ) (ho : σ 5 k = 1) (hf : σ 2 k < 0) : ∀ m, m ≤ sM σ → k < m → 0 < rsum (lE σ m (nn (σ 3 k))) 0 (sP σ)
  | 0, _, h => absurd h (Nat.not_lt_zero k)
  | m + 1, hm, h => by
    have hW := sW_b σ m
    rw [show lE σ (m + 1) (nn (σ 3 k)) = fun j => lE σ m (nn (σ 3 k)) j + lG σ m (nn (σ 3 k)) j from rfl, rsum_a, lG_r hI (by omega) _]
    have h0 := lE_r hI (nn (σ 3 k)) m (by omega)
    by_cases e : k = m
    · subst e
      rw [if_pos ⟨ho, hf, rfl⟩]
      omega
    · have h1 := lE_y hI hk ho hf m (by omega) (by omega)
      split <;> omega
/-- marks that are on do not leave S -/
def nX (σ : sg) (S : Nat → Prop) : Prop := ∀ k, k < sM σ → σ 5 k = 1 → (σ 2 k < 0 → ¬ S (nn (σ 3 k))) ∧ (¬ σ 2 k < 0 → (S (nn (σ 3 k)) ↔ S (nn (σ 2 k))))
theorem mk_e {σ : sg} (hI : sInv σ) {k : Nat} (hk : k < sM σ) : ((σ 3 k).toInt + 1).toNat = nn (σ 3 k) + 1 ∧ ((σ 2 k).toInt + 1).toNat = if σ 2 k < 0 then 0 else nn (σ 2 k) + 1 := by
  obtain ⟨⟨t, t1, t2, -⟩, -, h3⟩ := sTf hI hk
  have h4 := (sIP hI).2.2
  obtain ⟨-, -, ⟨f1, f2⟩, -⟩ := sIk hI hk
  refine ⟨by rw [t2, nn_nI (by omega), nI_toInt (by omega)]; omega, ?_⟩
  by_cases hf : σ 2 k < 0
  · rw [if_pos hf]
    have := Int32.lt_iff_toInt_lt.mp hf
    rw [show (0 : Int32).toInt = 0 from by decide] at this
    omega
  · rw [if_neg hf]
    obtain ⟨f, f1, f2⟩ := h3 hf
    rw [f2, nn_nI (by omega), nI_toInt (by omega)]; omega
theorem pass_x {σ : sg} (hI : sInv σ) {S : Nat → Prop} (hX : nX σ S) {t0 : Nat} (h0 : ∀ i, S i → ¬ t0.testBit (i + 1) = true) : ∀ m, m ≤ sM σ → ∀ i, S i → ¬ (sPass σ (sSet σ) m t0).testBit (i + 1) = true
  | 0, _ => h0
  | m + 1, hm => by
    have ih := pass_x hI hX h0 m (by omega)
    obtain ⟨e1, e2⟩ := mk_e hI (k := m) (by omega)
    rw [sPass]
    rw [e1, e2]
    generalize sPass σ (sSet σ) m t0 = t1 at ih
    by_cases hc : (sSet σ).testBit m = true ∧ t1 &&& (2 ^ (if σ 2 m < 0 then 0 else nn (σ 2 m) + 1) ||| 2 ^ (nn (σ 3 m) + 1)) ≠ 0
    · rw [if_pos hc]
      obtain ⟨hb, hz⟩ := hc
      have ho := (sOn_bit σ (sM σ) m (by omega)).mp hb
      obtain ⟨x1, x2⟩ := hX m (by omega) ho
      intro i hi q
      rw [Nat.testBit_or, Bool.or_eq_true] at q
      have q2 := q.resolve_left (ih i hi)
      apply hz
      apply Nat.eq_of_testBit_eq
      intro b
      rw [Nat.testBit_and, Nat.zero_testBit]
      by_cases hf : σ 2 m < 0
      · rw [if_pos hf] at q2
        rw [Nat.testBit_or, Nat.testBit_two_pow, Nat.testBit_two_pow, Bool.or_eq_true, decide_eq_true_eq, decide_eq_true_eq] at q2
        have : nn (σ 3 m) = i := by omega
        exact absurd (this ▸ hi) (x1 hf)
      · rw [if_neg hf] at q2 ⊢
        rw [Nat.testBit_or, Nat.testBit_two_pow, Nat.testBit_two_pow, Bool.or_eq_true, decide_eq_true_eq, decide_eq_true_eq] at q2
        have hS : S (nn (σ 3 m)) ∧ S (nn (σ 2 m)) := by
          rcases q2 with q2 | q2
          · have : nn (σ 2 m) = i := by omega
            exact ⟨(x2 hf).mpr (this ▸ hi), this ▸ hi⟩
          · have : nn (σ 3 m) = i := by omega
            exact ⟨this ▸ hi, (x2 hf).mp (this ▸ hi)⟩
        rw [Nat.testBit_or, Nat.testBit_two_pow, Nat.testBit_two_pow]
        by_cases b1 : nn (σ 2 m) + 1 = b
        · subst b1
          rw [Bool.not_eq_true _ |>.mp (ih _ hS.2), Bool.false_and]
        · by_cases b2 : nn (σ 3 m) + 1 = b
          · subst b2
            rw [Bool.not_eq_true _ |>.mp (ih _ hS.1), Bool.false_and]
          · rw [decide_eq_false b1, decide_eq_false b2, Bool.or_false, Bool.and_false]
    · rw [if_neg hc]; exact ih
theorem passes_x {σ : sg} (hI : sInv σ) {S : Nat → Prop} (hX : nX σ S) : ∀ n, ∀ i, S i → ¬ (sPasses σ (sSet σ) n).testBit (i + 1) = true
  | 0 => fun i _ => by rw [sPasses, Nat.testBit_succ]; simp
  | n + 1 => pass_x hI hX (passes_x hI hX n) (sM σ) (Nat.le_refl _)
theorem holds_nx {σ : sg} (hI : sInv σ) (hH : sHolds σ (sSet σ)) {S : Nat → Prop} (hS : ∃ i, i < sP σ ∧ S i) : ¬ nX σ S := by
  intro hX
  obtain ⟨i, hi, hs⟩ := hS
  have h := passes_x hI hX (sP σ) i hs
  have h2 : (sTied σ (sSet σ)).testBit i = true := by
    have : sTied σ (sSet σ) = 2 ^ sP σ - 1 := hH
    rw [this, Nat.testBit_two_pow_sub_one]
    exact decide_eq_true hi
  unfold sTied at h2
  rw [Nat.testBit_shiftRight, Nat.add_comm] at h2
  exact h h2
theorem lE_lap {σ : sg} (hI : sInv σ) (hH : sHolds σ (sSet σ)) : Lap 0 (sP σ) (lE σ (sM σ)) := by
  refine ⟨fun i j => lE_s σ i j (sM σ), fun i j _ _ h => lE_o hI h (sM σ) (Nat.le_refl _), fun i _ _ => lE_r hI i (sM σ) (Nat.le_refl _), fun S hS => ?_⟩
  obtain ⟨i0, -, i1, i2⟩ := hS
  have hx := holds_nx hI hH (S := S) ⟨i0, i1, i2⟩
  apply Classical.byContradiction
  intro hc
  apply hx
  intro k hk ho
  obtain ⟨q1, q2, -⟩ := nn_lt hI hk
  refine ⟨fun hf hs => hc ⟨nn (σ 3 k), Nat.zero_le _, q1, hs, Or.inl (lE_y hI hk ho hf (sM σ) (Nat.le_refl _) hk)⟩, fun hf => ?_⟩
  have hx := lE_x hI hk ho hf (sM σ) (Nat.le_refl _) hk
  refine ⟨fun hs => ?_, fun hs => ?_⟩
  · apply Classical.byContradiction
    intro hn
    exact hc ⟨nn (σ 3 k), Nat.zero_le _, q1, hs, Or.inr ⟨nn (σ 2 k), Nat.zero_le _, q2 hf, hn, hx⟩⟩
  · apply Classical.byContradiction
    intro hn
    rw [lE_s] at hx
    exact hc ⟨nn (σ 2 k), Nat.zero_le _, q2 hf, hs, Or.inr ⟨nn (σ 3 k), Nat.zero_le _, q1, hn, hx⟩⟩
theorem aM_pos {σ : sg} (hI : sInv σ) (hH : sHolds σ (sSet σ)) : ∀ k, k ≤ sP σ → 0 < bP (aM σ (sM σ)) k := fun k hk => by
  rw [bP_c (b := lE σ (sM σ)) (fun i j hi hj => lE_a hj (sM σ)) k]
  exact lap_pos (sIP hI).2.2 (lE_lap hI hH) k hk
theorem eM_b (σ : sg) (k i : Nat) : (eM σ k i).natAbs ≤ 1 := by
  unfold eM
  split <;> split <;> decide
theorem aM_b {σ : sg} (i : Nat) : ∀ m, (∀ j, j < 4 → (aM σ m i j).natAbs ≤ 4 * m) ∧ ∀ j, (aM σ m i j).natAbs ≤ 120 * m
  | 0 => ⟨fun _ _ => Nat.le_refl 0, fun _ => Nat.le_refl 0⟩
  | m + 1 => by
    obtain ⟨h1, h2⟩ := aM_b (σ := σ) i m
    have hW := sW_b σ m
    have hS := sS_b σ m
    have g : ∀ j F, (fM σ m j).natAbs ≤ F → (gM σ m i j).natAbs ≤ 4 * 1 * F := fun j F hF => by
      unfold gM
      split
      · exact nb_mul (nb_mul (by omega) (eM_b σ m i)) hF
      · exact Nat.zero_le _
    refine ⟨fun j hj => ?_, fun j => ?_⟩
    · have := g j 1 (by unfold fM; rw [if_neg (by omega)]; exact eM_b σ m j)
      have := h1 j hj
      rw [aM]; omega
    · have := g j 30 (by unfold fM; split; omega; exact Nat.le_trans (eM_b σ m j) (by decide))
      have := h2 j
      rw [aM]; omega
theorem aM_S {σ : sg} (hI : sInv σ) : bS (aM σ (sM σ)) := by
  have hM := (sIM hI).2
  refine ⟨fun i j hi hj => ?_, fun i j hi hj => ?_⟩
  · have := (aM_b (σ := σ) i (sM σ)).1 j hj; omega
  · have := (aM_b (σ := σ) i (sM σ)).2 j; omega
