/-! ===== pure: elimination without rests ===== -/
/-! ===== pure: elimination without rests ===== -/
def bd2 (a b c d : Int) : Int := a*d - b*c
def bd3 (a11 a12 a13 a21 a22 a23 a31 a32 a33 : Int) : Int := a11*(a22*a33 - a23*a32) - a12*(a21*a33 - a23*a31) + a13*(a21*a32 - a22*a31)
def bd4 (a11 a12 a13 a14 a21 a22 a23 a24 a31 a32 a33 a34 a41 a42 a43 a44 : Int) : Int :=
  a11*bd3 a22 a23 a24 a32 a33 a34 a42 a43 a44 - a12*bd3 a21 a23 a24 a31 a33 a34 a41 a43 a44 + a13*bd3 a21 a22 a24 a31 a32 a34 a41 a42 a44 - a14*bd3 a21 a22 a23 a31 a32 a33 a41 a42 a43
/-- three rows' and columns' determinant -/
def bM3 (a : Nat → Nat → Int) (i c0 c1 c2 : Nat) : Int := bd3 (a 0 c0) (a 0 c1) (a 0 c2) (a 1 c0) (a 1 c1) (a 1 c2) (a i c0) (a i c1) (a i c2)
def bM4 (a : Nat → Nat → Int) (c0 c1 c2 c3 : Nat) : Int := bd4 (a 0 c0) (a 0 c1) (a 0 c2) (a 0 c3) (a 1 c0) (a 1 c1) (a 1 c2) (a 1 c3) (a 2 c0) (a 2 c1) (a 2 c2) (a 2 c3) (a 3 c0) (a 3 c1) (a 3 c2) (a 3 c3)
/-- what stands at a place after k steps -/
def bE (a : Nat → Nat → Int) : Nat → Nat → Nat → Int
  | 0, i, j => a i j
  | 1, i, j => if i = 0 then a 0 j else a i j * a 0 0 - a i 0 * a 0 j
  | 2, i, j => if i = 0 then a 0 j * a 1 1 - a 0 1 * a 1 j else if i = 1 then a 1 j * a 0 0 - a 1 0 * a 0 j else bM3 a i 0 1 j
  | 3, i, j => if i = 0 then bM3 a 2 j 1 2 else if i = 1 then bM3 a 2 0 j 2 else if i = 2 then bM3 a 2 0 1 j else bM4 a 0 1 2 j
  | _, i, j => if i = 0 then bM4 a j 1 2 3 else if i = 1 then bM4 a 0 j 2 3 else if i = 2 then bM4 a 0 1 j 3 else bM4 a 0 1 2 j
def bP (a : Nat → Nat → Int) : Nat → Int
  | 0 => 1
  | 1 => a 0 0
  | 2 => a 1 1 * a 0 0 - a 1 0 * a 0 1
  | 3 => bM3 a 2 0 1 2
  | _ => bM4 a 0 1 2 3
theorem bE_pv (a : Nat → Nat → Int) (k : Nat) (hk : k < 4) : bE a k k k = bP a (k + 1) := by
  obtain rfl | rfl | rfl | rfl : k = 0 ∨ k = 1 ∨ k = 2 ∨ k = 3 := by omega
  · rfl
  · rfl
  · rfl
  · rfl
theorem bE_row (a : Nat → Nat → Int) (k j : Nat) (hk : k < 4) : bE a (k + 1) k j = bE a k k j := by
  obtain rfl | rfl | rfl | rfl : k = 0 ∨ k = 1 ∨ k = 2 ∨ k = 3 := by omega
  · rfl
  · rfl
  · rfl
  · rfl
set_option maxHeartbeats 4000000 in
theorem bE_st (a : Nat → Nat → Int) (k i j : Nat) (hk : k < 4) (hi : i < 4) (hne : i ≠ k) : bE a k i j * bE a k k k - bE a k i k * bE a k k j = bP a k * bE a (k + 1) i j := by
  obtain rfl | rfl | rfl | rfl : k = 0 ∨ k = 1 ∨ k = 2 ∨ k = 3 := by omega
  · obtain rfl | rfl | rfl : i = 1 ∨ i = 2 ∨ i = 3 := by omega
    · show a 1 j * a 0 0 - a 1 0 * a 0 j = 1 * (a 1 j * a 0 0 - a 1 0 * a 0 j); grind
    · show a 2 j * a 0 0 - a 2 0 * a 0 j = 1 * (a 2 j * a 0 0 - a 2 0 * a 0 j); grind
    · show a 3 j * a 0 0 - a 3 0 * a 0 j = 1 * (a 3 j * a 0 0 - a 3 0 * a 0 j); grind
  · obtain rfl | rfl | rfl : i = 0 ∨ i = 2 ∨ i = 3 := by omega
    · simp [bE, bP]; grind
    · simp [bE, bP, bM3, bd3]; grind
    · simp [bE, bP, bM3, bd3]; grind
  · obtain rfl | rfl | rfl : i = 0 ∨ i = 1 ∨ i = 3 := by omega
    · simp [bE, bP, bM3, bd3]; grind
    · simp [bE, bP, bM3, bd3]; grind
    · simp [bE, bP, bM3, bM4, bd4, bd3]; grind
  · obtain rfl | rfl | rfl : i = 0 ∨ i = 1 ∨ i = 2 := by omega
    · simp [bE, bP, bM3, bM4, bd4, bd3]; grind
    · simp [bE, bP, bM3, bM4, bd4, bd3]; grind
    · simp [bE, bP, bM3, bM4, bd4, bd3]; grind
/-! sizes -/
theorem nb_mul {x y : Int} {A B : Nat} (h : x.natAbs ≤ A) (h2 : y.natAbs ≤ B) : (x * y).natAbs ≤ A * B := by rw [Int.natAbs_mul]; exact Nat.mul_le_mul h h2
theorem nb_add {x y : Int} {A B : Nat} (h : x.natAbs ≤ A) (h2 : y.natAbs ≤ B) : (x + y).natAbs ≤ A + B := by omega
theorem nb_sub {x y : Int} {A B : Nat} (h : x.natAbs ≤ A) (h2 : y.natAbs ≤ B) : (x - y).natAbs ≤ A + B := by omega
theorem bd3_b {a11 a12 a13 a21 a22 a23 a31 a32 a33 : Int} {X Y Z : Nat} (h11 : a11.natAbs ≤ X) (h12 : a12.natAbs ≤ Y) (h13 : a13.natAbs ≤ Z) (h21 : a21.natAbs ≤ X) (h22 : a22.natAbs ≤ Y) (h23 : a23.natAbs ≤ Z) (h31 : a31.natAbs ≤ X) (h32 : a32.natAbs ≤ Y) (h33 : a33.natAbs ≤ Z) : (bd3 a11 a12 a13 a21 a22 a23 a31 a32 a33).natAbs ≤ X * (Y * Z + Z * Y) + Y * (X * Z + Z * X) + Z * (X * Y + Y * X) :=
  nb_add (nb_sub (nb_mul h11 (nb_sub (nb_mul h22 h33) (nb_mul h23 h32))) (nb_mul h12 (nb_sub (nb_mul h21 h33) (nb_mul h23 h31)))) (nb_mul h13 (nb_sub (nb_mul h21 h32) (nb_mul h22 h31)))
abbrev nb3 (X Y Z : Nat) : Nat := X * (Y * Z + Z * Y) + Y * (X * Z + Z * X) + Z * (X * Y + Y * X)
theorem bd4_b {a11 a12 a13 a14 a21 a22 a23 a24 a31 a32 a33 a34 a41 a42 a43 a44 : Int} {X Y Z W : Nat} (h11 : a11.natAbs ≤ X) (h12 : a12.natAbs ≤ Y) (h13 : a13.natAbs ≤ Z) (h14 : a14.natAbs ≤ W) (h21 : a21.natAbs ≤ X) (h22 : a22.natAbs ≤ Y) (h23 : a23.natAbs ≤ Z) (h24 : a24.natAbs ≤ W) (h31 : a31.natAbs ≤ X) (h32 : a32.natAbs ≤ Y) (h33 : a33.natAbs ≤ Z) (h34 : a34.natAbs ≤ W) (h41 : a41.natAbs ≤ X) (h42 : a42.natAbs ≤ Y) (h43 : a43.natAbs ≤ Z) (h44 : a44.natAbs ≤ W) : (bd4 a11 a12 a13 a14 a21 a22 a23 a24 a31 a32 a33 a34 a41 a42 a43 a44).natAbs ≤ X * nb3 Y Z W + Y * nb3 X Z W + Z * nb3 X Y W + W * nb3 X Y Z :=
  nb_sub (nb_add (nb_sub (nb_mul h11 (bd3_b h22 h23 h24 h32 h33 h34 h42 h43 h44)) (nb_mul h12 (bd3_b h21 h23 h24 h31 h33 h34 h41 h43 h44))) (nb_mul h13 (bd3_b h21 h22 h24 h31 h32 h34 h41 h42 h44))) (nb_mul h14 (bd3_b h21 h22 h23 h31 h32 h33 h41 h42 h43))
/-- the entries of a block's rows -/
def bS (a : Nat → Nat → Int) : Prop := (∀ i j, i < 4 → j < 4 → (a i j).natAbs ≤ 32) ∧ ∀ i j, i < 4 → j < 5 → (a i j).natAbs ≤ 960
theorem bM3_b {a : Nat → Nat → Int} {i c0 c1 c2 X Y Z : Nat} (hi : i < 4) (h0 : ∀ i, i < 4 → (a i c0).natAbs ≤ X) (h1 : ∀ i, i < 4 → (a i c1).natAbs ≤ Y) (h2 : ∀ i, i < 4 → (a i c2).natAbs ≤ Z) : (bM3 a i c0 c1 c2).natAbs ≤ nb3 X Y Z :=
  bd3_b (h0 0 (by omega)) (h1 0 (by omega)) (h2 0 (by omega)) (h0 1 (by omega)) (h1 1 (by omega)) (h2 1 (by omega)) (h0 i hi) (h1 i hi) (h2 i hi)
theorem bM4_b {a : Nat → Nat → Int} {c0 c1 c2 c3 X Y Z W : Nat} (h0 : ∀ i, i < 4 → (a i c0).natAbs ≤ X) (h1 : ∀ i, i < 4 → (a i c1).natAbs ≤ Y) (h2 : ∀ i, i < 4 → (a i c2).natAbs ≤ Z) (h3 : ∀ i, i < 4 → (a i c3).natAbs ≤ W) : (bM4 a c0 c1 c2 c3).natAbs ≤ X * nb3 Y Z W + Y * nb3 X Z W + Z * nb3 X Y W + W * nb3 X Y Z :=
  bd4_b (h0 0 (by omega)) (h1 0 (by omega)) (h2 0 (by omega)) (h3 0 (by omega)) (h0 1 (by omega)) (h1 1 (by omega)) (h2 1 (by omega)) (h3 1 (by omega)) (h0 2 (by omega)) (h1 2 (by omega)) (h2 2 (by omega)) (h3 2 (by omega)) (h0 3 (by omega)) (h1 3 (by omega)) (h2 3 (by omega)) (h3 3 (by omega))
theorem bE_b {a : Nat → Nat → Int} (h : bS a) (k i j : Nat) (hi : i < 4) (hj : j < 5) : (bE a k i j).natAbs ≤ 2 ^ 30 := by
  have c0 : ∀ i, i < 4 → (a i 0).natAbs ≤ 32 := fun i q => h.1 i 0 q (by omega)
  have c1 : ∀ i, i < 4 → (a i 1).natAbs ≤ 32 := fun i q => h.1 i 1 q (by omega)
  have c2 : ∀ i, i < 4 → (a i 2).natAbs ≤ 32 := fun i q => h.1 i 2 q (by omega)
  have c3 : ∀ i, i < 4 → (a i 3).natAbs ≤ 32 := fun i q => h.1 i 3 q (by omega)
  have cj : ∀ i, i < 4 → (a i j).natAbs ≤ 960 := fun i q => h.2 i j q hj
  match k with
  | 0 => exact Nat.le_trans (cj i hi) (by decide)
  | 1 =>
    show (if i = 0 then a 0 j else a i j * a 0 0 - a i 0 * a 0 j).natAbs ≤ _
    split
    · exact Nat.le_trans (cj 0 (by omega)) (by decide)
    · exact Nat.le_trans (nb_sub (nb_mul (cj i hi) (c0 0 (by omega))) (nb_mul (c0 i hi) (cj 0 (by omega)))) (by decide)
  | 2 =>
    show (if i = 0 then a 0 j * a 1 1 - a 0 1 * a 1 j else if i = 1 then a 1 j * a 0 0 - a 1 0 * a 0 j else bM3 a i 0 1 j).natAbs ≤ _
    split
    · exact Nat.le_trans (nb_sub (nb_mul (cj 0 (by omega)) (c1 1 (by omega))) (nb_mul (c1 0 (by omega)) (cj 1 (by omega)))) (by decide)
    · split
      · exact Nat.le_trans (nb_sub (nb_mul (cj 1 (by omega)) (c0 0 (by omega))) (nb_mul (c0 1 (by omega)) (cj 0 (by omega)))) (by decide)
      · exact Nat.le_trans (bM3_b hi c0 c1 cj) (by decide)
  | 3 =>
    show (if i = 0 then bM3 a 2 j 1 2 else if i = 1 then bM3 a 2 0 j 2 else if i = 2 then bM3 a 2 0 1 j else bM4 a 0 1 2 j).natAbs ≤ _
    split
    · exact Nat.le_trans (bM3_b (by omega) cj c1 c2) (by decide)
    · split
      · exact Nat.le_trans (bM3_b (by omega) c0 cj c2) (by decide)
      · split
        · exact Nat.le_trans (bM3_b (by omega) c0 c1 cj) (by decide)
        · exact Nat.le_trans (bM4_b c0 c1 c2 cj) (by decide)
  | m + 4 =>
    show (if i = 0 then bM4 a j 1 2 3 else if i = 1 then bM4 a 0 j 2 3 else if i = 2 then bM4 a 0 1 j 3 else bM4 a 0 1 2 j).natAbs ≤ _
    split
    · exact Nat.le_trans (bM4_b cj c1 c2 c3) (by decide)
    · split
      · exact Nat.le_trans (bM4_b c0 cj c2 c3) (by decide)
      · split
        · exact Nat.le_trans (bM4_b c0 c1 cj c3) (by decide)
        · exact Nat.le_trans (bM4_b c0 c1 c2 cj) (by decide)
theorem bP_b {a : Nat → Nat → Int} (h : bS a) : ∀ k, k ≤ 4 → (bP a k).natAbs ≤ 2 ^ 30
  | 0, _ => by show (1 : Int).natAbs ≤ _; decide
  | k + 1, hk => by rw [← bE_pv a k (by omega)]; exact bE_b h k k k (by omega) (by omega)
/-! whole numbers of 64 bits -/
def iL (x : Int) : Int64 := Int64.ofInt x
theorem iL_add (x y : Int) : iL x + iL y = iL (x + y) := (Int64.ofInt_add x y).symm
theorem iL_sub (x y : Int) : iL x - iL y = iL (x - y) := (Int64.ofInt_sub x y).symm
theorem iL_mul (x y : Int) : iL x * iL y = iL (x * y) := (Int64.ofInt_mul x y).symm
theorem iL_neg (x : Int) : -iL x = iL (-x) := (Int64.ofInt_neg x).symm
theorem iL_t {x : Int} (h : x.natAbs < 2 ^ 63) : (iL x).toInt = x := by
  unfold iL
  rw [Int64.toInt_ofInt]
  have e : Int64.size = 2 ^ 64 := by decide
  exact Int.bmod_eq_of_le (by rw [e]; omega) (by rw [e]; omega)
theorem iL_e {x y : Int} (hx : x.natAbs < 2 ^ 63) (hy : y.natAbs < 2 ^ 63) : iL x = iL y ↔ x = y := ⟨fun q => by have h := congrArg Int64.toInt q; rw [iL_t hx, iL_t hy] at h; exact h, fun q => by rw [q]⟩
theorem iL_0 : iL 0 = 0 := rfl
theorem iL_1 : iL 1 = 1 := rfl
theorem iL_quo {b q : Int} (hb : 0 < b) (hb2 : b.natAbs ≤ 2 ^ 30) (hq : q.natAbs ≤ 2 ^ 30) : sQuo (iL (b * q)) (iL b) = iL q := by
  have hp : (b * q).natAbs ≤ 2 ^ 30 * 2 ^ 30 := nb_mul hb2 hq
  have h60 : (2 : Nat) ^ 30 * 2 ^ 30 < 2 ^ 63 := by decide
  unfold sQuo
  rw [if_neg (fun e => by have := (iL_e (by omega) (by decide)).mp (e.trans iL_0.symm); omega)]
  apply Int64.toInt_inj.mp
  rw [Int64.toInt_div_of_ne_right _ _ (fun e => by have h := congrArg Int64.toInt e; rw [iL_t (by omega), show (-1 : Int64).toInt = -1 from by decide] at h; omega), iL_t (by omega), iL_t (by omega), iL_t (by omega)]
  exact Int.mul_tdiv_cancel_left q (by omega)
/-! the rows, cleared -/
theorem stI_v {M : Nat → Nat → Int64} {k : Nat} (hk : k < 4) {ah : Int64} : ∀ m i j, j < 5 → sStI M k ah m (50 + i) j = if i < m ∧ i ≠ k then sQuo (M (50 + i) j * M (50 + k) k - M (50 + i) k * M (50 + k) j) ah else M (50 + i) j
  | 0, i, j, _ => (if_neg (fun q => absurd q.1 (Nat.not_lt_zero i))).symm
  | m + 1, i, j, hj => by
    have IH := fun i j hj => stI_v (M := M) hk (ah := ah) m i j hj
    have rk : ∀ j, j < 5 → sStI M k ah m (50 + k) j = M (50 + k) j := fun j hj => (IH k j hj).trans (if_neg (fun q => q.2 rfl))
    rw [sStI]
    by_cases e : m = k
    · rw [if_pos e, IH i j hj]
      by_cases q : i < m ∧ i ≠ k
      · rw [if_pos q, if_pos ⟨by omega, q.2⟩]
      · rw [if_neg q, if_neg (fun r => q ⟨by omega, r.2⟩)]
    · rw [if_neg e]
      unfold sClr
      by_cases ei : i = m
      · subst ei
        have rm : ∀ j, j < 5 → sStI M k ah i (50 + i) j = M (50 + i) j := fun j hj => (IH i j hj).trans (if_neg (fun q => absurd q.1 (Nat.lt_irrefl i)))
        have c1 : i < i + 1 ∧ i ≠ k := ⟨Nat.lt_succ_self i, e⟩
        rw [if_pos rfl, if_pos hj, if_pos c1, rm j hj, rm k (by omega), rk k (by omega), rk j hj]
      · rw [if_neg (by omega), IH i j hj]
        by_cases q : i < m ∧ i ≠ k
        · rw [if_pos q, if_pos ⟨by omega, q.2⟩]
        · rw [if_neg q, if_neg (fun r => q ⟨by omega, r.2⟩)]
theorem so_run {M : Nat → Nat → Int64} {a : Nat → Nat → Int} {n : Nat} (hn : n ≤ 4) (hS : bS a) (h0 : ∀ i j, i < n → j < 5 → M (50 + i) j = iL (a i j)) (hp : ∀ k, k ≤ n → 0 < bP a k) : ∀ k, k ≤ n → (∀ i j, i < n → j < 5 → (sSo M n k).1 (50 + i) j = iL (bE a k i j)) ∧ (sSo M n k).2 = iL (bP a k)
  | 0, _ => ⟨h0, rfl⟩
  | k + 1, hk => by
    obtain ⟨h1, h2⟩ := so_run hn hS h0 hp k (by omega)
    have hv : bE a k k k = bP a (k + 1) := bE_pv a k (by omega)
    refine ⟨fun i j hi hj => ?_, ?_⟩
    · show sStI (sSo M n k).1 k (sSo M n k).2 n (50 + i) j = _
      rw [stI_v (by omega) n i j hj]
      by_cases e : i = k
      · rw [if_neg (fun q => q.2 e), h1 i j hi hj, e, bE_row a k j (by omega)]
      · rw [if_pos ⟨hi, e⟩, h1 i j hi hj, h1 k k (by omega) (by omega), h1 i k hi (by omega), h1 k j (by omega) hj, h2, iL_mul, iL_mul, iL_sub, bE_st a k i j (by omega) (by omega) e]
        exact iL_quo (hp k (by omega)) (bP_b hS k (by omega)) (bE_b hS (k + 1) i j (by omega) hj)
    · show (sSo M n k).1 (50 + k) k = _
      rw [h1 k k (by omega) (by omega), hv]
theorem so_sol {M : Nat → Nat → Int64} {a : Nat → Nat → Int} {n : Nat} (hn : n ≤ 4) (hS : bS a) (h0 : ∀ i j, i < n → j < 5 → M (50 + i) j = iL (a i j)) (hp : ∀ k, k ≤ n → 0 < bP a k) : sSol M n 48 4 = iL (bP a n) ∧ ∀ j, j < n → sSol M n 54 j = iL (bE a n j 4) := by
  obtain ⟨h1, h2⟩ := so_run hn hS h0 hp n (Nat.le_refl n)
  refine ⟨?_, fun j hj => ?_⟩
  · show sAbN _ n 48 4 = _
    unfold sAbN
    rw [if_neg (by decide), lset_eq, if_pos ⟨rfl, rfl⟩, h2]
  · show sAbN _ n 54 j = _
    unfold sAbN
    rw [if_pos rfl, if_pos hj, lset_eq, if_neg (by omega), h1 j 4 hj (by omega)]

