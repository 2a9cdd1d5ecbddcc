/-! ===== both sides stand alike at first ===== -/
/-! both sides stand alike at first -/
theorem lw_world (T : kzT) (h0 : Nat) (u : Nat → Nat) (h1 : Nat) (u2 SA : Nat → Nat) (b : Nat) (hs : T.2.2.2 = fun j => SA (1002 + j)) : (([] : va_W) ++ kzX T h0 u) ++ kzMo T h1 u2 = jW (lwGG T (lwAd h0 u h1 u2 SA b)) lwW := by
  have hlen : ((([] : va_W) ++ kzX T h0 u) ++ kzMo T h1 u2).length = 84 := rfl
  apply List.ext_getElem?
  intro i
  by_cases h : i < 84
  · rw [jW_get _ _ h]
    exact match i, h with
    | 0, _ => lw_e0 T h0 u h1 u2 SA b hs
    | 1, _ => lw_e1 T h0 u h1 u2 SA b hs
    | 2, _ => lw_e2 T h0 u h1 u2 SA b hs
    | 3, _ => lw_e3 T h0 u h1 u2 SA b hs
    | 4, _ => lw_e4 T h0 u h1 u2 SA b hs
    | 5, _ => lw_e5 T h0 u h1 u2 SA b hs
    | 6, _ => lw_e6 T h0 u h1 u2 SA b hs
    | 7, _ => lw_e7 T h0 u h1 u2 SA b hs
    | 8, _ => lw_e8 T h0 u h1 u2 SA b hs
    | 9, _ => lw_e9 T h0 u h1 u2 SA b hs
    | 10, _ => lw_e10 T h0 u h1 u2 SA b hs
    | 11, _ => lw_e11 T h0 u h1 u2 SA b hs
    | 12, _ => lw_e12 T h0 u h1 u2 SA b hs
    | 13, _ => lw_e13 T h0 u h1 u2 SA b hs
    | 14, _ => lw_e14 T h0 u h1 u2 SA b hs
    | 15, _ => lw_e15 T h0 u h1 u2 SA b hs
    | 16, _ => lw_e16 T h0 u h1 u2 SA b hs
    | 17, _ => lw_e17 T h0 u h1 u2 SA b hs
    | 18, _ => lw_e18 T h0 u h1 u2 SA b hs
    | 19, _ => lw_e19 T h0 u h1 u2 SA b hs
    | 20, _ => lw_e20 T h0 u h1 u2 SA b hs
    | 21, _ => lw_e21 T h0 u h1 u2 SA b hs
    | 22, _ => lw_e22 T h0 u h1 u2 SA b hs
    | 23, _ => lw_e23 T h0 u h1 u2 SA b hs
    | 24, _ => lw_e24 T h0 u h1 u2 SA b hs
    | 25, _ => lw_e25 T h0 u h1 u2 SA b hs
    | 26, _ => lw_e26 T h0 u h1 u2 SA b hs
    | 27, _ => lw_e27 T h0 u h1 u2 SA b hs
    | 28, _ => lw_e28 T h0 u h1 u2 SA b hs
    | 29, _ => lw_e29 T h0 u h1 u2 SA b hs
    | 30, _ => lw_e30 T h0 u h1 u2 SA b hs
    | 31, _ => lw_e31 T h0 u h1 u2 SA b hs
    | 32, _ => lw_e32 T h0 u h1 u2 SA b hs
    | 33, _ => lw_e33 T h0 u h1 u2 SA b hs
    | 34, _ => lw_e34 T h0 u h1 u2 SA b hs
    | 35, _ => lw_e35 T h0 u h1 u2 SA b hs
    | 36, _ => lw_e36 T h0 u h1 u2 SA b hs
    | 37, _ => lw_e37 T h0 u h1 u2 SA b hs
    | 38, _ => lw_e38 T h0 u h1 u2 SA b hs
    | 39, _ => lw_e39 T h0 u h1 u2 SA b hs
    | 40, _ => lw_e40 T h0 u h1 u2 SA b hs
    | 41, _ => lw_e41 T h0 u h1 u2 SA b hs
    | 42, _ => lw_e42 T h0 u h1 u2 SA b hs
    | 43, _ => lw_e43 T h0 u h1 u2 SA b hs
    | 44, _ => lw_e44 T h0 u h1 u2 SA b hs
    | 45, _ => lw_e45 T h0 u h1 u2 SA b hs
    | 46, _ => lw_e46 T h0 u h1 u2 SA b hs
    | 47, _ => lw_e47 T h0 u h1 u2 SA b hs
    | 48, _ => lw_e48 T h0 u h1 u2 SA b hs
    | 49, _ => lw_e49 T h0 u h1 u2 SA b hs
    | 50, _ => lw_e50 T h0 u h1 u2 SA b hs
    | 51, _ => lw_e51 T h0 u h1 u2 SA b hs
    | 52, _ => lw_e52 T h0 u h1 u2 SA b hs
    | 53, _ => lw_e53 T h0 u h1 u2 SA b hs
    | 54, _ => lw_e54 T h0 u h1 u2 SA b hs
    | 55, _ => lw_e55 T h0 u h1 u2 SA b hs
    | 56, _ => lw_e56 T h0 u h1 u2 SA b hs
    | 57, _ => lw_e57 T h0 u h1 u2 SA b hs
    | 58, _ => lw_e58 T h0 u h1 u2 SA b hs
    | 59, _ => lw_e59 T h0 u h1 u2 SA b hs
    | 60, _ => lw_e60 T h0 u h1 u2 SA b hs
    | 61, _ => lw_e61 T h0 u h1 u2 SA b hs
    | 62, _ => lw_e62 T h0 u h1 u2 SA b hs
    | 63, _ => lw_e63 T h0 u h1 u2 SA b hs
    | 64, _ => lw_e64 T h0 u h1 u2 SA b hs
    | 65, _ => lw_e65 T h0 u h1 u2 SA b hs
    | 66, _ => lw_e66 T h0 u h1 u2 SA b hs
    | 67, _ => lw_e67 T h0 u h1 u2 SA b hs
    | 68, _ => lw_e68 T h0 u h1 u2 SA b hs
    | 69, _ => lw_e69 T h0 u h1 u2 SA b hs
    | 70, _ => lw_e70 T h0 u h1 u2 SA b hs
    | 71, _ => lw_e71 T h0 u h1 u2 SA b hs
    | 72, _ => lw_e72 T h0 u h1 u2 SA b hs
    | 73, _ => lw_e73 T h0 u h1 u2 SA b hs
    | 74, _ => lw_e74 T h0 u h1 u2 SA b hs
    | 75, _ => lw_e75 T h0 u h1 u2 SA b hs
    | 76, _ => lw_e76 T h0 u h1 u2 SA b hs
    | 77, _ => lw_e77 T h0 u h1 u2 SA b hs
    | 78, _ => lw_e78 T h0 u h1 u2 SA b hs
    | 79, _ => lw_e79 T h0 u h1 u2 SA b hs
    | 80, _ => lw_e80 T h0 u h1 u2 SA b hs
    | 81, _ => lw_e81 T h0 u h1 u2 SA b hs
    | 82, _ => lw_e82 T h0 u h1 u2 SA b hs
    | 83, _ => lw_e83 T h0 u h1 u2 SA b hs
    | i + 84, h => absurd h (by omega)
  · rw [List.getElem?_eq_none (by rw [hlen]; omega), List.getElem?_eq_none (by simp [jW]; omega)]
theorem lw_r0 {i : Nat} (h : 5 ≤ i ∨ i = 0 ∨ i = 2) : lwW.1 69 i = 0 := by
  show (if i = 4 then (20 : Int32) else if i = 3 then 2 else if i = 1 then 1 else 0) = 0
  rw [if_neg (by omega), if_neg (by omega), if_neg (by omega)]
theorem lw_a0 {c : Nat} (h : c = 2 ∨ c = 3 ∨ c = 4 ∨ c = 5 ∨ c = 6 ∨ c = 7 ∨ c = 8) (k : Nat) : lwW.1 c k = 0 := by
  rcases h with rfl | rfl | rfl | rfl | rfl | rfl | rfl <;> rfl
theorem lw_on0 : ∀ k, k < 8 → ((0 : Int32) >>> (nI k &&& 31)) &&& 1 = 0 := by decide +kernel
theorem lw_same : abX lwW 1 = abM (lwW.1 69) := by
  funext f k
  match f with
  | 0 =>
    show (if k < 8 then lwW.1 2 k else 0) = (if k < 8 then lwW.1 69 (8 + 6 * k) else 0)
    rw [lw_r0 (by omega), lw_a0 (by omega)]
  | 1 =>
    show (if k < 8 then lwW.1 3 k else 0) = (if k < 8 then lwW.1 69 (8 + 6 * k + 1) else 0)
    rw [lw_r0 (by omega), lw_a0 (by omega)]
  | 2 =>
    show (if k < 8 then lwW.1 4 k else 0) = (if k < 8 then lwW.1 69 (8 + 6 * k + 2) else 0)
    rw [lw_r0 (by omega), lw_a0 (by omega)]
  | 3 =>
    show (if k < 8 then lwW.1 5 k else 0) = (if k < 8 then lwW.1 69 (8 + 6 * k + 3) else 0)
    rw [lw_r0 (by omega), lw_a0 (by omega)]
  | 4 =>
    show (if k < 8 then lwW.1 6 k else 0) = (if k < 8 then lwW.1 69 (8 + 6 * k + 4) else 0)
    rw [lw_r0 (by omega), lw_a0 (by omega)]
  | 5 =>
    show (if k < 8 then ((0 : Int32) >>> (nI k &&& 31)) &&& 1 else 0) = (if k < 8 then lwW.1 69 (8 + 6 * k + 5) else 0)
    rw [lw_r0 (by omega)]
    by_cases h : k < 8
    · rw [if_pos h, if_pos h, lw_on0 k h]
    · rw [if_neg h, if_neg h]
  | 6 =>
    match k with
    | 0 => rfl
    | 1 => rfl
    | 2 => rfl
    | 3 => rfl
    | 4 => rfl
    | 5 => rfl
    | 6 => rfl
    | 7 => rfl
    | n + 8 => rfl
  | 7 =>
    show (if k < 60 then lwW.1 7 k else 0) = (if k < 60 then lwW.1 69 (56 + k) else 0)
    rw [lw_r0 (by omega), lw_a0 (by omega)]
  | 8 =>
    show (if k < 24 then lwW.1 8 k else 0) = (if k < 24 then lwW.1 69 (116 + k) else 0)
    rw [lw_r0 (by omega), lw_a0 (by omega)]
  | 9 => rfl
  | 10 => rfl
  | 11 =>
    match k with
    | 0 => rfl
    | 1 => rfl
    | n + 2 => rfl
  | n + 12 => rfl
theorem lw_rest : restX lwW = restM lwW := by
  funext f k
  match f with
  | 0 => rfl
  | 1 => rfl
  | 2 => rfl
  | 3 => rfl
  | 4 => rfl
  | 5 => rfl
  | 6 => rfl
  | 7 => rfl
  | 8 => rfl
  | 9 => rfl
  | n + 10 => rfl
theorem lw_XI : XInv lwW := ⟨⟨⟨0, by decide, rfl⟩, rfl, rfl, rfl, rfl⟩, ⟨⟨0, by decide, rfl⟩, rfl, rfl, rfl, rfl⟩, ⟨⟨0, by decide, rfl⟩, rfl, rfl, rfl, rfl⟩⟩
theorem lw_MI : MInv lwW := by
  refine ⟨fun u hu j hj => ?_, fun u hu j hj => ?_⟩
  · have e : lwW.1 69 (140 + 121 * u) = 0 := lw_r0 (by omega)
    rw [e] at hj
    exact absurd hj (Nat.not_lt_zero j)
  · have e : lwW.1 70 (140 + 121 * u) = 0 := rfl
    rw [e] at hj
    exact absurd hj (Nat.not_lt_zero j)
theorem lw_sI : sInv (abX lwW 1) := by
  have hon : ∀ k, abX lwW 1 5 k = 0 := fun k => by
    show (if k < 8 then ((0 : Int32) >>> (nI k &&& 31)) &&& 1 else 0) = 0
    by_cases h : k < 8
    · rw [if_pos h, lw_on0 k h]
    · rw [if_neg h]
  have eM : sM (abX lwW 1) = 0 := by decide +kernel
  have eP : sP (abX lwW 1) = 2 := by decide +kernel
  have eR : sR (abX lwW 1) = 0 := by decide +kernel
  refine ⟨⟨by rw [eM]; decide +kernel, by omega⟩, ⟨by rw [eP]; decide +kernel, by omega, by omega⟩, ⟨by rw [eR]; decide +kernel, by omega⟩, by decide +kernel, by decide +kernel, ⟨0, by decide +kernel, by omega⟩, ⟨0, by decide +kernel, by omega⟩, fun k hk => by rw [eM] at hk; exact absurd hk (Nat.not_lt_zero k), fun k _ => hon k, fun u hu => ?_, fun k hk => ?_⟩
  · have eC : sC (abX lwW 1) u = 0 := by
      obtain rfl | rfl : u = 0 ∨ u = 1 := by omega
      · decide +kernel
      · decide +kernel
    rw [eC]
    refine ⟨?_, by omega, fun i hi => absurd hi (Nat.not_lt_zero i), fun h => absurd h (Nat.lt_irrefl 0)⟩
    obtain rfl | rfl : u = 0 ∨ u = 1 := by omega
    · decide +kernel
    · decide +kernel
  · have e : abX lwW 1 7 k = 0 := by
      show (if k < 60 then lwW.1 7 k else 0) = 0
      rw [if_pos hk, lw_a0 (by omega)]
    rw [e]
    decide
theorem lw_R0 : lwR lwW := by
  refine ⟨lw_same, lw_rest, lw_XI, lw_MI, lw_sI, ?_, ⟨⟨0, rfl, by omega⟩, fun s hs => ?_⟩, Or.inl rfl⟩
  · have eR : sR (abX lwW 1) = 0 := by decide +kernel
    omega
  · obtain rfl | rfl | rfl | rfl : s = 0 ∨ s = 1 ∨ s = 2 ∨ s = 3 := by omega
    all_goals exact ⟨⟨0, rfl, by omega⟩, Or.inl rfl⟩
