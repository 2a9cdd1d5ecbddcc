/-! ===== the world behind both constructors ===== -/
/-! the world behind both constructors -/
def lwW : jWd := (fun c k => if c = 69 then (if k = 4 then 20 else if k = 3 then 2 else if k = 1 then 1 else 0) else if c = 46 then (if k = 5 then 2 else 0) else if c = 1 ∨ c = 16 ∨ c = 31 then (if k = 10 then 2 else if k = 12 then 20 else if k = 14 then 1 else 0) else if c = 10 ∨ c = 25 ∨ c = 40 then (if k = 1 then 1 else if k = 2 then 4 else 0) else if c = 13 ∨ c = 28 ∨ c = 43 then (if k = 1 then -30 else if k = 2 then 30 else 0) else 0, fun c k => if c = 48 ∧ k = 4 then 1 else 0)
/-- where each cell lies; the script, what is static -/
def lwAd (h0 : Nat) (u : Nat → Nat) (h1 : Nat) (u2 : Nat → Nat) (SA : Nat → Nat) (b : Nat) : Nat → Nat := fun i => if i < 68 then (if i = 0 then h0 else u i) else if i < 84 then (if i = 68 then h1 else u2 (i - 68)) else if i = 1020 then b else SA i
abbrev lwGG (T : kzT) (ad : Nat → Nat) : jG := (T.1, T.2.1.1, T.2.1.2, ad, T.2.2.1)
theorem jCnt_2 {G : jG} {w : jWd} {a n : Nat} {rs : List (Nat × Nat)} (hL : jly a = (2, n, rs)) : jCnt G w a = .inl (jcA G 2, n, .inr (.inr (.inr (.inr (fun j => (rs.map (fun q => jad G q.2))[j]?))))) := by
  unfold jCnt
  rw [hL]
  simp only [List.getElem?_map]
  rfl
theorem jCnt_3 {G : jG} {w : jWd} {a n : Nat} {rs : List (Nat × Nat)} (hL : jly a = (3, n, rs)) : jCnt G w a = .inl (jcA G 3, n, .inr (.inr (.inr (.inr (fun j => (rs.map (fun q => jad G q.2))[j]?))))) := by
  unfold jCnt
  rw [hL]
  simp only [List.getElem?_map]
  rfl
theorem jCnt_4 {G : jG} {w : jWd} {a n : Nat} {rs : List (Nat × Nat)} (hL : jly a = (4, n, rs)) : jCnt G w a = .inl (jcA G 4, n, .inr (.inr (.inr (.inr (fun j => (rs.map (fun q => jad G q.2))[j]?))))) := by
  unfold jCnt
  rw [hL]
  simp only [List.getElem?_map]
  rfl
theorem lw_e0 (T : kzT) (h0 : Nat) (u : Nat → Nat) (h1 : Nat) (u2 SA : Nat → Nat) (b : Nat) (hs : T.2.2.2 = fun j => SA (1002 + j)) : ((([] : va_W) ++ kzX T h0 u) ++ kzMo T h1 u2)[0]? = some (jad (lwGG T (lwAd h0 u h1 u2 SA b)) 0, jCnt (lwGG T (lwAd h0 u h1 u2 SA b)) lwW 0) := by
  rw [jCnt_o ly_0]
  obtain ⟨l, D, cA, str⟩ := T
  subst hs
  rfl
theorem lw_e1 (T : kzT) (h0 : Nat) (u : Nat → Nat) (h1 : Nat) (u2 SA : Nat → Nat) (b : Nat) (hs : T.2.2.2 = fun j => SA (1002 + j)) : ((([] : va_W) ++ kzX T h0 u) ++ kzMo T h1 u2)[1]? = some (jad (lwGG T (lwAd h0 u h1 u2 SA b)) 1, jCnt (lwGG T (lwAd h0 u h1 u2 SA b)) lwW 1) := by
  rw [jCnt_o ly_1]
  obtain ⟨l, D, cA, str⟩ := T
  subst hs
  rfl
theorem lw_e2 (T : kzT) (h0 : Nat) (u : Nat → Nat) (h1 : Nat) (u2 SA : Nat → Nat) (b : Nat) (hs : T.2.2.2 = fun j => SA (1002 + j)) : ((([] : va_W) ++ kzX T h0 u) ++ kzMo T h1 u2)[2]? = some (jad (lwGG T (lwAd h0 u h1 u2 SA b)) 2, jCnt (lwGG T (lwAd h0 u h1 u2 SA b)) lwW 2) := by
  rw [jCnt_i ly_2]
  obtain ⟨l, D, cA, str⟩ := T
  subst hs
  rfl
theorem lw_e3 (T : kzT) (h0 : Nat) (u : Nat → Nat) (h1 : Nat) (u2 SA : Nat → Nat) (b : Nat) (hs : T.2.2.2 = fun j => SA (1002 + j)) : ((([] : va_W) ++ kzX T h0 u) ++ kzMo T h1 u2)[3]? = some (jad (lwGG T (lwAd h0 u h1 u2 SA b)) 3, jCnt (lwGG T (lwAd h0 u h1 u2 SA b)) lwW 3) := by
  rw [jCnt_i ly_3]
  obtain ⟨l, D, cA, str⟩ := T
  subst hs
  rfl
theorem lw_e4 (T : kzT) (h0 : Nat) (u : Nat → Nat) (h1 : Nat) (u2 SA : Nat → Nat) (b : Nat) (hs : T.2.2.2 = fun j => SA (1002 + j)) : ((([] : va_W) ++ kzX T h0 u) ++ kzMo T h1 u2)[4]? = some (jad (lwGG T (lwAd h0 u h1 u2 SA b)) 4, jCnt (lwGG T (lwAd h0 u h1 u2 SA b)) lwW 4) := by
  rw [jCnt_i ly_4]
  obtain ⟨l, D, cA, str⟩ := T
  subst hs
  rfl
theorem lw_e5 (T : kzT) (h0 : Nat) (u : Nat → Nat) (h1 : Nat) (u2 SA : Nat → Nat) (b : Nat) (hs : T.2.2.2 = fun j => SA (1002 + j)) : ((([] : va_W) ++ kzX T h0 u) ++ kzMo T h1 u2)[5]? = some (jad (lwGG T (lwAd h0 u h1 u2 SA b)) 5, jCnt (lwGG T (lwAd h0 u h1 u2 SA b)) lwW 5) := by
  rw [jCnt_i ly_5]
  obtain ⟨l, D, cA, str⟩ := T
  subst hs
  rfl
theorem lw_e6 (T : kzT) (h0 : Nat) (u : Nat → Nat) (h1 : Nat) (u2 SA : Nat → Nat) (b : Nat) (hs : T.2.2.2 = fun j => SA (1002 + j)) : ((([] : va_W) ++ kzX T h0 u) ++ kzMo T h1 u2)[6]? = some (jad (lwGG T (lwAd h0 u h1 u2 SA b)) 6, jCnt (lwGG T (lwAd h0 u h1 u2 SA b)) lwW 6) := by
  rw [jCnt_i ly_6]
  obtain ⟨l, D, cA, str⟩ := T
  subst hs
  rfl
theorem lw_e7 (T : kzT) (h0 : Nat) (u : Nat → Nat) (h1 : Nat) (u2 SA : Nat → Nat) (b : Nat) (hs : T.2.2.2 = fun j => SA (1002 + j)) : ((([] : va_W) ++ kzX T h0 u) ++ kzMo T h1 u2)[7]? = some (jad (lwGG T (lwAd h0 u h1 u2 SA b)) 7, jCnt (lwGG T (lwAd h0 u h1 u2 SA b)) lwW 7) := by
  rw [jCnt_i ly_7]
  obtain ⟨l, D, cA, str⟩ := T
  subst hs
  rfl
theorem lw_e8 (T : kzT) (h0 : Nat) (u : Nat → Nat) (h1 : Nat) (u2 SA : Nat → Nat) (b : Nat) (hs : T.2.2.2 = fun j => SA (1002 + j)) : ((([] : va_W) ++ kzX T h0 u) ++ kzMo T h1 u2)[8]? = some (jad (lwGG T (lwAd h0 u h1 u2 SA b)) 8, jCnt (lwGG T (lwAd h0 u h1 u2 SA b)) lwW 8) := by
  rw [jCnt_i ly_8]
  obtain ⟨l, D, cA, str⟩ := T
  subst hs
  rfl
theorem lw_e9 (T : kzT) (h0 : Nat) (u : Nat → Nat) (h1 : Nat) (u2 SA : Nat → Nat) (b : Nat) (hs : T.2.2.2 = fun j => SA (1002 + j)) : ((([] : va_W) ++ kzX T h0 u) ++ kzMo T h1 u2)[9]? = some (jad (lwGG T (lwAd h0 u h1 u2 SA b)) 9, jCnt (lwGG T (lwAd h0 u h1 u2 SA b)) lwW 9) := by
  rw [jCnt_4 ly_9]
  obtain ⟨l, D, cA, str⟩ := T
  subst hs
  rfl
theorem lw_e10 (T : kzT) (h0 : Nat) (u : Nat → Nat) (h1 : Nat) (u2 SA : Nat → Nat) (b : Nat) (hs : T.2.2.2 = fun j => SA (1002 + j)) : ((([] : va_W) ++ kzX T h0 u) ++ kzMo T h1 u2)[10]? = some (jad (lwGG T (lwAd h0 u h1 u2 SA b)) 10, jCnt (lwGG T (lwAd h0 u h1 u2 SA b)) lwW 10) := by
  rw [jCnt_o ly_10]
  obtain ⟨l, D, cA, str⟩ := T
  subst hs
  rfl
theorem lw_e11 (T : kzT) (h0 : Nat) (u : Nat → Nat) (h1 : Nat) (u2 SA : Nat → Nat) (b : Nat) (hs : T.2.2.2 = fun j => SA (1002 + j)) : ((([] : va_W) ++ kzX T h0 u) ++ kzMo T h1 u2)[11]? = some (jad (lwGG T (lwAd h0 u h1 u2 SA b)) 11, jCnt (lwGG T (lwAd h0 u h1 u2 SA b)) lwW 11) := by
  rw [jCnt_i ly_11]
  obtain ⟨l, D, cA, str⟩ := T
  subst hs
  rfl
theorem lw_e12 (T : kzT) (h0 : Nat) (u : Nat → Nat) (h1 : Nat) (u2 SA : Nat → Nat) (b : Nat) (hs : T.2.2.2 = fun j => SA (1002 + j)) : ((([] : va_W) ++ kzX T h0 u) ++ kzMo T h1 u2)[12]? = some (jad (lwGG T (lwAd h0 u h1 u2 SA b)) 12, jCnt (lwGG T (lwAd h0 u h1 u2 SA b)) lwW 12) := by
  rw [jCnt_5 ly_12]
  obtain ⟨l, D, cA, str⟩ := T
  subst hs
  rfl
theorem lw_e13 (T : kzT) (h0 : Nat) (u : Nat → Nat) (h1 : Nat) (u2 SA : Nat → Nat) (b : Nat) (hs : T.2.2.2 = fun j => SA (1002 + j)) : ((([] : va_W) ++ kzX T h0 u) ++ kzMo T h1 u2)[13]? = some (jad (lwGG T (lwAd h0 u h1 u2 SA b)) 13, jCnt (lwGG T (lwAd h0 u h1 u2 SA b)) lwW 13) := by
  rw [jCnt_o ly_13]
  obtain ⟨l, D, cA, str⟩ := T
  subst hs
  rfl
theorem lw_e14 (T : kzT) (h0 : Nat) (u : Nat → Nat) (h1 : Nat) (u2 SA : Nat → Nat) (b : Nat) (hs : T.2.2.2 = fun j => SA (1002 + j)) : ((([] : va_W) ++ kzX T h0 u) ++ kzMo T h1 u2)[14]? = some (jad (lwGG T (lwAd h0 u h1 u2 SA b)) 14, jCnt (lwGG T (lwAd h0 u h1 u2 SA b)) lwW 14) := by
  rw [jCnt_i ly_14]
  obtain ⟨l, D, cA, str⟩ := T
  subst hs
  rfl
theorem lw_e15 (T : kzT) (h0 : Nat) (u : Nat → Nat) (h1 : Nat) (u2 SA : Nat → Nat) (b : Nat) (hs : T.2.2.2 = fun j => SA (1002 + j)) : ((([] : va_W) ++ kzX T h0 u) ++ kzMo T h1 u2)[15]? = some (jad (lwGG T (lwAd h0 u h1 u2 SA b)) 15, jCnt (lwGG T (lwAd h0 u h1 u2 SA b)) lwW 15) := by
  rw [jCnt_5 ly_15]
  obtain ⟨l, D, cA, str⟩ := T
  subst hs
  rfl
theorem lw_e16 (T : kzT) (h0 : Nat) (u : Nat → Nat) (h1 : Nat) (u2 SA : Nat → Nat) (b : Nat) (hs : T.2.2.2 = fun j => SA (1002 + j)) : ((([] : va_W) ++ kzX T h0 u) ++ kzMo T h1 u2)[16]? = some (jad (lwGG T (lwAd h0 u h1 u2 SA b)) 16, jCnt (lwGG T (lwAd h0 u h1 u2 SA b)) lwW 16) := by
  rw [jCnt_o ly_16]
  obtain ⟨l, D, cA, str⟩ := T
  subst hs
  rfl
theorem lw_e17 (T : kzT) (h0 : Nat) (u : Nat → Nat) (h1 : Nat) (u2 SA : Nat → Nat) (b : Nat) (hs : T.2.2.2 = fun j => SA (1002 + j)) : ((([] : va_W) ++ kzX T h0 u) ++ kzMo T h1 u2)[17]? = some (jad (lwGG T (lwAd h0 u h1 u2 SA b)) 17, jCnt (lwGG T (lwAd h0 u h1 u2 SA b)) lwW 17) := by
  rw [jCnt_i ly_17]
  obtain ⟨l, D, cA, str⟩ := T
  subst hs
  rfl
theorem lw_e18 (T : kzT) (h0 : Nat) (u : Nat → Nat) (h1 : Nat) (u2 SA : Nat → Nat) (b : Nat) (hs : T.2.2.2 = fun j => SA (1002 + j)) : ((([] : va_W) ++ kzX T h0 u) ++ kzMo T h1 u2)[18]? = some (jad (lwGG T (lwAd h0 u h1 u2 SA b)) 18, jCnt (lwGG T (lwAd h0 u h1 u2 SA b)) lwW 18) := by
  rw [jCnt_i ly_18]
  obtain ⟨l, D, cA, str⟩ := T
  subst hs
  rfl
theorem lw_e19 (T : kzT) (h0 : Nat) (u : Nat → Nat) (h1 : Nat) (u2 SA : Nat → Nat) (b : Nat) (hs : T.2.2.2 = fun j => SA (1002 + j)) : ((([] : va_W) ++ kzX T h0 u) ++ kzMo T h1 u2)[19]? = some (jad (lwGG T (lwAd h0 u h1 u2 SA b)) 19, jCnt (lwGG T (lwAd h0 u h1 u2 SA b)) lwW 19) := by
  rw [jCnt_i ly_19]
  obtain ⟨l, D, cA, str⟩ := T
  subst hs
  rfl
theorem lw_e20 (T : kzT) (h0 : Nat) (u : Nat → Nat) (h1 : Nat) (u2 SA : Nat → Nat) (b : Nat) (hs : T.2.2.2 = fun j => SA (1002 + j)) : ((([] : va_W) ++ kzX T h0 u) ++ kzMo T h1 u2)[20]? = some (jad (lwGG T (lwAd h0 u h1 u2 SA b)) 20, jCnt (lwGG T (lwAd h0 u h1 u2 SA b)) lwW 20) := by
  rw [jCnt_i ly_20]
  obtain ⟨l, D, cA, str⟩ := T
  subst hs
  rfl
theorem lw_e21 (T : kzT) (h0 : Nat) (u : Nat → Nat) (h1 : Nat) (u2 SA : Nat → Nat) (b : Nat) (hs : T.2.2.2 = fun j => SA (1002 + j)) : ((([] : va_W) ++ kzX T h0 u) ++ kzMo T h1 u2)[21]? = some (jad (lwGG T (lwAd h0 u h1 u2 SA b)) 21, jCnt (lwGG T (lwAd h0 u h1 u2 SA b)) lwW 21) := by
  rw [jCnt_i ly_21]
  obtain ⟨l, D, cA, str⟩ := T
  subst hs
  rfl
theorem lw_e22 (T : kzT) (h0 : Nat) (u : Nat → Nat) (h1 : Nat) (u2 SA : Nat → Nat) (b : Nat) (hs : T.2.2.2 = fun j => SA (1002 + j)) : ((([] : va_W) ++ kzX T h0 u) ++ kzMo T h1 u2)[22]? = some (jad (lwGG T (lwAd h0 u h1 u2 SA b)) 22, jCnt (lwGG T (lwAd h0 u h1 u2 SA b)) lwW 22) := by
  rw [jCnt_i ly_22]
  obtain ⟨l, D, cA, str⟩ := T
  subst hs
  rfl
theorem lw_e23 (T : kzT) (h0 : Nat) (u : Nat → Nat) (h1 : Nat) (u2 SA : Nat → Nat) (b : Nat) (hs : T.2.2.2 = fun j => SA (1002 + j)) : ((([] : va_W) ++ kzX T h0 u) ++ kzMo T h1 u2)[23]? = some (jad (lwGG T (lwAd h0 u h1 u2 SA b)) 23, jCnt (lwGG T (lwAd h0 u h1 u2 SA b)) lwW 23) := by
  rw [jCnt_i ly_23]
  obtain ⟨l, D, cA, str⟩ := T
  subst hs
  rfl
theorem lw_e24 (T : kzT) (h0 : Nat) (u : Nat → Nat) (h1 : Nat) (u2 SA : Nat → Nat) (b : Nat) (hs : T.2.2.2 = fun j => SA (1002 + j)) : ((([] : va_W) ++ kzX T h0 u) ++ kzMo T h1 u2)[24]? = some (jad (lwGG T (lwAd h0 u h1 u2 SA b)) 24, jCnt (lwGG T (lwAd h0 u h1 u2 SA b)) lwW 24) := by
  rw [jCnt_4 ly_24]
  obtain ⟨l, D, cA, str⟩ := T
  subst hs
  rfl
theorem lw_e25 (T : kzT) (h0 : Nat) (u : Nat → Nat) (h1 : Nat) (u2 SA : Nat → Nat) (b : Nat) (hs : T.2.2.2 = fun j => SA (1002 + j)) : ((([] : va_W) ++ kzX T h0 u) ++ kzMo T h1 u2)[25]? = some (jad (lwGG T (lwAd h0 u h1 u2 SA b)) 25, jCnt (lwGG T (lwAd h0 u h1 u2 SA b)) lwW 25) := by
  rw [jCnt_o ly_25]
  obtain ⟨l, D, cA, str⟩ := T
  subst hs
  rfl
theorem lw_e26 (T : kzT) (h0 : Nat) (u : Nat → Nat) (h1 : Nat) (u2 SA : Nat → Nat) (b : Nat) (hs : T.2.2.2 = fun j => SA (1002 + j)) : ((([] : va_W) ++ kzX T h0 u) ++ kzMo T h1 u2)[26]? = some (jad (lwGG T (lwAd h0 u h1 u2 SA b)) 26, jCnt (lwGG T (lwAd h0 u h1 u2 SA b)) lwW 26) := by
  rw [jCnt_i ly_26]
  obtain ⟨l, D, cA, str⟩ := T
  subst hs
  rfl
theorem lw_e27 (T : kzT) (h0 : Nat) (u : Nat → Nat) (h1 : Nat) (u2 SA : Nat → Nat) (b : Nat) (hs : T.2.2.2 = fun j => SA (1002 + j)) : ((([] : va_W) ++ kzX T h0 u) ++ kzMo T h1 u2)[27]? = some (jad (lwGG T (lwAd h0 u h1 u2 SA b)) 27, jCnt (lwGG T (lwAd h0 u h1 u2 SA b)) lwW 27) := by
  rw [jCnt_5 ly_27]
  obtain ⟨l, D, cA, str⟩ := T
  subst hs
  rfl
theorem lw_e28 (T : kzT) (h0 : Nat) (u : Nat → Nat) (h1 : Nat) (u2 SA : Nat → Nat) (b : Nat) (hs : T.2.2.2 = fun j => SA (1002 + j)) : ((([] : va_W) ++ kzX T h0 u) ++ kzMo T h1 u2)[28]? = some (jad (lwGG T (lwAd h0 u h1 u2 SA b)) 28, jCnt (lwGG T (lwAd h0 u h1 u2 SA b)) lwW 28) := by
  rw [jCnt_o ly_28]
  obtain ⟨l, D, cA, str⟩ := T
  subst hs
  rfl
theorem lw_e29 (T : kzT) (h0 : Nat) (u : Nat → Nat) (h1 : Nat) (u2 SA : Nat → Nat) (b : Nat) (hs : T.2.2.2 = fun j => SA (1002 + j)) : ((([] : va_W) ++ kzX T h0 u) ++ kzMo T h1 u2)[29]? = some (jad (lwGG T (lwAd h0 u h1 u2 SA b)) 29, jCnt (lwGG T (lwAd h0 u h1 u2 SA b)) lwW 29) := by
  rw [jCnt_i ly_29]
  obtain ⟨l, D, cA, str⟩ := T
  subst hs
  rfl
theorem lw_e30 (T : kzT) (h0 : Nat) (u : Nat → Nat) (h1 : Nat) (u2 SA : Nat → Nat) (b : Nat) (hs : T.2.2.2 = fun j => SA (1002 + j)) : ((([] : va_W) ++ kzX T h0 u) ++ kzMo T h1 u2)[30]? = some (jad (lwGG T (lwAd h0 u h1 u2 SA b)) 30, jCnt (lwGG T (lwAd h0 u h1 u2 SA b)) lwW 30) := by
  rw [jCnt_5 ly_30]
  obtain ⟨l, D, cA, str⟩ := T
  subst hs
  rfl
theorem lw_e31 (T : kzT) (h0 : Nat) (u : Nat → Nat) (h1 : Nat) (u2 SA : Nat → Nat) (b : Nat) (hs : T.2.2.2 = fun j => SA (1002 + j)) : ((([] : va_W) ++ kzX T h0 u) ++ kzMo T h1 u2)[31]? = some (jad (lwGG T (lwAd h0 u h1 u2 SA b)) 31, jCnt (lwGG T (lwAd h0 u h1 u2 SA b)) lwW 31) := by
  rw [jCnt_o ly_31]
  obtain ⟨l, D, cA, str⟩ := T
  subst hs
  rfl
theorem lw_e32 (T : kzT) (h0 : Nat) (u : Nat → Nat) (h1 : Nat) (u2 SA : Nat → Nat) (b : Nat) (hs : T.2.2.2 = fun j => SA (1002 + j)) : ((([] : va_W) ++ kzX T h0 u) ++ kzMo T h1 u2)[32]? = some (jad (lwGG T (lwAd h0 u h1 u2 SA b)) 32, jCnt (lwGG T (lwAd h0 u h1 u2 SA b)) lwW 32) := by
  rw [jCnt_i ly_32]
  obtain ⟨l, D, cA, str⟩ := T
  subst hs
  rfl
theorem lw_e33 (T : kzT) (h0 : Nat) (u : Nat → Nat) (h1 : Nat) (u2 SA : Nat → Nat) (b : Nat) (hs : T.2.2.2 = fun j => SA (1002 + j)) : ((([] : va_W) ++ kzX T h0 u) ++ kzMo T h1 u2)[33]? = some (jad (lwGG T (lwAd h0 u h1 u2 SA b)) 33, jCnt (lwGG T (lwAd h0 u h1 u2 SA b)) lwW 33) := by
  rw [jCnt_i ly_33]
  obtain ⟨l, D, cA, str⟩ := T
  subst hs
  rfl
theorem lw_e34 (T : kzT) (h0 : Nat) (u : Nat → Nat) (h1 : Nat) (u2 SA : Nat → Nat) (b : Nat) (hs : T.2.2.2 = fun j => SA (1002 + j)) : ((([] : va_W) ++ kzX T h0 u) ++ kzMo T h1 u2)[34]? = some (jad (lwGG T (lwAd h0 u h1 u2 SA b)) 34, jCnt (lwGG T (lwAd h0 u h1 u2 SA b)) lwW 34) := by
  rw [jCnt_i ly_34]
  obtain ⟨l, D, cA, str⟩ := T
  subst hs
  rfl
theorem lw_e35 (T : kzT) (h0 : Nat) (u : Nat → Nat) (h1 : Nat) (u2 SA : Nat → Nat) (b : Nat) (hs : T.2.2.2 = fun j => SA (1002 + j)) : ((([] : va_W) ++ kzX T h0 u) ++ kzMo T h1 u2)[35]? = some (jad (lwGG T (lwAd h0 u h1 u2 SA b)) 35, jCnt (lwGG T (lwAd h0 u h1 u2 SA b)) lwW 35) := by
  rw [jCnt_i ly_35]
  obtain ⟨l, D, cA, str⟩ := T
  subst hs
  rfl
theorem lw_e36 (T : kzT) (h0 : Nat) (u : Nat → Nat) (h1 : Nat) (u2 SA : Nat → Nat) (b : Nat) (hs : T.2.2.2 = fun j => SA (1002 + j)) : ((([] : va_W) ++ kzX T h0 u) ++ kzMo T h1 u2)[36]? = some (jad (lwGG T (lwAd h0 u h1 u2 SA b)) 36, jCnt (lwGG T (lwAd h0 u h1 u2 SA b)) lwW 36) := by
  rw [jCnt_i ly_36]
  obtain ⟨l, D, cA, str⟩ := T
  subst hs
  rfl
theorem lw_e37 (T : kzT) (h0 : Nat) (u : Nat → Nat) (h1 : Nat) (u2 SA : Nat → Nat) (b : Nat) (hs : T.2.2.2 = fun j => SA (1002 + j)) : ((([] : va_W) ++ kzX T h0 u) ++ kzMo T h1 u2)[37]? = some (jad (lwGG T (lwAd h0 u h1 u2 SA b)) 37, jCnt (lwGG T (lwAd h0 u h1 u2 SA b)) lwW 37) := by
  rw [jCnt_i ly_37]
  obtain ⟨l, D, cA, str⟩ := T
  subst hs
  rfl
theorem lw_e38 (T : kzT) (h0 : Nat) (u : Nat → Nat) (h1 : Nat) (u2 SA : Nat → Nat) (b : Nat) (hs : T.2.2.2 = fun j => SA (1002 + j)) : ((([] : va_W) ++ kzX T h0 u) ++ kzMo T h1 u2)[38]? = some (jad (lwGG T (lwAd h0 u h1 u2 SA b)) 38, jCnt (lwGG T (lwAd h0 u h1 u2 SA b)) lwW 38) := by
  rw [jCnt_i ly_38]
  obtain ⟨l, D, cA, str⟩ := T
  subst hs
  rfl
theorem lw_e39 (T : kzT) (h0 : Nat) (u : Nat → Nat) (h1 : Nat) (u2 SA : Nat → Nat) (b : Nat) (hs : T.2.2.2 = fun j => SA (1002 + j)) : ((([] : va_W) ++ kzX T h0 u) ++ kzMo T h1 u2)[39]? = some (jad (lwGG T (lwAd h0 u h1 u2 SA b)) 39, jCnt (lwGG T (lwAd h0 u h1 u2 SA b)) lwW 39) := by
  rw [jCnt_4 ly_39]
  obtain ⟨l, D, cA, str⟩ := T
  subst hs
  rfl
theorem lw_e40 (T : kzT) (h0 : Nat) (u : Nat → Nat) (h1 : Nat) (u2 SA : Nat → Nat) (b : Nat) (hs : T.2.2.2 = fun j => SA (1002 + j)) : ((([] : va_W) ++ kzX T h0 u) ++ kzMo T h1 u2)[40]? = some (jad (lwGG T (lwAd h0 u h1 u2 SA b)) 40, jCnt (lwGG T (lwAd h0 u h1 u2 SA b)) lwW 40) := by
  rw [jCnt_o ly_40]
  obtain ⟨l, D, cA, str⟩ := T
  subst hs
  rfl
theorem lw_e41 (T : kzT) (h0 : Nat) (u : Nat → Nat) (h1 : Nat) (u2 SA : Nat → Nat) (b : Nat) (hs : T.2.2.2 = fun j => SA (1002 + j)) : ((([] : va_W) ++ kzX T h0 u) ++ kzMo T h1 u2)[41]? = some (jad (lwGG T (lwAd h0 u h1 u2 SA b)) 41, jCnt (lwGG T (lwAd h0 u h1 u2 SA b)) lwW 41) := by
  rw [jCnt_i ly_41]
  obtain ⟨l, D, cA, str⟩ := T
  subst hs
  rfl
theorem lw_e42 (T : kzT) (h0 : Nat) (u : Nat → Nat) (h1 : Nat) (u2 SA : Nat → Nat) (b : Nat) (hs : T.2.2.2 = fun j => SA (1002 + j)) : ((([] : va_W) ++ kzX T h0 u) ++ kzMo T h1 u2)[42]? = some (jad (lwGG T (lwAd h0 u h1 u2 SA b)) 42, jCnt (lwGG T (lwAd h0 u h1 u2 SA b)) lwW 42) := by
  rw [jCnt_5 ly_42]
  obtain ⟨l, D, cA, str⟩ := T
  subst hs
  rfl
theorem lw_e43 (T : kzT) (h0 : Nat) (u : Nat → Nat) (h1 : Nat) (u2 SA : Nat → Nat) (b : Nat) (hs : T.2.2.2 = fun j => SA (1002 + j)) : ((([] : va_W) ++ kzX T h0 u) ++ kzMo T h1 u2)[43]? = some (jad (lwGG T (lwAd h0 u h1 u2 SA b)) 43, jCnt (lwGG T (lwAd h0 u h1 u2 SA b)) lwW 43) := by
  rw [jCnt_o ly_43]
  obtain ⟨l, D, cA, str⟩ := T
  subst hs
  rfl
theorem lw_e44 (T : kzT) (h0 : Nat) (u : Nat → Nat) (h1 : Nat) (u2 SA : Nat → Nat) (b : Nat) (hs : T.2.2.2 = fun j => SA (1002 + j)) : ((([] : va_W) ++ kzX T h0 u) ++ kzMo T h1 u2)[44]? = some (jad (lwGG T (lwAd h0 u h1 u2 SA b)) 44, jCnt (lwGG T (lwAd h0 u h1 u2 SA b)) lwW 44) := by
  rw [jCnt_i ly_44]
  obtain ⟨l, D, cA, str⟩ := T
  subst hs
  rfl
theorem lw_e45 (T : kzT) (h0 : Nat) (u : Nat → Nat) (h1 : Nat) (u2 SA : Nat → Nat) (b : Nat) (hs : T.2.2.2 = fun j => SA (1002 + j)) : ((([] : va_W) ++ kzX T h0 u) ++ kzMo T h1 u2)[45]? = some (jad (lwGG T (lwAd h0 u h1 u2 SA b)) 45, jCnt (lwGG T (lwAd h0 u h1 u2 SA b)) lwW 45) := by
  rw [jCnt_5 ly_45]
  obtain ⟨l, D, cA, str⟩ := T
  subst hs
  rfl
theorem lw_e46 (T : kzT) (h0 : Nat) (u : Nat → Nat) (h1 : Nat) (u2 SA : Nat → Nat) (b : Nat) (hs : T.2.2.2 = fun j => SA (1002 + j)) : ((([] : va_W) ++ kzX T h0 u) ++ kzMo T h1 u2)[46]? = some (jad (lwGG T (lwAd h0 u h1 u2 SA b)) 46, jCnt (lwGG T (lwAd h0 u h1 u2 SA b)) lwW 46) := by
  rw [jCnt_o ly_46]
  obtain ⟨l, D, cA, str⟩ := T
  subst hs
  rfl
theorem lw_e47 (T : kzT) (h0 : Nat) (u : Nat → Nat) (h1 : Nat) (u2 SA : Nat → Nat) (b : Nat) (hs : T.2.2.2 = fun j => SA (1002 + j)) : ((([] : va_W) ++ kzX T h0 u) ++ kzMo T h1 u2)[47]? = some (jad (lwGG T (lwAd h0 u h1 u2 SA b)) 47, jCnt (lwGG T (lwAd h0 u h1 u2 SA b)) lwW 47) := by
  rw [jCnt_i ly_47]
  obtain ⟨l, D, cA, str⟩ := T
  subst hs
  rfl
theorem lw_e48 (T : kzT) (h0 : Nat) (u : Nat → Nat) (h1 : Nat) (u2 SA : Nat → Nat) (b : Nat) (hs : T.2.2.2 = fun j => SA (1002 + j)) : ((([] : va_W) ++ kzX T h0 u) ++ kzMo T h1 u2)[48]? = some (jad (lwGG T (lwAd h0 u h1 u2 SA b)) 48, jCnt (lwGG T (lwAd h0 u h1 u2 SA b)) lwW 48) := by
  rw [jCnt_o ly_48]
  obtain ⟨l, D, cA, str⟩ := T
  subst hs
  rfl
theorem lw_e49 (T : kzT) (h0 : Nat) (u : Nat → Nat) (h1 : Nat) (u2 SA : Nat → Nat) (b : Nat) (hs : T.2.2.2 = fun j => SA (1002 + j)) : ((([] : va_W) ++ kzX T h0 u) ++ kzMo T h1 u2)[49]? = some (jad (lwGG T (lwAd h0 u h1 u2 SA b)) 49, jCnt (lwGG T (lwAd h0 u h1 u2 SA b)) lwW 49) := by
  rw [jCnt_2 ly_49]
  obtain ⟨l, D, cA, str⟩ := T
  subst hs
  rfl
theorem lw_e50 (T : kzT) (h0 : Nat) (u : Nat → Nat) (h1 : Nat) (u2 SA : Nat → Nat) (b : Nat) (hs : T.2.2.2 = fun j => SA (1002 + j)) : ((([] : va_W) ++ kzX T h0 u) ++ kzMo T h1 u2)[50]? = some (jad (lwGG T (lwAd h0 u h1 u2 SA b)) 50, jCnt (lwGG T (lwAd h0 u h1 u2 SA b)) lwW 50) := by
  rw [jCnt_l ly_50]
  obtain ⟨l, D, cA, str⟩ := T
  subst hs
  rfl
theorem lw_e51 (T : kzT) (h0 : Nat) (u : Nat → Nat) (h1 : Nat) (u2 SA : Nat → Nat) (b : Nat) (hs : T.2.2.2 = fun j => SA (1002 + j)) : ((([] : va_W) ++ kzX T h0 u) ++ kzMo T h1 u2)[51]? = some (jad (lwGG T (lwAd h0 u h1 u2 SA b)) 51, jCnt (lwGG T (lwAd h0 u h1 u2 SA b)) lwW 51) := by
  rw [jCnt_l ly_51]
  obtain ⟨l, D, cA, str⟩ := T
  subst hs
  rfl
theorem lw_e52 (T : kzT) (h0 : Nat) (u : Nat → Nat) (h1 : Nat) (u2 SA : Nat → Nat) (b : Nat) (hs : T.2.2.2 = fun j => SA (1002 + j)) : ((([] : va_W) ++ kzX T h0 u) ++ kzMo T h1 u2)[52]? = some (jad (lwGG T (lwAd h0 u h1 u2 SA b)) 52, jCnt (lwGG T (lwAd h0 u h1 u2 SA b)) lwW 52) := by
  rw [jCnt_l ly_52]
  obtain ⟨l, D, cA, str⟩ := T
  subst hs
  rfl
theorem lw_e53 (T : kzT) (h0 : Nat) (u : Nat → Nat) (h1 : Nat) (u2 SA : Nat → Nat) (b : Nat) (hs : T.2.2.2 = fun j => SA (1002 + j)) : ((([] : va_W) ++ kzX T h0 u) ++ kzMo T h1 u2)[53]? = some (jad (lwGG T (lwAd h0 u h1 u2 SA b)) 53, jCnt (lwGG T (lwAd h0 u h1 u2 SA b)) lwW 53) := by
  rw [jCnt_l ly_53]
  obtain ⟨l, D, cA, str⟩ := T
  subst hs
  rfl
theorem lw_e54 (T : kzT) (h0 : Nat) (u : Nat → Nat) (h1 : Nat) (u2 SA : Nat → Nat) (b : Nat) (hs : T.2.2.2 = fun j => SA (1002 + j)) : ((([] : va_W) ++ kzX T h0 u) ++ kzMo T h1 u2)[54]? = some (jad (lwGG T (lwAd h0 u h1 u2 SA b)) 54, jCnt (lwGG T (lwAd h0 u h1 u2 SA b)) lwW 54) := by
  rw [jCnt_l ly_54]
  obtain ⟨l, D, cA, str⟩ := T
  subst hs
  rfl
theorem lw_e55 (T : kzT) (h0 : Nat) (u : Nat → Nat) (h1 : Nat) (u2 SA : Nat → Nat) (b : Nat) (hs : T.2.2.2 = fun j => SA (1002 + j)) : ((([] : va_W) ++ kzX T h0 u) ++ kzMo T h1 u2)[55]? = some (jad (lwGG T (lwAd h0 u h1 u2 SA b)) 55, jCnt (lwGG T (lwAd h0 u h1 u2 SA b)) lwW 55) := by
  rw [jCnt_i ly_55]
  obtain ⟨l, D, cA, str⟩ := T
  subst hs
  rfl
theorem lw_e56 (T : kzT) (h0 : Nat) (u : Nat → Nat) (h1 : Nat) (u2 SA : Nat → Nat) (b : Nat) (hs : T.2.2.2 = fun j => SA (1002 + j)) : ((([] : va_W) ++ kzX T h0 u) ++ kzMo T h1 u2)[56]? = some (jad (lwGG T (lwAd h0 u h1 u2 SA b)) 56, jCnt (lwGG T (lwAd h0 u h1 u2 SA b)) lwW 56) := by
  rw [jCnt_i ly_56]
  obtain ⟨l, D, cA, str⟩ := T
  subst hs
  rfl
theorem lw_e57 (T : kzT) (h0 : Nat) (u : Nat → Nat) (h1 : Nat) (u2 SA : Nat → Nat) (b : Nat) (hs : T.2.2.2 = fun j => SA (1002 + j)) : ((([] : va_W) ++ kzX T h0 u) ++ kzMo T h1 u2)[57]? = some (jad (lwGG T (lwAd h0 u h1 u2 SA b)) 57, jCnt (lwGG T (lwAd h0 u h1 u2 SA b)) lwW 57) := by
  rw [jCnt_o ly_57]
  obtain ⟨l, D, cA, str⟩ := T
  subst hs
  rfl
theorem lw_e58 (T : kzT) (h0 : Nat) (u : Nat → Nat) (h1 : Nat) (u2 SA : Nat → Nat) (b : Nat) (hs : T.2.2.2 = fun j => SA (1002 + j)) : ((([] : va_W) ++ kzX T h0 u) ++ kzMo T h1 u2)[58]? = some (jad (lwGG T (lwAd h0 u h1 u2 SA b)) 58, jCnt (lwGG T (lwAd h0 u h1 u2 SA b)) lwW 58) := by
  rw [jCnt_i ly_58]
  obtain ⟨l, D, cA, str⟩ := T
  subst hs
  rfl
theorem lw_e59 (T : kzT) (h0 : Nat) (u : Nat → Nat) (h1 : Nat) (u2 SA : Nat → Nat) (b : Nat) (hs : T.2.2.2 = fun j => SA (1002 + j)) : ((([] : va_W) ++ kzX T h0 u) ++ kzMo T h1 u2)[59]? = some (jad (lwGG T (lwAd h0 u h1 u2 SA b)) 59, jCnt (lwGG T (lwAd h0 u h1 u2 SA b)) lwW 59) := by
  rw [jCnt_o ly_59]
  obtain ⟨l, D, cA, str⟩ := T
  subst hs
  rfl
theorem lw_e60 (T : kzT) (h0 : Nat) (u : Nat → Nat) (h1 : Nat) (u2 SA : Nat → Nat) (b : Nat) (hs : T.2.2.2 = fun j => SA (1002 + j)) : ((([] : va_W) ++ kzX T h0 u) ++ kzMo T h1 u2)[60]? = some (jad (lwGG T (lwAd h0 u h1 u2 SA b)) 60, jCnt (lwGG T (lwAd h0 u h1 u2 SA b)) lwW 60) := by
  rw [jCnt_3 ly_60]
  obtain ⟨l, D, cA, str⟩ := T
  subst hs
  rfl
theorem lw_e61 (T : kzT) (h0 : Nat) (u : Nat → Nat) (h1 : Nat) (u2 SA : Nat → Nat) (b : Nat) (hs : T.2.2.2 = fun j => SA (1002 + j)) : ((([] : va_W) ++ kzX T h0 u) ++ kzMo T h1 u2)[61]? = some (jad (lwGG T (lwAd h0 u h1 u2 SA b)) 61, jCnt (lwGG T (lwAd h0 u h1 u2 SA b)) lwW 61) := by
  rw [jCnt_i ly_61]
  obtain ⟨l, D, cA, str⟩ := T
  subst hs
  rfl
theorem lw_e62 (T : kzT) (h0 : Nat) (u : Nat → Nat) (h1 : Nat) (u2 SA : Nat → Nat) (b : Nat) (hs : T.2.2.2 = fun j => SA (1002 + j)) : ((([] : va_W) ++ kzX T h0 u) ++ kzMo T h1 u2)[62]? = some (jad (lwGG T (lwAd h0 u h1 u2 SA b)) 62, jCnt (lwGG T (lwAd h0 u h1 u2 SA b)) lwW 62) := by
  rw [jCnt_i ly_62]
  obtain ⟨l, D, cA, str⟩ := T
  subst hs
  rfl
theorem lw_e63 (T : kzT) (h0 : Nat) (u : Nat → Nat) (h1 : Nat) (u2 SA : Nat → Nat) (b : Nat) (hs : T.2.2.2 = fun j => SA (1002 + j)) : ((([] : va_W) ++ kzX T h0 u) ++ kzMo T h1 u2)[63]? = some (jad (lwGG T (lwAd h0 u h1 u2 SA b)) 63, jCnt (lwGG T (lwAd h0 u h1 u2 SA b)) lwW 63) := by
  rw [jCnt_i ly_63]
  obtain ⟨l, D, cA, str⟩ := T
  subst hs
  rfl
theorem lw_e64 (T : kzT) (h0 : Nat) (u : Nat → Nat) (h1 : Nat) (u2 SA : Nat → Nat) (b : Nat) (hs : T.2.2.2 = fun j => SA (1002 + j)) : ((([] : va_W) ++ kzX T h0 u) ++ kzMo T h1 u2)[64]? = some (jad (lwGG T (lwAd h0 u h1 u2 SA b)) 64, jCnt (lwGG T (lwAd h0 u h1 u2 SA b)) lwW 64) := by
  rw [jCnt_i ly_64]
  obtain ⟨l, D, cA, str⟩ := T
  subst hs
  rfl
theorem lw_e65 (T : kzT) (h0 : Nat) (u : Nat → Nat) (h1 : Nat) (u2 SA : Nat → Nat) (b : Nat) (hs : T.2.2.2 = fun j => SA (1002 + j)) : ((([] : va_W) ++ kzX T h0 u) ++ kzMo T h1 u2)[65]? = some (jad (lwGG T (lwAd h0 u h1 u2 SA b)) 65, jCnt (lwGG T (lwAd h0 u h1 u2 SA b)) lwW 65) := by
  rw [jCnt_i ly_65]
  obtain ⟨l, D, cA, str⟩ := T
  subst hs
  rfl
theorem lw_e66 (T : kzT) (h0 : Nat) (u : Nat → Nat) (h1 : Nat) (u2 SA : Nat → Nat) (b : Nat) (hs : T.2.2.2 = fun j => SA (1002 + j)) : ((([] : va_W) ++ kzX T h0 u) ++ kzMo T h1 u2)[66]? = some (jad (lwGG T (lwAd h0 u h1 u2 SA b)) 66, jCnt (lwGG T (lwAd h0 u h1 u2 SA b)) lwW 66) := by
  rw [jCnt_i ly_66]
  obtain ⟨l, D, cA, str⟩ := T
  subst hs
  rfl
theorem lw_e67 (T : kzT) (h0 : Nat) (u : Nat → Nat) (h1 : Nat) (u2 SA : Nat → Nat) (b : Nat) (hs : T.2.2.2 = fun j => SA (1002 + j)) : ((([] : va_W) ++ kzX T h0 u) ++ kzMo T h1 u2)[67]? = some (jad (lwGG T (lwAd h0 u h1 u2 SA b)) 67, jCnt (lwGG T (lwAd h0 u h1 u2 SA b)) lwW 67) := by
  rw [jCnt_i ly_67]
  obtain ⟨l, D, cA, str⟩ := T
  subst hs
  rfl
theorem lw_e68 (T : kzT) (h0 : Nat) (u : Nat → Nat) (h1 : Nat) (u2 SA : Nat → Nat) (b : Nat) (hs : T.2.2.2 = fun j => SA (1002 + j)) : ((([] : va_W) ++ kzX T h0 u) ++ kzMo T h1 u2)[68]? = some (jad (lwGG T (lwAd h0 u h1 u2 SA b)) 68, jCnt (lwGG T (lwAd h0 u h1 u2 SA b)) lwW 68) := by
  rw [jCnt_o ly_68]
  obtain ⟨l, D, cA, str⟩ := T
  subst hs
  rfl
theorem lw_e69 (T : kzT) (h0 : Nat) (u : Nat → Nat) (h1 : Nat) (u2 SA : Nat → Nat) (b : Nat) (hs : T.2.2.2 = fun j => SA (1002 + j)) : ((([] : va_W) ++ kzX T h0 u) ++ kzMo T h1 u2)[69]? = some (jad (lwGG T (lwAd h0 u h1 u2 SA b)) 69, jCnt (lwGG T (lwAd h0 u h1 u2 SA b)) lwW 69) := by
  rw [jCnt_i ly_69]
  obtain ⟨l, D, cA, str⟩ := T
  subst hs
  rfl
theorem lw_e70 (T : kzT) (h0 : Nat) (u : Nat → Nat) (h1 : Nat) (u2 SA : Nat → Nat) (b : Nat) (hs : T.2.2.2 = fun j => SA (1002 + j)) : ((([] : va_W) ++ kzX T h0 u) ++ kzMo T h1 u2)[70]? = some (jad (lwGG T (lwAd h0 u h1 u2 SA b)) 70, jCnt (lwGG T (lwAd h0 u h1 u2 SA b)) lwW 70) := by
  rw [jCnt_i ly_70]
  obtain ⟨l, D, cA, str⟩ := T
  subst hs
  rfl
theorem lw_e71 (T : kzT) (h0 : Nat) (u : Nat → Nat) (h1 : Nat) (u2 SA : Nat → Nat) (b : Nat) (hs : T.2.2.2 = fun j => SA (1002 + j)) : ((([] : va_W) ++ kzX T h0 u) ++ kzMo T h1 u2)[71]? = some (jad (lwGG T (lwAd h0 u h1 u2 SA b)) 71, jCnt (lwGG T (lwAd h0 u h1 u2 SA b)) lwW 71) := by
  rw [jCnt_i ly_71]
  obtain ⟨l, D, cA, str⟩ := T
  subst hs
  rfl
theorem lw_e72 (T : kzT) (h0 : Nat) (u : Nat → Nat) (h1 : Nat) (u2 SA : Nat → Nat) (b : Nat) (hs : T.2.2.2 = fun j => SA (1002 + j)) : ((([] : va_W) ++ kzX T h0 u) ++ kzMo T h1 u2)[72]? = some (jad (lwGG T (lwAd h0 u h1 u2 SA b)) 72, jCnt (lwGG T (lwAd h0 u h1 u2 SA b)) lwW 72) := by
  rw [jCnt_i ly_72]
  obtain ⟨l, D, cA, str⟩ := T
  subst hs
  rfl
theorem lw_e73 (T : kzT) (h0 : Nat) (u : Nat → Nat) (h1 : Nat) (u2 SA : Nat → Nat) (b : Nat) (hs : T.2.2.2 = fun j => SA (1002 + j)) : ((([] : va_W) ++ kzX T h0 u) ++ kzMo T h1 u2)[73]? = some (jad (lwGG T (lwAd h0 u h1 u2 SA b)) 73, jCnt (lwGG T (lwAd h0 u h1 u2 SA b)) lwW 73) := by
  rw [jCnt_i ly_73]
  obtain ⟨l, D, cA, str⟩ := T
  subst hs
  rfl
theorem lw_e74 (T : kzT) (h0 : Nat) (u : Nat → Nat) (h1 : Nat) (u2 SA : Nat → Nat) (b : Nat) (hs : T.2.2.2 = fun j => SA (1002 + j)) : ((([] : va_W) ++ kzX T h0 u) ++ kzMo T h1 u2)[74]? = some (jad (lwGG T (lwAd h0 u h1 u2 SA b)) 74, jCnt (lwGG T (lwAd h0 u h1 u2 SA b)) lwW 74) := by
  rw [jCnt_i ly_74]
  obtain ⟨l, D, cA, str⟩ := T
  subst hs
  rfl
theorem lw_e75 (T : kzT) (h0 : Nat) (u : Nat → Nat) (h1 : Nat) (u2 SA : Nat → Nat) (b : Nat) (hs : T.2.2.2 = fun j => SA (1002 + j)) : ((([] : va_W) ++ kzX T h0 u) ++ kzMo T h1 u2)[75]? = some (jad (lwGG T (lwAd h0 u h1 u2 SA b)) 75, jCnt (lwGG T (lwAd h0 u h1 u2 SA b)) lwW 75) := by
  rw [jCnt_i ly_75]
  obtain ⟨l, D, cA, str⟩ := T
  subst hs
  rfl
theorem lw_e76 (T : kzT) (h0 : Nat) (u : Nat → Nat) (h1 : Nat) (u2 SA : Nat → Nat) (b : Nat) (hs : T.2.2.2 = fun j => SA (1002 + j)) : ((([] : va_W) ++ kzX T h0 u) ++ kzMo T h1 u2)[76]? = some (jad (lwGG T (lwAd h0 u h1 u2 SA b)) 76, jCnt (lwGG T (lwAd h0 u h1 u2 SA b)) lwW 76) := by
  rw [jCnt_l ly_76]
  obtain ⟨l, D, cA, str⟩ := T
  subst hs
  rfl
theorem lw_e77 (T : kzT) (h0 : Nat) (u : Nat → Nat) (h1 : Nat) (u2 SA : Nat → Nat) (b : Nat) (hs : T.2.2.2 = fun j => SA (1002 + j)) : ((([] : va_W) ++ kzX T h0 u) ++ kzMo T h1 u2)[77]? = some (jad (lwGG T (lwAd h0 u h1 u2 SA b)) 77, jCnt (lwGG T (lwAd h0 u h1 u2 SA b)) lwW 77) := by
  rw [jCnt_l ly_77]
  obtain ⟨l, D, cA, str⟩ := T
  subst hs
  rfl
theorem lw_e78 (T : kzT) (h0 : Nat) (u : Nat → Nat) (h1 : Nat) (u2 SA : Nat → Nat) (b : Nat) (hs : T.2.2.2 = fun j => SA (1002 + j)) : ((([] : va_W) ++ kzX T h0 u) ++ kzMo T h1 u2)[78]? = some (jad (lwGG T (lwAd h0 u h1 u2 SA b)) 78, jCnt (lwGG T (lwAd h0 u h1 u2 SA b)) lwW 78) := by
  rw [jCnt_l ly_78]
  obtain ⟨l, D, cA, str⟩ := T
  subst hs
  rfl
theorem lw_e79 (T : kzT) (h0 : Nat) (u : Nat → Nat) (h1 : Nat) (u2 SA : Nat → Nat) (b : Nat) (hs : T.2.2.2 = fun j => SA (1002 + j)) : ((([] : va_W) ++ kzX T h0 u) ++ kzMo T h1 u2)[79]? = some (jad (lwGG T (lwAd h0 u h1 u2 SA b)) 79, jCnt (lwGG T (lwAd h0 u h1 u2 SA b)) lwW 79) := by
  rw [jCnt_i ly_79]
  obtain ⟨l, D, cA, str⟩ := T
  subst hs
  rfl
theorem lw_e80 (T : kzT) (h0 : Nat) (u : Nat → Nat) (h1 : Nat) (u2 SA : Nat → Nat) (b : Nat) (hs : T.2.2.2 = fun j => SA (1002 + j)) : ((([] : va_W) ++ kzX T h0 u) ++ kzMo T h1 u2)[80]? = some (jad (lwGG T (lwAd h0 u h1 u2 SA b)) 80, jCnt (lwGG T (lwAd h0 u h1 u2 SA b)) lwW 80) := by
  rw [jCnt_i ly_80]
  obtain ⟨l, D, cA, str⟩ := T
  subst hs
  rfl
theorem lw_e81 (T : kzT) (h0 : Nat) (u : Nat → Nat) (h1 : Nat) (u2 SA : Nat → Nat) (b : Nat) (hs : T.2.2.2 = fun j => SA (1002 + j)) : ((([] : va_W) ++ kzX T h0 u) ++ kzMo T h1 u2)[81]? = some (jad (lwGG T (lwAd h0 u h1 u2 SA b)) 81, jCnt (lwGG T (lwAd h0 u h1 u2 SA b)) lwW 81) := by
  rw [jCnt_5 ly_81]
  obtain ⟨l, D, cA, str⟩ := T
  subst hs
  rfl
theorem lw_e82 (T : kzT) (h0 : Nat) (u : Nat → Nat) (h1 : Nat) (u2 SA : Nat → Nat) (b : Nat) (hs : T.2.2.2 = fun j => SA (1002 + j)) : ((([] : va_W) ++ kzX T h0 u) ++ kzMo T h1 u2)[82]? = some (jad (lwGG T (lwAd h0 u h1 u2 SA b)) 82, jCnt (lwGG T (lwAd h0 u h1 u2 SA b)) lwW 82) := by
  rw [jCnt_5 ly_82]
  obtain ⟨l, D, cA, str⟩ := T
  subst hs
  rfl
theorem lw_e83 (T : kzT) (h0 : Nat) (u : Nat → Nat) (h1 : Nat) (u2 SA : Nat → Nat) (b : Nat) (hs : T.2.2.2 = fun j => SA (1002 + j)) : ((([] : va_W) ++ kzX T h0 u) ++ kzMo T h1 u2)[83]? = some (jad (lwGG T (lwAd h0 u h1 u2 SA b)) 83, jCnt (lwGG T (lwAd h0 u h1 u2 SA b)) lwW 83) := by
  rw [jCnt_i ly_83]
  obtain ⟨l, D, cA, str⟩ := T
  subst hs
  rfl
