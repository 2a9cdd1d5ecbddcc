/-! ===== stores by place, small rows (written by wip/whole/gen/jst.py) ===== -/
theorem jst0 {a0 : Option Value} {r : List (Option Value)} {v : Value} (hc : v.category = 1) : jSt (a0 :: r) 0 v (some v :: r) := jSt_0 hc _ _
theorem jst1 {a0 a1 : Option Value} {r : List (Option Value)} {v : Value} (hc : v.category = 1) (hn : jnl a0 = true) : jSt (a0 :: a1 :: r) 1 v (a0 :: some v :: r) := jSt_s (jSt_0 hc _ _) (fun _ => hn)
theorem jstK1 {a0 a1 : Option Value} {r : List (Option Value)} {v : Value} (hc : v.category = 1) : jSt (a0 :: a1 :: r) 1 v (none :: some v :: r) := by
  have h : jSt (none :: a1 :: r) 1 v (none :: some v :: r) := jst1 hc rfl
  intro j u hj
  rcases h j u hj with h | ⟨h1, h2, h3, h4⟩
  · exact Or.inl h
  · refine Or.inr ⟨h1, h2, ?_, h4⟩
    by_cases e : j = 0
    · subst e
      simp at h3
    · rcases Nat.lt_or_ge j 0 with q | q
      · match j, q with
        | j, q => omega
      · obtain ⟨i, rfl⟩ : ∃ i, j = i + 1 := ⟨j - 1, by omega⟩
        exact h3
theorem jst2 {a0 a1 a2 : Option Value} {r : List (Option Value)} {v : Value} (hc : v.category = 1) (hn : jnl a1 = true) : jSt (a0 :: a1 :: a2 :: r) 2 v (a0 :: a1 :: some v :: r) := jSt_s (jSt_s (jSt_0 hc _ _) (fun _ => hn)) (fun h => absurd h (by decide))
theorem jstK2 {a0 a1 a2 : Option Value} {r : List (Option Value)} {v : Value} (hc : v.category = 1) : jSt (a0 :: a1 :: a2 :: r) 2 v (a0 :: none :: some v :: r) := by
  have h : jSt (a0 :: none :: a2 :: r) 2 v (a0 :: none :: some v :: r) := jst2 hc rfl
  intro j u hj
  rcases h j u hj with h | ⟨h1, h2, h3, h4⟩
  · exact Or.inl h
  · refine Or.inr ⟨h1, h2, ?_, h4⟩
    by_cases e : j = 1
    · subst e
      simp at h3
    · rcases Nat.lt_or_ge j 1 with q | q
      · match j, q with
        | 0, _ => exact h3
      · obtain ⟨i, rfl⟩ : ∃ i, j = i + 2 := ⟨j - 2, by omega⟩
        exact h3
theorem jst3 {a0 a1 a2 a3 : Option Value} {r : List (Option Value)} {v : Value} (hc : v.category = 1) (hn : jnl a2 = true) : jSt (a0 :: a1 :: a2 :: a3 :: r) 3 v (a0 :: a1 :: a2 :: some v :: r) := jSt_s (jSt_s (jSt_s (jSt_0 hc _ _) (fun _ => hn)) (fun h => absurd h (by decide))) (fun h => absurd h (by decide))
theorem jstK3 {a0 a1 a2 a3 : Option Value} {r : List (Option Value)} {v : Value} (hc : v.category = 1) : jSt (a0 :: a1 :: a2 :: a3 :: r) 3 v (a0 :: a1 :: none :: some v :: r) := by
  have h : jSt (a0 :: a1 :: none :: a3 :: r) 3 v (a0 :: a1 :: none :: some v :: r) := jst3 hc rfl
  intro j u hj
  rcases h j u hj with h | ⟨h1, h2, h3, h4⟩
  · exact Or.inl h
  · refine Or.inr ⟨h1, h2, ?_, h4⟩
    by_cases e : j = 2
    · subst e
      simp at h3
    · rcases Nat.lt_or_ge j 2 with q | q
      · match j, q with
        | 0, _ => exact h3
        | 1, _ => exact h3
      · obtain ⟨i, rfl⟩ : ∃ i, j = i + 3 := ⟨j - 3, by omega⟩
        exact h3
theorem jst4 {a0 a1 a2 a3 a4 : Option Value} {r : List (Option Value)} {v : Value} (hc : v.category = 1) (hn : jnl a3 = true) : jSt (a0 :: a1 :: a2 :: a3 :: a4 :: r) 4 v (a0 :: a1 :: a2 :: a3 :: some v :: r) := jSt_s (jSt_s (jSt_s (jSt_s (jSt_0 hc _ _) (fun _ => hn)) (fun h => absurd h (by decide))) (fun h => absurd h (by decide))) (fun h => absurd h (by decide))
theorem jstK4 {a0 a1 a2 a3 a4 : Option Value} {r : List (Option Value)} {v : Value} (hc : v.category = 1) : jSt (a0 :: a1 :: a2 :: a3 :: a4 :: r) 4 v (a0 :: a1 :: a2 :: none :: some v :: r) := by
  have h : jSt (a0 :: a1 :: a2 :: none :: a4 :: r) 4 v (a0 :: a1 :: a2 :: none :: some v :: r) := jst4 hc rfl
  intro j u hj
  rcases h j u hj with h | ⟨h1, h2, h3, h4⟩
  · exact Or.inl h
  · refine Or.inr ⟨h1, h2, ?_, h4⟩
    by_cases e : j = 3
    · subst e
      simp at h3
    · rcases Nat.lt_or_ge j 3 with q | q
      · match j, q with
        | 0, _ => exact h3
        | 1, _ => exact h3
        | 2, _ => exact h3
      · obtain ⟨i, rfl⟩ : ∃ i, j = i + 4 := ⟨j - 4, by omega⟩
        exact h3
theorem jst5 {a0 a1 a2 a3 a4 a5 : Option Value} {r : List (Option Value)} {v : Value} (hc : v.category = 1) (hn : jnl a4 = true) : jSt (a0 :: a1 :: a2 :: a3 :: a4 :: a5 :: r) 5 v (a0 :: a1 :: a2 :: a3 :: a4 :: some v :: r) := jSt_s (jSt_s (jSt_s (jSt_s (jSt_s (jSt_0 hc _ _) (fun _ => hn)) (fun h => absurd h (by decide))) (fun h => absurd h (by decide))) (fun h => absurd h (by decide))) (fun h => absurd h (by decide))
theorem jstK5 {a0 a1 a2 a3 a4 a5 : Option Value} {r : List (Option Value)} {v : Value} (hc : v.category = 1) : jSt (a0 :: a1 :: a2 :: a3 :: a4 :: a5 :: r) 5 v (a0 :: a1 :: a2 :: a3 :: none :: some v :: r) := by
  have h : jSt (a0 :: a1 :: a2 :: a3 :: none :: a5 :: r) 5 v (a0 :: a1 :: a2 :: a3 :: none :: some v :: r) := jst5 hc rfl
  intro j u hj
  rcases h j u hj with h | ⟨h1, h2, h3, h4⟩
  · exact Or.inl h
  · refine Or.inr ⟨h1, h2, ?_, h4⟩
    by_cases e : j = 4
    · subst e
      simp at h3
    · rcases Nat.lt_or_ge j 4 with q | q
      · match j, q with
        | 0, _ => exact h3
        | 1, _ => exact h3
        | 2, _ => exact h3
        | 3, _ => exact h3
      · obtain ⟨i, rfl⟩ : ∃ i, j = i + 5 := ⟨j - 5, by omega⟩
        exact h3
theorem jst6 {a0 a1 a2 a3 a4 a5 a6 : Option Value} {r : List (Option Value)} {v : Value} (hc : v.category = 1) (hn : jnl a5 = true) : jSt (a0 :: a1 :: a2 :: a3 :: a4 :: a5 :: a6 :: r) 6 v (a0 :: a1 :: a2 :: a3 :: a4 :: a5 :: some v :: r) := jSt_s (jSt_s (jSt_s (jSt_s (jSt_s (jSt_s (jSt_0 hc _ _) (fun _ => hn)) (fun h => absurd h (by decide))) (fun h => absurd h (by decide))) (fun h => absurd h (by decide))) (fun h => absurd h (by decide))) (fun h => absurd h (by decide))
theorem jstK6 {a0 a1 a2 a3 a4 a5 a6 : Option Value} {r : List (Option Value)} {v : Value} (hc : v.category = 1) : jSt (a0 :: a1 :: a2 :: a3 :: a4 :: a5 :: a6 :: r) 6 v (a0 :: a1 :: a2 :: a3 :: a4 :: none :: some v :: r) := by
  have h : jSt (a0 :: a1 :: a2 :: a3 :: a4 :: none :: a6 :: r) 6 v (a0 :: a1 :: a2 :: a3 :: a4 :: none :: some v :: r) := jst6 hc rfl
  intro j u hj
  rcases h j u hj with h | ⟨h1, h2, h3, h4⟩
  · exact Or.inl h
  · refine Or.inr ⟨h1, h2, ?_, h4⟩
    by_cases e : j = 5
    · subst e
      simp at h3
    · rcases Nat.lt_or_ge j 5 with q | q
      · match j, q with
        | 0, _ => exact h3
        | 1, _ => exact h3
        | 2, _ => exact h3
        | 3, _ => exact h3
        | 4, _ => exact h3
      · obtain ⟨i, rfl⟩ : ∃ i, j = i + 6 := ⟨j - 6, by omega⟩
        exact h3
theorem jst7 {a0 a1 a2 a3 a4 a5 a6 a7 : Option Value} {r : List (Option Value)} {v : Value} (hc : v.category = 1) (hn : jnl a6 = true) : jSt (a0 :: a1 :: a2 :: a3 :: a4 :: a5 :: a6 :: a7 :: r) 7 v (a0 :: a1 :: a2 :: a3 :: a4 :: a5 :: a6 :: some v :: r) := jSt_s (jSt_s (jSt_s (jSt_s (jSt_s (jSt_s (jSt_s (jSt_0 hc _ _) (fun _ => hn)) (fun h => absurd h (by decide))) (fun h => absurd h (by decide))) (fun h => absurd h (by decide))) (fun h => absurd h (by decide))) (fun h => absurd h (by decide))) (fun h => absurd h (by decide))
theorem jstK7 {a0 a1 a2 a3 a4 a5 a6 a7 : Option Value} {r : List (Option Value)} {v : Value} (hc : v.category = 1) : jSt (a0 :: a1 :: a2 :: a3 :: a4 :: a5 :: a6 :: a7 :: r) 7 v (a0 :: a1 :: a2 :: a3 :: a4 :: a5 :: none :: some v :: r) := by
  have h : jSt (a0 :: a1 :: a2 :: a3 :: a4 :: a5 :: none :: a7 :: r) 7 v (a0 :: a1 :: a2 :: a3 :: a4 :: a5 :: none :: some v :: r) := jst7 hc rfl
  intro j u hj
  rcases h j u hj with h | ⟨h1, h2, h3, h4⟩
  · exact Or.inl h
  · refine Or.inr ⟨h1, h2, ?_, h4⟩
    by_cases e : j = 6
    · subst e
      simp at h3
    · rcases Nat.lt_or_ge j 6 with q | q
      · match j, q with
        | 0, _ => exact h3
        | 1, _ => exact h3
        | 2, _ => exact h3
        | 3, _ => exact h3
        | 4, _ => exact h3
        | 5, _ => exact h3
      · obtain ⟨i, rfl⟩ : ∃ i, j = i + 7 := ⟨j - 7, by omega⟩
        exact h3
theorem jst8 {a0 a1 a2 a3 a4 a5 a6 a7 a8 : Option Value} {r : List (Option Value)} {v : Value} (hc : v.category = 1) (hn : jnl a7 = true) : jSt (a0 :: a1 :: a2 :: a3 :: a4 :: a5 :: a6 :: a7 :: a8 :: r) 8 v (a0 :: a1 :: a2 :: a3 :: a4 :: a5 :: a6 :: a7 :: some v :: r) := jSt_s (jSt_s (jSt_s (jSt_s (jSt_s (jSt_s (jSt_s (jSt_s (jSt_0 hc _ _) (fun _ => hn)) (fun h => absurd h (by decide))) (fun h => absurd h (by decide))) (fun h => absurd h (by decide))) (fun h => absurd h (by decide))) (fun h => absurd h (by decide))) (fun h => absurd h (by decide))) (fun h => absurd h (by decide))
theorem jstK8 {a0 a1 a2 a3 a4 a5 a6 a7 a8 : Option Value} {r : List (Option Value)} {v : Value} (hc : v.category = 1) : jSt (a0 :: a1 :: a2 :: a3 :: a4 :: a5 :: a6 :: a7 :: a8 :: r) 8 v (a0 :: a1 :: a2 :: a3 :: a4 :: a5 :: a6 :: none :: some v :: r) := by
  have h : jSt (a0 :: a1 :: a2 :: a3 :: a4 :: a5 :: a6 :: none :: a8 :: r) 8 v (a0 :: a1 :: a2 :: a3 :: a4 :: a5 :: a6 :: none :: some v :: r) := jst8 hc rfl
  intro j u hj
  rcases h j u hj with h | ⟨h1, h2, h3, h4⟩
  · exact Or.inl h
  · refine Or.inr ⟨h1, h2, ?_, h4⟩
    by_cases e : j = 7
    · subst e
      simp at h3
    · rcases Nat.lt_or_ge j 7 with q | q
      · match j, q with
        | 0, _ => exact h3
        | 1, _ => exact h3
        | 2, _ => exact h3
        | 3, _ => exact h3
        | 4, _ => exact h3
        | 5, _ => exact h3
        | 6, _ => exact h3
      · obtain ⟨i, rfl⟩ : ∃ i, j = i + 8 := ⟨j - 8, by omega⟩
        exact h3
theorem jst9 {a0 a1 a2 a3 a4 a5 a6 a7 a8 a9 : Option Value} {r : List (Option Value)} {v : Value} (hc : v.category = 1) (hn : jnl a8 = true) : jSt (a0 :: a1 :: a2 :: a3 :: a4 :: a5 :: a6 :: a7 :: a8 :: a9 :: r) 9 v (a0 :: a1 :: a2 :: a3 :: a4 :: a5 :: a6 :: a7 :: a8 :: some v :: r) := jSt_s (jSt_s (jSt_s (jSt_s (jSt_s (jSt_s (jSt_s (jSt_s (jSt_s (jSt_0 hc _ _) (fun _ => hn)) (fun h => absurd h (by decide))) (fun h => absurd h (by decide))) (fun h => absurd h (by decide))) (fun h => absurd h (by decide))) (fun h => absurd h (by decide))) (fun h => absurd h (by decide))) (fun h => absurd h (by decide))) (fun h => absurd h (by decide))
theorem jstK9 {a0 a1 a2 a3 a4 a5 a6 a7 a8 a9 : Option Value} {r : List (Option Value)} {v : Value} (hc : v.category = 1) : jSt (a0 :: a1 :: a2 :: a3 :: a4 :: a5 :: a6 :: a7 :: a8 :: a9 :: r) 9 v (a0 :: a1 :: a2 :: a3 :: a4 :: a5 :: a6 :: a7 :: none :: some v :: r) := by
  have h : jSt (a0 :: a1 :: a2 :: a3 :: a4 :: a5 :: a6 :: a7 :: none :: a9 :: r) 9 v (a0 :: a1 :: a2 :: a3 :: a4 :: a5 :: a6 :: a7 :: none :: some v :: r) := jst9 hc rfl
  intro j u hj
  rcases h j u hj with h | ⟨h1, h2, h3, h4⟩
  · exact Or.inl h
  · refine Or.inr ⟨h1, h2, ?_, h4⟩
    by_cases e : j = 8
    · subst e
      simp at h3
    · rcases Nat.lt_or_ge j 8 with q | q
      · match j, q with
        | 0, _ => exact h3
        | 1, _ => exact h3
        | 2, _ => exact h3
        | 3, _ => exact h3
        | 4, _ => exact h3
        | 5, _ => exact h3
        | 6, _ => exact h3
        | 7, _ => exact h3
      · obtain ⟨i, rfl⟩ : ∃ i, j = i + 9 := ⟨j - 9, by omega⟩
        exact h3
theorem jst10 {a0 a1 a2 a3 a4 a5 a6 a7 a8 a9 a10 : Option Value} {r : List (Option Value)} {v : Value} (hc : v.category = 1) (hn : jnl a9 = true) : jSt (a0 :: a1 :: a2 :: a3 :: a4 :: a5 :: a6 :: a7 :: a8 :: a9 :: a10 :: r) 10 v (a0 :: a1 :: a2 :: a3 :: a4 :: a5 :: a6 :: a7 :: a8 :: a9 :: some v :: r) := jSt_s (jSt_s (jSt_s (jSt_s (jSt_s (jSt_s (jSt_s (jSt_s (jSt_s (jSt_s (jSt_0 hc _ _) (fun _ => hn)) (fun h => absurd h (by decide))) (fun h => absurd h (by decide))) (fun h => absurd h (by decide))) (fun h => absurd h (by decide))) (fun h => absurd h (by decide))) (fun h => absurd h (by decide))) (fun h => absurd h (by decide))) (fun h => absurd h (by decide))) (fun h => absurd h (by decide))
theorem jstK10 {a0 a1 a2 a3 a4 a5 a6 a7 a8 a9 a10 : Option Value} {r : List (Option Value)} {v : Value} (hc : v.category = 1) : jSt (a0 :: a1 :: a2 :: a3 :: a4 :: a5 :: a6 :: a7 :: a8 :: a9 :: a10 :: r) 10 v (a0 :: a1 :: a2 :: a3 :: a4 :: a5 :: a6 :: a7 :: a8 :: none :: some v :: r) := by
  have h : jSt (a0 :: a1 :: a2 :: a3 :: a4 :: a5 :: a6 :: a7 :: a8 :: none :: a10 :: r) 10 v (a0 :: a1 :: a2 :: a3 :: a4 :: a5 :: a6 :: a7 :: a8 :: none :: some v :: r) := jst10 hc rfl
  intro j u hj
  rcases h j u hj with h | ⟨h1, h2, h3, h4⟩
  · exact Or.inl h
  · refine Or.inr ⟨h1, h2, ?_, h4⟩
    by_cases e : j = 9
    · subst e
      simp at h3
    · rcases Nat.lt_or_ge j 9 with q | q
      · match j, q with
        | 0, _ => exact h3
        | 1, _ => exact h3
        | 2, _ => exact h3
        | 3, _ => exact h3
        | 4, _ => exact h3
        | 5, _ => exact h3
        | 6, _ => exact h3
        | 7, _ => exact h3
        | 8, _ => exact h3
      · obtain ⟨i, rfl⟩ : ∃ i, j = i + 10 := ⟨j - 10, by omega⟩
        exact h3
theorem jst11 {a0 a1 a2 a3 a4 a5 a6 a7 a8 a9 a10 a11 : Option Value} {r : List (Option Value)} {v : Value} (hc : v.category = 1) (hn : jnl a10 = true) : jSt (a0 :: a1 :: a2 :: a3 :: a4 :: a5 :: a6 :: a7 :: a8 :: a9 :: a10 :: a11 :: r) 11 v (a0 :: a1 :: a2 :: a3 :: a4 :: a5 :: a6 :: a7 :: a8 :: a9 :: a10 :: some v :: r) := jSt_s (jSt_s (jSt_s (jSt_s (jSt_s (jSt_s (jSt_s (jSt_s (jSt_s (jSt_s (jSt_s (jSt_0 hc _ _) (fun _ => hn)) (fun h => absurd h (by decide))) (fun h => absurd h (by decide))) (fun h => absurd h (by decide))) (fun h => absurd h (by decide))) (fun h => absurd h (by decide))) (fun h => absurd h (by decide))) (fun h => absurd h (by decide))) (fun h => absurd h (by decide))) (fun h => absurd h (by decide))) (fun h => absurd h (by decide))
theorem jstK11 {a0 a1 a2 a3 a4 a5 a6 a7 a8 a9 a10 a11 : Option Value} {r : List (Option Value)} {v : Value} (hc : v.category = 1) : jSt (a0 :: a1 :: a2 :: a3 :: a4 :: a5 :: a6 :: a7 :: a8 :: a9 :: a10 :: a11 :: r) 11 v (a0 :: a1 :: a2 :: a3 :: a4 :: a5 :: a6 :: a7 :: a8 :: a9 :: none :: some v :: r) := by
  have h : jSt (a0 :: a1 :: a2 :: a3 :: a4 :: a5 :: a6 :: a7 :: a8 :: a9 :: none :: a11 :: r) 11 v (a0 :: a1 :: a2 :: a3 :: a4 :: a5 :: a6 :: a7 :: a8 :: a9 :: none :: some v :: r) := jst11 hc rfl
  intro j u hj
  rcases h j u hj with h | ⟨h1, h2, h3, h4⟩
  · exact Or.inl h
  · refine Or.inr ⟨h1, h2, ?_, h4⟩
    by_cases e : j = 10
    · subst e
      simp at h3
    · rcases Nat.lt_or_ge j 10 with q | q
      · match j, q with
        | 0, _ => exact h3
        | 1, _ => exact h3
        | 2, _ => exact h3
        | 3, _ => exact h3
        | 4, _ => exact h3
        | 5, _ => exact h3
        | 6, _ => exact h3
        | 7, _ => exact h3
        | 8, _ => exact h3
        | 9, _ => exact h3
      · obtain ⟨i, rfl⟩ : ∃ i, j = i + 11 := ⟨j - 11, by omega⟩
        exact h3
theorem jst12 {a0 a1 a2 a3 a4 a5 a6 a7 a8 a9 a10 a11 a12 : Option Value} {r : List (Option Value)} {v : Value} (hc : v.category = 1) (hn : jnl a11 = true) : jSt (a0 :: a1 :: a2 :: a3 :: a4 :: a5 :: a6 :: a7 :: a8 :: a9 :: a10 :: a11 :: a12 :: r) 12 v (a0 :: a1 :: a2 :: a3 :: a4 :: a5 :: a6 :: a7 :: a8 :: a9 :: a10 :: a11 :: some v :: r) := jSt_s (jSt_s (jSt_s (jSt_s (jSt_s (jSt_s (jSt_s (jSt_s (jSt_s (jSt_s (jSt_s (jSt_s (jSt_0 hc _ _) (fun _ => hn)) (fun h => absurd h (by decide))) (fun h => absurd h (by decide))) (fun h => absurd h (by decide))) (fun h => absurd h (by decide))) (fun h => absurd h (by decide))) (fun h => absurd h (by decide))) (fun h => absurd h (by decide))) (fun h => absurd h (by decide))) (fun h => absurd h (by decide))) (fun h => absurd h (by decide))) (fun h => absurd h (by decide))
theorem jstK12 {a0 a1 a2 a3 a4 a5 a6 a7 a8 a9 a10 a11 a12 : Option Value} {r : List (Option Value)} {v : Value} (hc : v.category = 1) : jSt (a0 :: a1 :: a2 :: a3 :: a4 :: a5 :: a6 :: a7 :: a8 :: a9 :: a10 :: a11 :: a12 :: r) 12 v (a0 :: a1 :: a2 :: a3 :: a4 :: a5 :: a6 :: a7 :: a8 :: a9 :: a10 :: none :: some v :: r) := by
  have h : jSt (a0 :: a1 :: a2 :: a3 :: a4 :: a5 :: a6 :: a7 :: a8 :: a9 :: a10 :: none :: a12 :: r) 12 v (a0 :: a1 :: a2 :: a3 :: a4 :: a5 :: a6 :: a7 :: a8 :: a9 :: a10 :: none :: some v :: r) := jst12 hc rfl
  intro j u hj
  rcases h j u hj with h | ⟨h1, h2, h3, h4⟩
  · exact Or.inl h
  · refine Or.inr ⟨h1, h2, ?_, h4⟩
    by_cases e : j = 11
    · subst e
      simp at h3
    · rcases Nat.lt_or_ge j 11 with q | q
      · match j, q with
        | 0, _ => exact h3
        | 1, _ => exact h3
        | 2, _ => exact h3
        | 3, _ => exact h3
        | 4, _ => exact h3
        | 5, _ => exact h3
        | 6, _ => exact h3
        | 7, _ => exact h3
        | 8, _ => exact h3
        | 9, _ => exact h3
        | 10, _ => exact h3
      · obtain ⟨i, rfl⟩ : ∃ i, j = i + 12 := ⟨j - 12, by omega⟩
        exact h3
theorem jst13 {a0 a1 a2 a3 a4 a5 a6 a7 a8 a9 a10 a11 a12 a13 : Option Value} {r : List (Option Value)} {v : Value} (hc : v.category = 1) (hn : jnl a12 = true) : jSt (a0 :: a1 :: a2 :: a3 :: a4 :: a5 :: a6 :: a7 :: a8 :: a9 :: a10 :: a11 :: a12 :: a13 :: r) 13 v (a0 :: a1 :: a2 :: a3 :: a4 :: a5 :: a6 :: a7 :: a8 :: a9 :: a10 :: a11 :: a12 :: some v :: r) := jSt_s (jSt_s (jSt_s (jSt_s (jSt_s (jSt_s (jSt_s (jSt_s (jSt_s (jSt_s (jSt_s (jSt_s (jSt_s (jSt_0 hc _ _) (fun _ => hn)) (fun h => absurd h (by decide))) (fun h => absurd h (by decide))) (fun h => absurd h (by decide))) (fun h => absurd h (by decide))) (fun h => absurd h (by decide))) (fun h => absurd h (by decide))) (fun h => absurd h (by decide))) (fun h => absurd h (by decide))) (fun h => absurd h (by decide))) (fun h => absurd h (by decide))) (fun h => absurd h (by decide))) (fun h => absurd h (by decide))
theorem jstK13 {a0 a1 a2 a3 a4 a5 a6 a7 a8 a9 a10 a11 a12 a13 : Option Value} {r : List (Option Value)} {v : Value} (hc : v.category = 1) : jSt (a0 :: a1 :: a2 :: a3 :: a4 :: a5 :: a6 :: a7 :: a8 :: a9 :: a10 :: a11 :: a12 :: a13 :: r) 13 v (a0 :: a1 :: a2 :: a3 :: a4 :: a5 :: a6 :: a7 :: a8 :: a9 :: a10 :: a11 :: none :: some v :: r) := by
  have h : jSt (a0 :: a1 :: a2 :: a3 :: a4 :: a5 :: a6 :: a7 :: a8 :: a9 :: a10 :: a11 :: none :: a13 :: r) 13 v (a0 :: a1 :: a2 :: a3 :: a4 :: a5 :: a6 :: a7 :: a8 :: a9 :: a10 :: a11 :: none :: some v :: r) := jst13 hc rfl
  intro j u hj
  rcases h j u hj with h | ⟨h1, h2, h3, h4⟩
  · exact Or.inl h
  · refine Or.inr ⟨h1, h2, ?_, h4⟩
    by_cases e : j = 12
    · subst e
      simp at h3
    · rcases Nat.lt_or_ge j 12 with q | q
      · match j, q with
        | 0, _ => exact h3
        | 1, _ => exact h3
        | 2, _ => exact h3
        | 3, _ => exact h3
        | 4, _ => exact h3
        | 5, _ => exact h3
        | 6, _ => exact h3
        | 7, _ => exact h3
        | 8, _ => exact h3
        | 9, _ => exact h3
        | 10, _ => exact h3
        | 11, _ => exact h3
      · obtain ⟨i, rfl⟩ : ∃ i, j = i + 13 := ⟨j - 13, by omega⟩
        exact h3
theorem jst14 {a0 a1 a2 a3 a4 a5 a6 a7 a8 a9 a10 a11 a12 a13 a14 : Option Value} {r : List (Option Value)} {v : Value} (hc : v.category = 1) (hn : jnl a13 = true) : jSt (a0 :: a1 :: a2 :: a3 :: a4 :: a5 :: a6 :: a7 :: a8 :: a9 :: a10 :: a11 :: a12 :: a13 :: a14 :: r) 14 v (a0 :: a1 :: a2 :: a3 :: a4 :: a5 :: a6 :: a7 :: a8 :: a9 :: a10 :: a11 :: a12 :: a13 :: some v :: r) := jSt_s (jSt_s (jSt_s (jSt_s (jSt_s (jSt_s (jSt_s (jSt_s (jSt_s (jSt_s (jSt_s (jSt_s (jSt_s (jSt_s (jSt_0 hc _ _) (fun _ => hn)) (fun h => absurd h (by decide))) (fun h => absurd h (by decide))) (fun h => absurd h (by decide))) (fun h => absurd h (by decide))) (fun h => absurd h (by decide))) (fun h => absurd h (by decide))) (fun h => absurd h (by decide))) (fun h => absurd h (by decide))) (fun h => absurd h (by decide))) (fun h => absurd h (by decide))) (fun h => absurd h (by decide))) (fun h => absurd h (by decide))) (fun h => absurd h (by decide))
theorem jstK14 {a0 a1 a2 a3 a4 a5 a6 a7 a8 a9 a10 a11 a12 a13 a14 : Option Value} {r : List (Option Value)} {v : Value} (hc : v.category = 1) : jSt (a0 :: a1 :: a2 :: a3 :: a4 :: a5 :: a6 :: a7 :: a8 :: a9 :: a10 :: a11 :: a12 :: a13 :: a14 :: r) 14 v (a0 :: a1 :: a2 :: a3 :: a4 :: a5 :: a6 :: a7 :: a8 :: a9 :: a10 :: a11 :: a12 :: none :: some v :: r) := by
  have h : jSt (a0 :: a1 :: a2 :: a3 :: a4 :: a5 :: a6 :: a7 :: a8 :: a9 :: a10 :: a11 :: a12 :: none :: a14 :: r) 14 v (a0 :: a1 :: a2 :: a3 :: a4 :: a5 :: a6 :: a7 :: a8 :: a9 :: a10 :: a11 :: a12 :: none :: some v :: r) := jst14 hc rfl
  intro j u hj
  rcases h j u hj with h | ⟨h1, h2, h3, h4⟩
  · exact Or.inl h
  · refine Or.inr ⟨h1, h2, ?_, h4⟩
    by_cases e : j = 13
    · subst e
      simp at h3
    · rcases Nat.lt_or_ge j 13 with q | q
      · match j, q with
        | 0, _ => exact h3
        | 1, _ => exact h3
        | 2, _ => exact h3
        | 3, _ => exact h3
        | 4, _ => exact h3
        | 5, _ => exact h3
        | 6, _ => exact h3
        | 7, _ => exact h3
        | 8, _ => exact h3
        | 9, _ => exact h3
        | 10, _ => exact h3
        | 11, _ => exact h3
        | 12, _ => exact h3
      · obtain ⟨i, rfl⟩ : ∃ i, j = i + 14 := ⟨j - 14, by omega⟩
        exact h3
theorem jstL0 {x y : Option Value} {r : List (Option Value)} {v : Value} : jSt (x :: y :: r) 0 v (some v :: none :: r) := jSt_0L _ _ _
theorem jstL1 {a0 x y : Option Value} {r : List (Option Value)} {v : Value} (hn : jnl a0 = true) : jSt (a0 :: x :: y :: r) 1 v (a0 :: some v :: none :: r) := jSt_s (jSt_0L _ _ _) (fun _ => hn)
theorem jstL2 {a0 a1 x y : Option Value} {r : List (Option Value)} {v : Value} (hn : jnl a1 = true) : jSt (a0 :: a1 :: x :: y :: r) 2 v (a0 :: a1 :: some v :: none :: r) := jSt_s (jSt_s (jSt_0L _ _ _) (fun _ => hn)) (fun h => absurd h (by decide))
theorem jstL3 {a0 a1 a2 x y : Option Value} {r : List (Option Value)} {v : Value} (hn : jnl a2 = true) : jSt (a0 :: a1 :: a2 :: x :: y :: r) 3 v (a0 :: a1 :: a2 :: some v :: none :: r) := jSt_s (jSt_s (jSt_s (jSt_0L _ _ _) (fun _ => hn)) (fun h => absurd h (by decide))) (fun h => absurd h (by decide))
theorem jstL4 {a0 a1 a2 a3 x y : Option Value} {r : List (Option Value)} {v : Value} (hn : jnl a3 = true) : jSt (a0 :: a1 :: a2 :: a3 :: x :: y :: r) 4 v (a0 :: a1 :: a2 :: a3 :: some v :: none :: r) := jSt_s (jSt_s (jSt_s (jSt_s (jSt_0L _ _ _) (fun _ => hn)) (fun h => absurd h (by decide))) (fun h => absurd h (by decide))) (fun h => absurd h (by decide))
theorem jstL5 {a0 a1 a2 a3 a4 x y : Option Value} {r : List (Option Value)} {v : Value} (hn : jnl a4 = true) : jSt (a0 :: a1 :: a2 :: a3 :: a4 :: x :: y :: r) 5 v (a0 :: a1 :: a2 :: a3 :: a4 :: some v :: none :: r) := jSt_s (jSt_s (jSt_s (jSt_s (jSt_s (jSt_0L _ _ _) (fun _ => hn)) (fun h => absurd h (by decide))) (fun h => absurd h (by decide))) (fun h => absurd h (by decide))) (fun h => absurd h (by decide))
theorem jstL6 {a0 a1 a2 a3 a4 a5 x y : Option Value} {r : List (Option Value)} {v : Value} (hn : jnl a5 = true) : jSt (a0 :: a1 :: a2 :: a3 :: a4 :: a5 :: x :: y :: r) 6 v (a0 :: a1 :: a2 :: a3 :: a4 :: a5 :: some v :: none :: r) := jSt_s (jSt_s (jSt_s (jSt_s (jSt_s (jSt_s (jSt_0L _ _ _) (fun _ => hn)) (fun h => absurd h (by decide))) (fun h => absurd h (by decide))) (fun h => absurd h (by decide))) (fun h => absurd h (by decide))) (fun h => absurd h (by decide))
theorem jstL7 {a0 a1 a2 a3 a4 a5 a6 x y : Option Value} {r : List (Option Value)} {v : Value} (hn : jnl a6 = true) : jSt (a0 :: a1 :: a2 :: a3 :: a4 :: a5 :: a6 :: x :: y :: r) 7 v (a0 :: a1 :: a2 :: a3 :: a4 :: a5 :: a6 :: some v :: none :: r) := jSt_s (jSt_s (jSt_s (jSt_s (jSt_s (jSt_s (jSt_s (jSt_0L _ _ _) (fun _ => hn)) (fun h => absurd h (by decide))) (fun h => absurd h (by decide))) (fun h => absurd h (by decide))) (fun h => absurd h (by decide))) (fun h => absurd h (by decide))) (fun h => absurd h (by decide))
theorem jstL8 {a0 a1 a2 a3 a4 a5 a6 a7 x y : Option Value} {r : List (Option Value)} {v : Value} (hn : jnl a7 = true) : jSt (a0 :: a1 :: a2 :: a3 :: a4 :: a5 :: a6 :: a7 :: x :: y :: r) 8 v (a0 :: a1 :: a2 :: a3 :: a4 :: a5 :: a6 :: a7 :: some v :: none :: r) := jSt_s (jSt_s (jSt_s (jSt_s (jSt_s (jSt_s (jSt_s (jSt_s (jSt_0L _ _ _) (fun _ => hn)) (fun h => absurd h (by decide))) (fun h => absurd h (by decide))) (fun h => absurd h (by decide))) (fun h => absurd h (by decide))) (fun h => absurd h (by decide))) (fun h => absurd h (by decide))) (fun h => absurd h (by decide))
theorem jstL9 {a0 a1 a2 a3 a4 a5 a6 a7 a8 x y : Option Value} {r : List (Option Value)} {v : Value} (hn : jnl a8 = true) : jSt (a0 :: a1 :: a2 :: a3 :: a4 :: a5 :: a6 :: a7 :: a8 :: x :: y :: r) 9 v (a0 :: a1 :: a2 :: a3 :: a4 :: a5 :: a6 :: a7 :: a8 :: some v :: none :: r) := jSt_s (jSt_s (jSt_s (jSt_s (jSt_s (jSt_s (jSt_s (jSt_s (jSt_s (jSt_0L _ _ _) (fun _ => hn)) (fun h => absurd h (by decide))) (fun h => absurd h (by decide))) (fun h => absurd h (by decide))) (fun h => absurd h (by decide))) (fun h => absurd h (by decide))) (fun h => absurd h (by decide))) (fun h => absurd h (by decide))) (fun h => absurd h (by decide))
theorem jstL10 {a0 a1 a2 a3 a4 a5 a6 a7 a8 a9 x y : Option Value} {r : List (Option Value)} {v : Value} (hn : jnl a9 = true) : jSt (a0 :: a1 :: a2 :: a3 :: a4 :: a5 :: a6 :: a7 :: a8 :: a9 :: x :: y :: r) 10 v (a0 :: a1 :: a2 :: a3 :: a4 :: a5 :: a6 :: a7 :: a8 :: a9 :: some v :: none :: r) := jSt_s (jSt_s (jSt_s (jSt_s (jSt_s (jSt_s (jSt_s (jSt_s (jSt_s (jSt_s (jSt_0L _ _ _) (fun _ => hn)) (fun h => absurd h (by decide))) (fun h => absurd h (by decide))) (fun h => absurd h (by decide))) (fun h => absurd h (by decide))) (fun h => absurd h (by decide))) (fun h => absurd h (by decide))) (fun h => absurd h (by decide))) (fun h => absurd h (by decide))) (fun h => absurd h (by decide))
theorem jstL11 {a0 a1 a2 a3 a4 a5 a6 a7 a8 a9 a10 x y : Option Value} {r : List (Option Value)} {v : Value} (hn : jnl a10 = true) : jSt (a0 :: a1 :: a2 :: a3 :: a4 :: a5 :: a6 :: a7 :: a8 :: a9 :: a10 :: x :: y :: r) 11 v (a0 :: a1 :: a2 :: a3 :: a4 :: a5 :: a6 :: a7 :: a8 :: a9 :: a10 :: some v :: none :: r) := jSt_s (jSt_s (jSt_s (jSt_s (jSt_s (jSt_s (jSt_s (jSt_s (jSt_s (jSt_s (jSt_s (jSt_0L _ _ _) (fun _ => hn)) (fun h => absurd h (by decide))) (fun h => absurd h (by decide))) (fun h => absurd h (by decide))) (fun h => absurd h (by decide))) (fun h => absurd h (by decide))) (fun h => absurd h (by decide))) (fun h => absurd h (by decide))) (fun h => absurd h (by decide))) (fun h => absurd h (by decide))) (fun h => absurd h (by decide))
theorem jstL12 {a0 a1 a2 a3 a4 a5 a6 a7 a8 a9 a10 a11 x y : Option Value} {r : List (Option Value)} {v : Value} (hn : jnl a11 = true) : jSt (a0 :: a1 :: a2 :: a3 :: a4 :: a5 :: a6 :: a7 :: a8 :: a9 :: a10 :: a11 :: x :: y :: r) 12 v (a0 :: a1 :: a2 :: a3 :: a4 :: a5 :: a6 :: a7 :: a8 :: a9 :: a10 :: a11 :: some v :: none :: r) := jSt_s (jSt_s (jSt_s (jSt_s (jSt_s (jSt_s (jSt_s (jSt_s (jSt_s (jSt_s (jSt_s (jSt_s (jSt_0L _ _ _) (fun _ => hn)) (fun h => absurd h (by decide))) (fun h => absurd h (by decide))) (fun h => absurd h (by decide))) (fun h => absurd h (by decide))) (fun h => absurd h (by decide))) (fun h => absurd h (by decide))) (fun h => absurd h (by decide))) (fun h => absurd h (by decide))) (fun h => absurd h (by decide))) (fun h => absurd h (by decide))) (fun h => absurd h (by decide))
theorem l84_0 : 0 < 84 := by decide
theorem l84_1 : 1 < 84 := by decide
theorem l84_2 : 2 < 84 := by decide
theorem l84_3 : 3 < 84 := by decide
theorem l84_4 : 4 < 84 := by decide
theorem l84_5 : 5 < 84 := by decide
theorem l84_6 : 6 < 84 := by decide
theorem l84_7 : 7 < 84 := by decide
theorem l84_8 : 8 < 84 := by decide
theorem l84_9 : 9 < 84 := by decide
theorem l84_10 : 10 < 84 := by decide
theorem l84_11 : 11 < 84 := by decide
theorem l84_12 : 12 < 84 := by decide
theorem l84_13 : 13 < 84 := by decide
theorem l84_14 : 14 < 84 := by decide
theorem l84_15 : 15 < 84 := by decide
theorem l84_16 : 16 < 84 := by decide
theorem l84_17 : 17 < 84 := by decide
theorem l84_18 : 18 < 84 := by decide
theorem l84_19 : 19 < 84 := by decide
theorem l84_20 : 20 < 84 := by decide
theorem l84_21 : 21 < 84 := by decide
theorem l84_22 : 22 < 84 := by decide
theorem l84_23 : 23 < 84 := by decide
theorem l84_24 : 24 < 84 := by decide
theorem l84_25 : 25 < 84 := by decide
theorem l84_26 : 26 < 84 := by decide
theorem l84_27 : 27 < 84 := by decide
theorem l84_28 : 28 < 84 := by decide
theorem l84_29 : 29 < 84 := by decide
theorem l84_30 : 30 < 84 := by decide
theorem l84_31 : 31 < 84 := by decide
theorem l84_32 : 32 < 84 := by decide
theorem l84_33 : 33 < 84 := by decide
theorem l84_34 : 34 < 84 := by decide
theorem l84_35 : 35 < 84 := by decide
theorem l84_36 : 36 < 84 := by decide
theorem l84_37 : 37 < 84 := by decide
theorem l84_38 : 38 < 84 := by decide
theorem l84_39 : 39 < 84 := by decide
theorem l84_40 : 40 < 84 := by decide
theorem l84_41 : 41 < 84 := by decide
theorem l84_42 : 42 < 84 := by decide
theorem l84_43 : 43 < 84 := by decide
theorem l84_44 : 44 < 84 := by decide
theorem l84_45 : 45 < 84 := by decide
theorem l84_46 : 46 < 84 := by decide
theorem l84_47 : 47 < 84 := by decide
theorem l84_48 : 48 < 84 := by decide
theorem l84_49 : 49 < 84 := by decide
theorem l84_50 : 50 < 84 := by decide
theorem l84_51 : 51 < 84 := by decide
theorem l84_52 : 52 < 84 := by decide
theorem l84_53 : 53 < 84 := by decide
theorem l84_54 : 54 < 84 := by decide
theorem l84_55 : 55 < 84 := by decide
theorem l84_56 : 56 < 84 := by decide
theorem l84_57 : 57 < 84 := by decide
theorem l84_58 : 58 < 84 := by decide
theorem l84_59 : 59 < 84 := by decide
theorem l84_60 : 60 < 84 := by decide
theorem l84_61 : 61 < 84 := by decide
theorem l84_62 : 62 < 84 := by decide
theorem l84_63 : 63 < 84 := by decide
theorem l84_64 : 64 < 84 := by decide
theorem l84_65 : 65 < 84 := by decide
theorem l84_66 : 66 < 84 := by decide
theorem l84_67 : 67 < 84 := by decide
theorem l84_68 : 68 < 84 := by decide
theorem l84_69 : 69 < 84 := by decide
theorem l84_70 : 70 < 84 := by decide
theorem l84_71 : 71 < 84 := by decide
theorem l84_72 : 72 < 84 := by decide
theorem l84_73 : 73 < 84 := by decide
theorem l84_74 : 74 < 84 := by decide
theorem l84_75 : 75 < 84 := by decide
theorem l84_76 : 76 < 84 := by decide
theorem l84_77 : 77 < 84 := by decide
theorem l84_78 : 78 < 84 := by decide
theorem l84_79 : 79 < 84 := by decide
theorem l84_80 : 80 < 84 := by decide
theorem l84_81 : 81 < 84 := by decide
theorem l84_82 : 82 < 84 := by decide
theorem l84_83 : 83 < 84 := by decide
theorem nIc_0 : (0 : Int32) = nI 0 := by decide +kernel
theorem nIc_1 : (1 : Int32) = nI 1 := by decide +kernel
theorem nIc_2 : (2 : Int32) = nI 2 := by decide +kernel
theorem nIc_3 : (3 : Int32) = nI 3 := by decide +kernel
theorem nIc_4 : (4 : Int32) = nI 4 := by decide +kernel
theorem nIc_5 : (5 : Int32) = nI 5 := by decide +kernel
theorem nIc_6 : (6 : Int32) = nI 6 := by decide +kernel
theorem nIc_7 : (7 : Int32) = nI 7 := by decide +kernel
theorem nIc_8 : (8 : Int32) = nI 8 := by decide +kernel
theorem nIc_9 : (9 : Int32) = nI 9 := by decide +kernel
theorem nIc_10 : (10 : Int32) = nI 10 := by decide +kernel
theorem nIc_11 : (11 : Int32) = nI 11 := by decide +kernel
theorem nIc_12 : (12 : Int32) = nI 12 := by decide +kernel
theorem nIc_13 : (13 : Int32) = nI 13 := by decide +kernel
theorem nIc_14 : (14 : Int32) = nI 14 := by decide +kernel
theorem nIc_15 : (15 : Int32) = nI 15 := by decide +kernel
theorem nIc_16 : (16 : Int32) = nI 16 := by decide +kernel
theorem nIc_17 : (17 : Int32) = nI 17 := by decide +kernel
theorem nIc_18 : (18 : Int32) = nI 18 := by decide +kernel
theorem nIc_19 : (19 : Int32) = nI 19 := by decide +kernel
theorem nIc_20 : (20 : Int32) = nI 20 := by decide +kernel
theorem nIc_21 : (21 : Int32) = nI 21 := by decide +kernel
theorem nIc_22 : (22 : Int32) = nI 22 := by decide +kernel
theorem nIc_23 : (23 : Int32) = nI 23 := by decide +kernel
theorem nIc_24 : (24 : Int32) = nI 24 := by decide +kernel
theorem nIc_25 : (25 : Int32) = nI 25 := by decide +kernel
theorem nIc_26 : (26 : Int32) = nI 26 := by decide +kernel
theorem nIc_27 : (27 : Int32) = nI 27 := by decide +kernel
theorem nIc_28 : (28 : Int32) = nI 28 := by decide +kernel
theorem nIc_29 : (29 : Int32) = nI 29 := by decide +kernel
theorem nIc_30 : (30 : Int32) = nI 30 := by decide +kernel
theorem nIc_31 : (31 : Int32) = nI 31 := by decide +kernel
theorem nIc_32 : (32 : Int32) = nI 32 := by decide +kernel
theorem nIc_33 : (33 : Int32) = nI 33 := by decide +kernel
theorem nIc_34 : (34 : Int32) = nI 34 := by decide +kernel
theorem nIc_35 : (35 : Int32) = nI 35 := by decide +kernel
theorem nIc_36 : (36 : Int32) = nI 36 := by decide +kernel
theorem nIc_37 : (37 : Int32) = nI 37 := by decide +kernel
theorem nIc_38 : (38 : Int32) = nI 38 := by decide +kernel
theorem nIc_39 : (39 : Int32) = nI 39 := by decide +kernel
theorem nIc_40 : (40 : Int32) = nI 40 := by decide +kernel
theorem nIc_41 : (41 : Int32) = nI 41 := by decide +kernel
theorem nIc_42 : (42 : Int32) = nI 42 := by decide +kernel
theorem nIc_43 : (43 : Int32) = nI 43 := by decide +kernel
theorem nIc_44 : (44 : Int32) = nI 44 := by decide +kernel
theorem nIc_45 : (45 : Int32) = nI 45 := by decide +kernel
theorem nIc_46 : (46 : Int32) = nI 46 := by decide +kernel
theorem nIc_47 : (47 : Int32) = nI 47 := by decide +kernel
theorem nIc_48 : (48 : Int32) = nI 48 := by decide +kernel
theorem nIc_49 : (49 : Int32) = nI 49 := by decide +kernel
theorem nIc_50 : (50 : Int32) = nI 50 := by decide +kernel
theorem nIc_51 : (51 : Int32) = nI 51 := by decide +kernel
theorem nIc_52 : (52 : Int32) = nI 52 := by decide +kernel
theorem nIc_53 : (53 : Int32) = nI 53 := by decide +kernel
theorem nIc_54 : (54 : Int32) = nI 54 := by decide +kernel
theorem nIc_55 : (55 : Int32) = nI 55 := by decide +kernel
theorem nIc_56 : (56 : Int32) = nI 56 := by decide +kernel
theorem nIc_57 : (57 : Int32) = nI 57 := by decide +kernel
theorem nIc_58 : (58 : Int32) = nI 58 := by decide +kernel
theorem nIc_59 : (59 : Int32) = nI 59 := by decide +kernel
theorem nIc_60 : (60 : Int32) = nI 60 := by decide +kernel
theorem nIc_61 : (61 : Int32) = nI 61 := by decide +kernel
theorem nIc_62 : (62 : Int32) = nI 62 := by decide +kernel
theorem nIc_63 : (63 : Int32) = nI 63 := by decide +kernel
theorem nIc_64 : (64 : Int32) = nI 64 := by decide +kernel
theorem nIc_65 : (65 : Int32) = nI 65 := by decide +kernel
theorem nIc_66 : (66 : Int32) = nI 66 := by decide +kernel
theorem nIc_67 : (67 : Int32) = nI 67 := by decide +kernel
theorem nIc_68 : (68 : Int32) = nI 68 := by decide +kernel
theorem nIc_69 : (69 : Int32) = nI 69 := by decide +kernel
theorem nIc_70 : (70 : Int32) = nI 70 := by decide +kernel
theorem nIc_71 : (71 : Int32) = nI 71 := by decide +kernel
theorem nIc_72 : (72 : Int32) = nI 72 := by decide +kernel
theorem nIc_73 : (73 : Int32) = nI 73 := by decide +kernel
theorem nIc_74 : (74 : Int32) = nI 74 := by decide +kernel
theorem nIc_75 : (75 : Int32) = nI 75 := by decide +kernel
theorem nIc_76 : (76 : Int32) = nI 76 := by decide +kernel
theorem nIc_77 : (77 : Int32) = nI 77 := by decide +kernel
theorem nIc_78 : (78 : Int32) = nI 78 := by decide +kernel
theorem nIc_79 : (79 : Int32) = nI 79 := by decide +kernel
theorem nIc_80 : (80 : Int32) = nI 80 := by decide +kernel
theorem nIc_81 : (81 : Int32) = nI 81 := by decide +kernel
theorem nIc_82 : (82 : Int32) = nI 82 := by decide +kernel
theorem nIc_83 : (83 : Int32) = nI 83 := by decide +kernel
theorem nIc_84 : (84 : Int32) = nI 84 := by decide +kernel
theorem nIc_85 : (85 : Int32) = nI 85 := by decide +kernel
theorem nIc_86 : (86 : Int32) = nI 86 := by decide +kernel
theorem nIc_87 : (87 : Int32) = nI 87 := by decide +kernel
theorem nIc_88 : (88 : Int32) = nI 88 := by decide +kernel
theorem nIc_89 : (89 : Int32) = nI 89 := by decide +kernel
theorem nIc_90 : (90 : Int32) = nI 90 := by decide +kernel
theorem nIc_91 : (91 : Int32) = nI 91 := by decide +kernel
theorem nIc_92 : (92 : Int32) = nI 92 := by decide +kernel
theorem nIc_93 : (93 : Int32) = nI 93 := by decide +kernel
theorem nIc_94 : (94 : Int32) = nI 94 := by decide +kernel
theorem nIc_95 : (95 : Int32) = nI 95 := by decide +kernel
theorem nIc_96 : (96 : Int32) = nI 96 := by decide +kernel
theorem nIc_97 : (97 : Int32) = nI 97 := by decide +kernel
theorem nIc_98 : (98 : Int32) = nI 98 := by decide +kernel
theorem nIc_99 : (99 : Int32) = nI 99 := by decide +kernel
theorem nIc_100 : (100 : Int32) = nI 100 := by decide +kernel
theorem nIc_101 : (101 : Int32) = nI 101 := by decide +kernel
theorem nIc_102 : (102 : Int32) = nI 102 := by decide +kernel
theorem nIc_103 : (103 : Int32) = nI 103 := by decide +kernel
theorem nIc_104 : (104 : Int32) = nI 104 := by decide +kernel
theorem nIc_105 : (105 : Int32) = nI 105 := by decide +kernel
theorem nIc_106 : (106 : Int32) = nI 106 := by decide +kernel
theorem nIc_107 : (107 : Int32) = nI 107 := by decide +kernel
theorem nIc_108 : (108 : Int32) = nI 108 := by decide +kernel
theorem nIc_109 : (109 : Int32) = nI 109 := by decide +kernel
theorem nIc_110 : (110 : Int32) = nI 110 := by decide +kernel
theorem nIc_111 : (111 : Int32) = nI 111 := by decide +kernel
theorem nIc_112 : (112 : Int32) = nI 112 := by decide +kernel
theorem nIc_113 : (113 : Int32) = nI 113 := by decide +kernel
theorem nIc_114 : (114 : Int32) = nI 114 := by decide +kernel
theorem nIc_115 : (115 : Int32) = nI 115 := by decide +kernel
theorem nIc_116 : (116 : Int32) = nI 116 := by decide +kernel
theorem nIc_117 : (117 : Int32) = nI 117 := by decide +kernel
theorem nIc_118 : (118 : Int32) = nI 118 := by decide +kernel
theorem nIc_119 : (119 : Int32) = nI 119 := by decide +kernel
theorem nIc_120 : (120 : Int32) = nI 120 := by decide +kernel
theorem nIc_121 : (121 : Int32) = nI 121 := by decide +kernel
theorem nIc_122 : (122 : Int32) = nI 122 := by decide +kernel
theorem nIc_123 : (123 : Int32) = nI 123 := by decide +kernel
theorem nIc_124 : (124 : Int32) = nI 124 := by decide +kernel
theorem nIc_125 : (125 : Int32) = nI 125 := by decide +kernel
theorem nIc_126 : (126 : Int32) = nI 126 := by decide +kernel
theorem nIc_127 : (127 : Int32) = nI 127 := by decide +kernel
theorem nIc_128 : (128 : Int32) = nI 128 := by decide +kernel
theorem nIc_129 : (129 : Int32) = nI 129 := by decide +kernel
theorem nIc_140 : (140 : Int32) = nI 140 := by decide +kernel
theorem nIc_141 : (141 : Int32) = nI 141 := by decide +kernel
theorem nIc_201 : (201 : Int32) = nI 201 := by decide +kernel
theorem nIc_261 : (261 : Int32) = nI 261 := by decide +kernel
theorem nIc_262 : (262 : Int32) = nI 262 := by decide +kernel
theorem nIc_322 : (322 : Int32) = nI 322 := by decide +kernel
theorem nIc_382 : (382 : Int32) = nI 382 := by decide +kernel
theorem nIc_255 : (255 : Int32) = nI 255 := by decide +kernel
theorem nIc_1000 : (1000 : Int32) = nI 1000 := by decide +kernel
theorem jroom_of {Γ : jΓ} {d nL : Nat} (h : (Nat.ble (d + 1) (jR Γ).frames && (Nat.ble (8 + (nL + 11) + 40 * d) (jR Γ).locals && (Nat.ble (jcl Γ) (jR Γ).cells && Nat.ble (jsl Γ) (jR Γ).slots))) = true) : jroom Γ d nL := by
  simp only [Bool.and_eq_true] at h
  exact ⟨⟨Nat.le_of_ble_eq_true h.1, Nat.le_of_ble_eq_true h.2.1⟩, Nat.le_of_ble_eq_true h.2.2.1, Nat.le_of_ble_eq_true h.2.2.2⟩
theorem jadd {x y : Int32} {a b : Nat} (h1 : x = nI a) (h2 : y = nI b) : x + y = nI (a + b) := by rw [h1, h2, nI_add]
theorem jmul {x y : Int32} {a b : Nat} (h1 : x = nI a) (h2 : y = nI b) : x * y = nI (a * b) := by rw [h1, h2]; exact (Int32.ofNat_mul a b).symm
theorem jsub {x y : Int32} {a b : Nat} (h1 : x = nI a) (h2 : y = nI b) (h : b ≤ a) : x - y = nI (a - b) := by
  rw [h1, h2]
  have e : nI a = nI (a - b) + nI b := by rw [nI_add]; congr 1; omega
  rw [e, Int32.add_sub_cancel]
theorem pn0 : plainName RX0 = true := by decide +kernel
theorem pn1 : plainName RX1 = true := by decide +kernel
theorem pn2 : plainName RX2 = true := by decide +kernel
theorem pn3 : plainName RX3 = true := by decide +kernel
theorem pn4 : plainName RX4 = true := by decide +kernel
theorem pn5 : plainName RX5 = true := by decide +kernel
theorem pn6 : plainName RX6 = true := by decide +kernel
theorem pn7 : plainName RX7 = true := by decide +kernel
theorem pnInteger : plainName "java/lang/Integer" = true := by decide +kernel
theorem pnString : plainName "java/lang/String" = true := by decide +kernel
theorem pnStringLatin1 : plainName "java/lang/StringLatin1" = true := by decide +kernel
theorem pnStringUTF16 : plainName "java/lang/StringUTF16" = true := by decide +kernel
theorem J0_mmax {G : jG} {Γ : jΓ} {w : jWd} {pc pc' idx : Nat} {ls : List (Option Value)} {st : List Value} {x y : Int32} (hd : decode (jcc Γ) pc = .ok (.invokestatic idx, 3)) (hk : Cond.methodLink (jown Γ) idx Lib.Math.max.name ∈ jTbl) (hr : (Nat.ble 1 (jR Γ).frames && (Nat.ble ((st.map fun v => v.category).sum + 13) (jR Γ).locals && (Nat.ble (jcl Γ) (jR Γ).cells && Nat.ble (jsl Γ) (jR Γ).slots))) = true) (hp : pc' = pc + 3) (k : J0 G Γ w pc' ls (.int (if x < y then y else x) :: st)) : J0 G Γ w pc ls (.int y :: .int x :: st) := by
  subst hp
  simp only [Bool.and_eq_true] at hr
  intro p e s m args below meth c H locs lsA Hs hC hP hD hS hl
  exact va_mmax hC.1 hC.2.1 (by rw [hC.2.2.2.2.1]; exact hl.1.symm) hC.2.2.2.2.2.1 (hC.2.2.2.2.2.2.1 _ hk) (hC.2.2.2.2.2.2.1 _ sm_mmax) (hC.2.2.2.2.2.2.1 _ im_Math) (hC.2.2.2.2.2.2.1 _ cm_mmax) (Nat.le_of_ble_eq_true hr.1) (by rw [jcats]; exact Nat.le_of_ble_eq_true hr.2.1) (Nat.le_of_ble_eq_true hr.2.2.1) (Nat.le_of_ble_eq_true hr.2.2.2) hd (k p e s m args below meth c H locs lsA Hs hC hP hD hS hl)
theorem J0_mmin {G : jG} {Γ : jΓ} {w : jWd} {pc pc' idx : Nat} {ls : List (Option Value)} {st : List Value} {x y : Int32} (hd : decode (jcc Γ) pc = .ok (.invokestatic idx, 3)) (hk : Cond.methodLink (jown Γ) idx Lib.Math.min.name ∈ jTbl) (hr : (Nat.ble 1 (jR Γ).frames && (Nat.ble ((st.map fun v => v.category).sum + 13) (jR Γ).locals && (Nat.ble (jcl Γ) (jR Γ).cells && Nat.ble (jsl Γ) (jR Γ).slots))) = true) (hp : pc' = pc + 3) (k : J0 G Γ w pc' ls (.int (if y < x then y else x) :: st)) : J0 G Γ w pc ls (.int y :: .int x :: st) := by
  subst hp
  simp only [Bool.and_eq_true] at hr
  intro p e s m args below meth c H locs lsA Hs hC hP hD hS hl
  exact va_mmin hC.1 hC.2.1 (by rw [hC.2.2.2.2.1]; exact hl.1.symm) hC.2.2.2.2.2.1 (hC.2.2.2.2.2.2.1 _ hk) (hC.2.2.2.2.2.2.1 _ sm_mmin) (hC.2.2.2.2.2.2.1 _ im_Math) (hC.2.2.2.2.2.2.1 _ cm_mmin) (Nat.le_of_ble_eq_true hr.1) (by rw [jcats]; exact Nat.le_of_ble_eq_true hr.2.1) (Nat.le_of_ble_eq_true hr.2.2.1) (Nat.le_of_ble_eq_true hr.2.2.2) hd (k p e s m args below meth c H locs lsA Hs hC hP hD hS hl)
theorem J0_mmaxL {G : jG} {Γ : jΓ} {w : jWd} {pc pc' idx : Nat} {ls : List (Option Value)} {st : List Value} {x y : Int64} (hd : decode (jcc Γ) pc = .ok (.invokestatic idx, 3)) (hk : Cond.methodLink (jown Γ) idx Lib.MathLoose.max_long.x ∈ jTbl) (hr : (Nat.ble 1 (jR Γ).frames && (Nat.ble ((st.map fun v => v.category).sum + 15) (jR Γ).locals && (Nat.ble (jcl Γ) (jR Γ).cells && Nat.ble (jsl Γ) (jR Γ).slots))) = true) (hp : pc' = pc + 3) (k : J0 G Γ w pc' ls (.long (if y < x then x else y) :: st)) : J0 G Γ w pc ls (.long y :: .long x :: st) := by
  subst hp
  simp only [Bool.and_eq_true] at hr
  intro p e s m args below meth c H locs lsA Hs hC hP hD hS hl
  exact va_mmax_long hC.1 hC.2.1 (by rw [hC.2.2.2.2.1]; exact hl.1.symm) hC.2.2.2.2.2.1 (hC.2.2.2.2.2.2.1 _ hk) (hC.2.2.2.2.2.2.1 _ sm_mmaxL) (hC.2.2.2.2.2.2.1 _ im_Math) (hC.2.2.2.2.2.2.1 _ cm_mmaxL) (Nat.le_of_ble_eq_true hr.1) (by rw [jcats]; exact Nat.le_of_ble_eq_true hr.2.1) (Nat.le_of_ble_eq_true hr.2.2.1) (Nat.le_of_ble_eq_true hr.2.2.2) hd (k p e s m args below meth c H locs lsA Hs hC hP hD hS hl)
theorem J0_mabsL {G : jG} {Γ : jΓ} {w : jWd} {pc pc' idx : Nat} {ls : List (Option Value)} {st : List Value} {x : Int64} (hd : decode (jcc Γ) pc = .ok (.invokestatic idx, 3)) (hk : Cond.methodLink (jown Γ) idx Lib.MathLoose.abs_long.x ∈ jTbl) (hr : (Nat.ble 1 (jR Γ).frames && (Nat.ble ((st.map fun v => v.category).sum + 13) (jR Γ).locals && (Nat.ble (jcl Γ) (jR Γ).cells && Nat.ble (jsl Γ) (jR Γ).slots))) = true) (hp : pc' = pc + 3) (k : J0 G Γ w pc' ls (.long (if 0 < x then x else -x) :: st)) : J0 G Γ w pc ls (.long x :: st) := by
  subst hp
  simp only [Bool.and_eq_true] at hr
  intro p e s m args below meth c H locs lsA Hs hC hP hD hS hl
  exact va_mabs_long hC.1 hC.2.1 (by rw [hC.2.2.2.2.1]; exact hl.1.symm) hC.2.2.2.2.2.1 (hC.2.2.2.2.2.2.1 _ hk) (hC.2.2.2.2.2.2.1 _ sm_mabsL) (hC.2.2.2.2.2.2.1 _ im_Math) (hC.2.2.2.2.2.2.1 _ cm_mabsL) (Nat.le_of_ble_eq_true hr.1) (by rw [jcats]; exact Nat.le_of_ble_eq_true hr.2.1) (Nat.le_of_ble_eq_true hr.2.2.1) (Nat.le_of_ble_eq_true hr.2.2.2) hd (k p e s m args below meth c H locs lsA Hs hC hP hD hS hl)
theorem J_mmax {G : jG} {Γ : jΓ} {w : jWd} {pc pc' idx : Nat} {ls : List (Option Value)} {st : List Value} {x y : Int32} (hd : decode (jcc Γ) pc = .ok (.invokestatic idx, 3)) (hk : Cond.methodLink (jown Γ) idx Lib.Math.max.name ∈ jTbl) (hr : (Nat.ble 1 (jR Γ).frames && (Nat.ble ((st.map fun v => v.category).sum + 13) (jR Γ).locals && (Nat.ble (jcl Γ) (jR Γ).cells && Nat.ble (jsl Γ) (jR Γ).slots))) = true) (hp : pc' = pc + 3) (k : J G Γ w pc' ls (.int (if x < y then y else x) :: st)) : J G Γ w pc ls (.int y :: .int x :: st) := fun w2 hqw => J0_mmax hd hk hr hp (k w2 hqw)
theorem J_mmin {G : jG} {Γ : jΓ} {w : jWd} {pc pc' idx : Nat} {ls : List (Option Value)} {st : List Value} {x y : Int32} (hd : decode (jcc Γ) pc = .ok (.invokestatic idx, 3)) (hk : Cond.methodLink (jown Γ) idx Lib.Math.min.name ∈ jTbl) (hr : (Nat.ble 1 (jR Γ).frames && (Nat.ble ((st.map fun v => v.category).sum + 13) (jR Γ).locals && (Nat.ble (jcl Γ) (jR Γ).cells && Nat.ble (jsl Γ) (jR Γ).slots))) = true) (hp : pc' = pc + 3) (k : J G Γ w pc' ls (.int (if y < x then y else x) :: st)) : J G Γ w pc ls (.int y :: .int x :: st) := fun w2 hqw => J0_mmin hd hk hr hp (k w2 hqw)
theorem J_mmaxL {G : jG} {Γ : jΓ} {w : jWd} {pc pc' idx : Nat} {ls : List (Option Value)} {st : List Value} {x y : Int64} (hd : decode (jcc Γ) pc = .ok (.invokestatic idx, 3)) (hk : Cond.methodLink (jown Γ) idx Lib.MathLoose.max_long.x ∈ jTbl) (hr : (Nat.ble 1 (jR Γ).frames && (Nat.ble ((st.map fun v => v.category).sum + 15) (jR Γ).locals && (Nat.ble (jcl Γ) (jR Γ).cells && Nat.ble (jsl Γ) (jR Γ).slots))) = true) (hp : pc' = pc + 3) (k : J G Γ w pc' ls (.long (if y < x then x else y) :: st)) : J G Γ w pc ls (.long y :: .long x :: st) := fun w2 hqw => J0_mmaxL hd hk hr hp (k w2 hqw)
theorem J_mabsL {G : jG} {Γ : jΓ} {w : jWd} {pc pc' idx : Nat} {ls : List (Option Value)} {st : List Value} {x : Int64} (hd : decode (jcc Γ) pc = .ok (.invokestatic idx, 3)) (hk : Cond.methodLink (jown Γ) idx Lib.MathLoose.abs_long.x ∈ jTbl) (hr : (Nat.ble 1 (jR Γ).frames && (Nat.ble ((st.map fun v => v.category).sum + 13) (jR Γ).locals && (Nat.ble (jcl Γ) (jR Γ).cells && Nat.ble (jsl Γ) (jR Γ).slots))) = true) (hp : pc' = pc + 3) (k : J G Γ w pc' ls (.long (if 0 < x then x else -x) :: st)) : J G Γ w pc ls (.long x :: st) := fun w2 hqw => J0_mabsL hd hk hr hp (k w2 hqw)
