/-! ===== pure: odds ===== -/
/-! ===== pure: odds ===== -/
/-- once off, off: a round turns no mark on -/
theorem go_off {σ : sg} {k : Nat} (h : ¬ σ 5 k = 1) : ¬ sGo σ 5 k = 1 := by
  unfold sGo
  rw [sg1_f (by decide)]
  by_cases hc : sGoC σ
  · rw [if_pos hc, sg1_f (by decide)]
    by_cases e : k = nn (sMst σ)
    · rw [e, sg1_at]; decide
    · rw [sg1_k e]; exact h
  · rw [if_neg hc]; exact h
theorem goN_off {σ : sg} {k r : Nat} (h : ¬ sGoN σ r 5 k = 1) : ∀ n, ¬ sGoN σ (r + n) 5 k = 1
  | 0 => h
  | n + 1 => go_off (goN_off h n)
theorem sRu_p {σ : sg} {k : Nat} : ∀ n r, r + n ≤ 1000 → (0 ≤ sRu σ k n r ↔ ∃ i, i < n ∧ ¬ sGoN σ (r + i) 5 k = 1)
  | 0, r, _ => ⟨fun h => absurd h (by rw [sRu]; decide), fun ⟨i, hi, _⟩ => absurd hi (Nat.not_lt_zero i)⟩
  | n + 1, r, hr => by
    rw [sRu]
    by_cases h : sGoN σ r 5 k = 1
    · rw [if_pos h, sRu_p n (r + 1) (by omega)]
      constructor
      · rintro ⟨i, hi, q⟩
        exact ⟨i + 1, by omega, by rw [show r + (i + 1) = r + 1 + i by omega]; exact q⟩
      · rintro ⟨i, hi, q⟩
        by_cases e : i = 0
        · subst e; exact absurd h q
        · exact ⟨i - 1, by omega, by rw [show r + 1 + (i - 1) = r + i by omega]; exact q⟩
    · rw [if_neg h]
      exact ⟨fun _ => ⟨0, by omega, h⟩, fun _ => nI_pos' (by omega)⟩
theorem odd_eq (σ : sg) (k N : Nat) (hN : N ≤ 40) : ∀ i, sOdd σ k N i = mOd σ k N i
  | 0 => rfl
  | i + 1 => by
    rw [sOdd, mOd, odd_eq σ k N hN i]
    have h := sRu_p (σ := sg1 σ 4 k (tw i)) (k := k) (N + 1) 0 (by omega)
    by_cases e : sGoN (sg1 σ 4 k (tw i)) N 5 k = 1
    · rw [if_pos e, if_neg (fun q => by
        obtain ⟨j, hj, qj⟩ := h.mp q
        rw [Nat.zero_add] at qj
        have := goN_off qj (N - j)
        rw [show j + (N - j) = N by omega] at this
        exact this e)]
    · rw [if_neg e, if_pos (h.mpr ⟨N, by omega, by rw [Nat.zero_add]; exact e⟩)]
theorem nI_l64 {n : Nat} (h : n < 2 ^ 31) : (nI n).toInt64 = lN n := Int64.toInt_inj.mp (by rw [Int32.toInt_toInt64, nI_toInt h, lNt (by omega)])
/-- both tell the odds alike -/
theorem odds_eq (s k r : sg) (x n p : Int32) (hn : nn n ≤ 40) : sm_odds s k r x n p = sq_odds s k r x n p := by
  unfold sm_odds sq_odds
  by_cases hc : sIsM s x ∧ (0 ≤ n ∧ n ≤ 40) ∧ (0 ≤ p ∧ p ≤ 1)
  · rw [if_pos hc, if_pos hc]
    have hl := mOd_le s (nn x) (nn n) 41
    rw [odd_eq s (nn x) (nn n) hn 41, nI_l64 (by omega), mPart_s (by rw [lNt (by omega)]; omega) (by decide)]
  · rw [if_neg hc, if_neg hc]
