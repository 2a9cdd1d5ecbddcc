/-! ===== worlds that differ; a mark that is drawn ===== -/
/-! worlds that differ, and what a block is then -/
def sg1 (σ : sg) (f k : Nat) (v : Int32) : sg := fun f' k' => if f' = f ∧ k' = k then v else σ f' k'
theorem sg1_at (σ : sg) (f k : Nat) (v : Int32) : sg1 σ f k v f k = v := if_pos ⟨rfl, rfl⟩
theorem sg1_f {σ : sg} {f k : Nat} {v : Int32} {f' k' : Nat} (h : f' ≠ f) : sg1 σ f k v f' k' = σ f' k' := if_neg (fun q => h q.1)
theorem sg1_k {σ : sg} {f k : Nat} {v : Int32} {f' k' : Nat} (h : k' ≠ k) : sg1 σ f k v f' k' = σ f' k' := if_neg (fun q => h q.2)
/-- a block is told by its own cells -/
theorem abX_congr {w w2 : jWd} {b : Nat} (h : ∀ a, b ≤ a → a < b + 15 → w2.1 a = w.1 a) : abX w2 b = abX w b := by
  have h0 := h b (by omega) (by omega)
  have h1 := h (b + 1) (by omega) (by omega)
  have h2 := h (b + 2) (by omega) (by omega)
  have h3 := h (b + 3) (by omega) (by omega)
  have h4 := h (b + 4) (by omega) (by omega)
  have h5 := h (b + 5) (by omega) (by omega)
  have h6 := h (b + 6) (by omega) (by omega)
  have h7 := h (b + 7) (by omega) (by omega)
  have h9 := h (b + 9) (by omega) (by omega)
  have h10 := h (b + 10) (by omega) (by omega)
  have h12 := h (b + 12) (by omega) (by omega)
  have h13 := h (b + 13) (by omega) (by omega)
  unfold abX
  rw [h0, h1, h2, h3, h4, h5, h6, h7, h9, h10, h12, h13]
theorem xB_congr {w w2 : jWd} {b : Nat} (h : ∀ a, b ≤ a → a < b + 15 → w2.1 a = w.1 a) (hB : xB w b) : xB w2 b := by
  unfold xB at hB ⊢
  rw [h b (by omega) (by omega), h (b + 9) (by omega) (by omega), h (b + 12) (by omega) (by omega)]
  exact hB
theorem abX_s0 {w : jWd} {b k : Nat} {v : Int32} (hk : k < 8) : abX (jset w (b + 1) k v) b = sg1 (abX w b) 0 k v := by
  funext f' k'
  have o : ∀ a, a ≠ b + 1 → (jset w (b + 1) k v).1 a = w.1 a := fun a h => jset_off h
  match f' with
  | 0 =>
    unfold abX sg1
    rw [jset_at]
    by_cases e : k' = k
    · subst e; simp [upd, hk]
    · simp [upd, e]
  | 1 => unfold abX sg1; simp [o]
  | 2 => unfold abX sg1; simp [o]
  | 3 => unfold abX sg1; simp [o]
  | 4 => unfold abX sg1; simp [o]
  | 5 => unfold abX sg1; simp [o]
  | 6 => unfold abX sg1; simp [o]
  | 7 => unfold abX sg1; simp [o]
  | 8 => unfold abX sg1; simp [o]
  | 9 => unfold abX sg1; simp [o]
  | 10 => unfold abX sg1; simp [o]
  | 11 => unfold abX sg1; simp [o]
  | n + 12 => unfold abX sg1; simp
theorem abX_s1 {w : jWd} {b k : Nat} {v : Int32} (hk : k < 8) : abX (jset w (b + 2) k v) b = sg1 (abX w b) 1 k v := by
  funext f' k'
  have o : ∀ a, a ≠ b + 2 → (jset w (b + 2) k v).1 a = w.1 a := fun a h => jset_off h
  match f' with
  | 0 => unfold abX sg1; simp [o]
  | 1 =>
    unfold abX sg1
    rw [jset_at]
    by_cases e : k' = k
    · subst e; simp [upd, hk]
    · simp [upd, e]
  | 2 => unfold abX sg1; simp [o]
  | 3 => unfold abX sg1; simp [o]
  | 4 => unfold abX sg1; simp [o]
  | 5 => unfold abX sg1; simp [o]
  | 6 => unfold abX sg1; simp [o]
  | 7 => unfold abX sg1; simp [o]
  | 8 => unfold abX sg1; simp [o]
  | 9 => unfold abX sg1; simp [o]
  | 10 => unfold abX sg1; simp [o]
  | 11 => unfold abX sg1; simp [o]
  | n + 12 => unfold abX sg1; simp
theorem abX_s2 {w : jWd} {b k : Nat} {v : Int32} (hk : k < 8) : abX (jset w (b + 3) k v) b = sg1 (abX w b) 2 k v := by
  funext f' k'
  have o : ∀ a, a ≠ b + 3 → (jset w (b + 3) k v).1 a = w.1 a := fun a h => jset_off h
  match f' with
  | 0 => unfold abX sg1; simp [o]
  | 1 => unfold abX sg1; simp [o]
  | 2 =>
    unfold abX sg1
    rw [jset_at]
    by_cases e : k' = k
    · subst e; simp [upd, hk]
    · simp [upd, e]
  | 3 => unfold abX sg1; simp [o]
  | 4 => unfold abX sg1; simp [o]
  | 5 => unfold abX sg1; simp [o]
  | 6 => unfold abX sg1; simp [o]
  | 7 => unfold abX sg1; simp [o]
  | 8 => unfold abX sg1; simp [o]
  | 9 => unfold abX sg1; simp [o]
  | 10 => unfold abX sg1; simp [o]
  | 11 => unfold abX sg1; simp [o]
  | n + 12 => unfold abX sg1; simp
theorem abX_s3 {w : jWd} {b k : Nat} {v : Int32} (hk : k < 8) : abX (jset w (b + 4) k v) b = sg1 (abX w b) 3 k v := by
  funext f' k'
  have o : ∀ a, a ≠ b + 4 → (jset w (b + 4) k v).1 a = w.1 a := fun a h => jset_off h
  match f' with
  | 0 => unfold abX sg1; simp [o]
  | 1 => unfold abX sg1; simp [o]
  | 2 => unfold abX sg1; simp [o]
  | 3 =>
    unfold abX sg1
    rw [jset_at]
    by_cases e : k' = k
    · subst e; simp [upd, hk]
    · simp [upd, e]
  | 4 => unfold abX sg1; simp [o]
  | 5 => unfold abX sg1; simp [o]
  | 6 => unfold abX sg1; simp [o]
  | 7 => unfold abX sg1; simp [o]
  | 8 => unfold abX sg1; simp [o]
  | 9 => unfold abX sg1; simp [o]
  | 10 => unfold abX sg1; simp [o]
  | 11 => unfold abX sg1; simp [o]
  | n + 12 => unfold abX sg1; simp
theorem abX_s4 {w : jWd} {b k : Nat} {v : Int32} (hk : k < 8) : abX (jset w (b + 5) k v) b = sg1 (abX w b) 4 k v := by
  funext f' k'
  have o : ∀ a, a ≠ b + 5 → (jset w (b + 5) k v).1 a = w.1 a := fun a h => jset_off h
  match f' with
  | 0 => unfold abX sg1; simp [o]
  | 1 => unfold abX sg1; simp [o]
  | 2 => unfold abX sg1; simp [o]
  | 3 => unfold abX sg1; simp [o]
  | 4 =>
    unfold abX sg1
    rw [jset_at]
    by_cases e : k' = k
    · subst e; simp [upd, hk]
    · simp [upd, e]
  | 5 => unfold abX sg1; simp [o]
  | 6 => unfold abX sg1; simp [o]
  | 7 => unfold abX sg1; simp [o]
  | 8 => unfold abX sg1; simp [o]
  | 9 => unfold abX sg1; simp [o]
  | 10 => unfold abX sg1; simp [o]
  | 11 => unfold abX sg1; simp [o]
  | n + 12 => unfold abX sg1; simp
theorem abX_s7 {w : jWd} {b k : Nat} {v : Int32} (hk : k < 60) : abX (jset w (b + 6) k v) b = sg1 (abX w b) 7 k v := by
  funext f' k'
  have o : ∀ a, a ≠ b + 6 → (jset w (b + 6) k v).1 a = w.1 a := fun a h => jset_off h
  match f' with
  | 0 => unfold abX sg1; simp [o]
  | 1 => unfold abX sg1; simp [o]
  | 2 => unfold abX sg1; simp [o]
  | 3 => unfold abX sg1; simp [o]
  | 4 => unfold abX sg1; simp [o]
  | 5 => unfold abX sg1; simp [o]
  | 6 => unfold abX sg1; simp [o]
  | 7 =>
    unfold abX sg1
    rw [jset_at]
    by_cases e : k' = k
    · subst e; simp [upd, hk]
    · simp [upd, e]
  | 8 => unfold abX sg1; simp [o]
  | 9 => unfold abX sg1; simp [o]
  | 10 => unfold abX sg1; simp [o]
  | 11 => unfold abX sg1; simp [o]
  | n + 12 => unfold abX sg1; simp
theorem abX_s8 {w : jWd} {b k : Nat} {v : Int32} (hk : k < 24) : abX (jset w (b + 7) k v) b = sg1 (abX w b) 8 k v := by
  funext f' k'
  have o : ∀ a, a ≠ b + 7 → (jset w (b + 7) k v).1 a = w.1 a := fun a h => jset_off h
  match f' with
  | 0 => unfold abX sg1; simp [o]
  | 1 => unfold abX sg1; simp [o]
  | 2 => unfold abX sg1; simp [o]
  | 3 => unfold abX sg1; simp [o]
  | 4 => unfold abX sg1; simp [o]
  | 5 => unfold abX sg1; simp [o]
  | 6 => unfold abX sg1; simp [o]
  | 7 => unfold abX sg1; simp [o]
  | 8 =>
    unfold abX sg1
    rw [jset_at]
    by_cases e : k' = k
    · subst e; simp [upd, hk]
    · simp [upd, e]
  | 9 => unfold abX sg1; simp [o]
  | 10 => unfold abX sg1; simp [o]
  | 11 => unfold abX sg1; simp [o]
  | n + 12 => unfold abX sg1; simp
theorem abX_f8 {w : jWd} {b : Nat} {v : Int32} : abX (jset w b 8 v) b = sg1 (abX w b) 6 0 v := by
  funext f' k'
  have o : ∀ a, a ≠ b → (jset w b 8 v).1 a = w.1 a := fun a h => jset_off h
  match f' with
  | 0 => unfold abX sg1; simp [o, jset_at, upd]
  | 1 => unfold abX sg1; simp [o, jset_at, upd]
  | 2 => unfold abX sg1; simp [o, jset_at, upd]
  | 3 => unfold abX sg1; simp [o, jset_at, upd]
  | 4 => unfold abX sg1; simp [o, jset_at, upd]
  | 5 => unfold abX sg1; simp [o, jset_at, upd]
  | 6 =>
    unfold abX sg1
    rw [jset_at]
    match k' with
    | 0 => simp [upd]
    | 1 => simp [upd]
    | 2 => simp [upd]
    | 3 => simp [upd]
    | 4 => simp [upd]
    | 5 => simp [upd]
    | 6 => simp [upd]
    | 7 => simp [upd]
    | q + 8 => simp
  | 7 => unfold abX sg1; simp [o]
  | 8 => unfold abX sg1; simp [o]
  | 9 => unfold abX sg1; simp [o]
  | 10 => unfold abX sg1; simp [o]
  | 11 => unfold abX sg1; simp [o]
  | n + 12 => unfold abX sg1; simp
theorem abX_f10 {w : jWd} {b : Nat} {v : Int32} : abX (jset w b 10 v) b = sg1 (abX w b) 6 1 v := by
  funext f' k'
  have o : ∀ a, a ≠ b → (jset w b 10 v).1 a = w.1 a := fun a h => jset_off h
  match f' with
  | 0 => unfold abX sg1; simp [o, jset_at, upd]
  | 1 => unfold abX sg1; simp [o, jset_at, upd]
  | 2 => unfold abX sg1; simp [o, jset_at, upd]
  | 3 => unfold abX sg1; simp [o, jset_at, upd]
  | 4 => unfold abX sg1; simp [o, jset_at, upd]
  | 5 => unfold abX sg1; simp [o, jset_at, upd]
  | 6 =>
    unfold abX sg1
    rw [jset_at]
    match k' with
    | 0 => simp [upd]
    | 1 => simp [upd]
    | 2 => simp [upd]
    | 3 => simp [upd]
    | 4 => simp [upd]
    | 5 => simp [upd]
    | 6 => simp [upd]
    | 7 => simp [upd]
    | q + 8 => simp
  | 7 => unfold abX sg1; simp [o]
  | 8 => unfold abX sg1; simp [o]
  | 9 => unfold abX sg1; simp [o]
  | 10 => unfold abX sg1; simp [o]
  | 11 => unfold abX sg1; simp [o]
  | n + 12 => unfold abX sg1; simp
theorem abX_f11 {w : jWd} {b : Nat} {v : Int32} : abX (jset w b 11 v) b = sg1 (abX w b) 6 2 v := by
  funext f' k'
  have o : ∀ a, a ≠ b → (jset w b 11 v).1 a = w.1 a := fun a h => jset_off h
  match f' with
  | 0 => unfold abX sg1; simp [o, jset_at, upd]
  | 1 => unfold abX sg1; simp [o, jset_at, upd]
  | 2 => unfold abX sg1; simp [o, jset_at, upd]
  | 3 => unfold abX sg1; simp [o, jset_at, upd]
  | 4 => unfold abX sg1; simp [o, jset_at, upd]
  | 5 => unfold abX sg1; simp [o, jset_at, upd]
  | 6 =>
    unfold abX sg1
    rw [jset_at]
    match k' with
    | 0 => simp [upd]
    | 1 => simp [upd]
    | 2 => simp [upd]
    | 3 => simp [upd]
    | 4 => simp [upd]
    | 5 => simp [upd]
    | 6 => simp [upd]
    | 7 => simp [upd]
    | q + 8 => simp
  | 7 => unfold abX sg1; simp [o]
  | 8 => unfold abX sg1; simp [o]
  | 9 => unfold abX sg1; simp [o]
  | 10 => unfold abX sg1; simp [o]
  | 11 => unfold abX sg1; simp [o]
  | n + 12 => unfold abX sg1; simp
theorem abX_f12 {w : jWd} {b : Nat} {v : Int32} : abX (jset w b 12 v) b = sg1 (abX w b) 6 3 v := by
  funext f' k'
  have o : ∀ a, a ≠ b → (jset w b 12 v).1 a = w.1 a := fun a h => jset_off h
  match f' with
  | 0 => unfold abX sg1; simp [o, jset_at, upd]
  | 1 => unfold abX sg1; simp [o, jset_at, upd]
  | 2 => unfold abX sg1; simp [o, jset_at, upd]
  | 3 => unfold abX sg1; simp [o, jset_at, upd]
  | 4 => unfold abX sg1; simp [o, jset_at, upd]
  | 5 => unfold abX sg1; simp [o, jset_at, upd]
  | 6 =>
    unfold abX sg1
    rw [jset_at]
    match k' with
    | 0 => simp [upd]
    | 1 => simp [upd]
    | 2 => simp [upd]
    | 3 => simp [upd]
    | 4 => simp [upd]
    | 5 => simp [upd]
    | 6 => simp [upd]
    | 7 => simp [upd]
    | q + 8 => simp
  | 7 => unfold abX sg1; simp [o]
  | 8 => unfold abX sg1; simp [o]
  | 9 => unfold abX sg1; simp [o]
  | 10 => unfold abX sg1; simp [o]
  | 11 => unfold abX sg1; simp [o]
  | n + 12 => unfold abX sg1; simp
theorem abX_f13 {w : jWd} {b : Nat} {v : Int32} : abX (jset w b 13 v) b = sg1 (abX w b) 6 4 v := by
  funext f' k'
  have o : ∀ a, a ≠ b → (jset w b 13 v).1 a = w.1 a := fun a h => jset_off h
  match f' with
  | 0 => unfold abX sg1; simp [o, jset_at, upd]
  | 1 => unfold abX sg1; simp [o, jset_at, upd]
  | 2 => unfold abX sg1; simp [o, jset_at, upd]
  | 3 => unfold abX sg1; simp [o, jset_at, upd]
  | 4 => unfold abX sg1; simp [o, jset_at, upd]
  | 5 => unfold abX sg1; simp [o, jset_at, upd]
  | 6 =>
    unfold abX sg1
    rw [jset_at]
    match k' with
    | 0 => simp [upd]
    | 1 => simp [upd]
    | 2 => simp [upd]
    | 3 => simp [upd]
    | 4 => simp [upd]
    | 5 => simp [upd]
    | 6 => simp [upd]
    | 7 => simp [upd]
    | q + 8 => simp
  | 7 => unfold abX sg1; simp [o]
  | 8 => unfold abX sg1; simp [o]
  | 9 => unfold abX sg1; simp [o]
  | 10 => unfold abX sg1; simp [o]
  | 11 => unfold abX sg1; simp [o]
  | n + 12 => unfold abX sg1; simp
theorem abX_f14 {w : jWd} {b : Nat} {v : Int32} : abX (jset w b 14 v) b = sg1 (abX w b) 6 5 v := by
  funext f' k'
  have o : ∀ a, a ≠ b → (jset w b 14 v).1 a = w.1 a := fun a h => jset_off h
  match f' with
  | 0 => unfold abX sg1; simp [o, jset_at, upd]
  | 1 => unfold abX sg1; simp [o, jset_at, upd]
  | 2 => unfold abX sg1; simp [o, jset_at, upd]
  | 3 => unfold abX sg1; simp [o, jset_at, upd]
  | 4 => unfold abX sg1; simp [o, jset_at, upd]
  | 5 => unfold abX sg1; simp [o, jset_at, upd]
  | 6 =>
    unfold abX sg1
    rw [jset_at]
    match k' with
    | 0 => simp [upd]
    | 1 => simp [upd]
    | 2 => simp [upd]
    | 3 => simp [upd]
    | 4 => simp [upd]
    | 5 => simp [upd]
    | 6 => simp [upd]
    | 7 => simp [upd]
    | q + 8 => simp
  | 7 => unfold abX sg1; simp [o]
  | 8 => unfold abX sg1; simp [o]
  | 9 => unfold abX sg1; simp [o]
  | 10 => unfold abX sg1; simp [o]
  | 11 => unfold abX sg1; simp [o]
  | n + 12 => unfold abX sg1; simp
theorem abX_f15 {w : jWd} {b : Nat} {v : Int32} : abX (jset w b 15 v) b = sg1 (abX w b) 6 6 v := by
  funext f' k'
  have o : ∀ a, a ≠ b → (jset w b 15 v).1 a = w.1 a := fun a h => jset_off h
  match f' with
  | 0 => unfold abX sg1; simp [o, jset_at, upd]
  | 1 => unfold abX sg1; simp [o, jset_at, upd]
  | 2 => unfold abX sg1; simp [o, jset_at, upd]
  | 3 => unfold abX sg1; simp [o, jset_at, upd]
  | 4 => unfold abX sg1; simp [o, jset_at, upd]
  | 5 => unfold abX sg1; simp [o, jset_at, upd]
  | 6 =>
    unfold abX sg1
    rw [jset_at]
    match k' with
    | 0 => simp [upd]
    | 1 => simp [upd]
    | 2 => simp [upd]
    | 3 => simp [upd]
    | 4 => simp [upd]
    | 5 => simp [upd]
    | 6 => simp [upd]
    | 7 => simp [upd]
    | q + 8 => simp
  | 7 => unfold abX sg1; simp [o]
  | 8 => unfold abX sg1; simp [o]
  | 9 => unfold abX sg1; simp [o]
  | 10 => unfold abX sg1; simp [o]
  | 11 => unfold abX sg1; simp [o]
  | n + 12 => unfold abX sg1; simp
theorem abX_f16 {w : jWd} {b : Nat} {v : Int32} : abX (jset w b 16 v) b = sg1 (abX w b) 6 7 v := by
  funext f' k'
  have o : ∀ a, a ≠ b → (jset w b 16 v).1 a = w.1 a := fun a h => jset_off h
  match f' with
  | 0 => unfold abX sg1; simp [o, jset_at, upd]
  | 1 => unfold abX sg1; simp [o, jset_at, upd]
  | 2 => unfold abX sg1; simp [o, jset_at, upd]
  | 3 => unfold abX sg1; simp [o, jset_at, upd]
  | 4 => unfold abX sg1; simp [o, jset_at, upd]
  | 5 => unfold abX sg1; simp [o, jset_at, upd]
  | 6 =>
    unfold abX sg1
    rw [jset_at]
    match k' with
    | 0 => simp [upd]
    | 1 => simp [upd]
    | 2 => simp [upd]
    | 3 => simp [upd]
    | 4 => simp [upd]
    | 5 => simp [upd]
    | 6 => simp [upd]
    | 7 => simp [upd]
    | q + 8 => simp
  | 7 => unfold abX sg1; simp [o]
  | 8 => unfold abX sg1; simp [o]
  | 9 => unfold abX sg1; simp [o]
  | 10 => unfold abX sg1; simp [o]
  | 11 => unfold abX sg1; simp [o]
  | n + 12 => unfold abX sg1; simp
/-- .. when the marks that are on change -/
theorem abX_f9 {w : jWd} {b : Nat} {v : Int32} : abX (jset w b 9 v) b = fun f k => if f = 5 then (if k < 8 then (v >>> (nI k &&& 31)) &&& 1 else 0) else abX w b f k := by
  funext f' k'
  have o : ∀ a, a ≠ b → (jset w b 9 v).1 a = w.1 a := fun a h => jset_off h
  match f' with
  | 0 => unfold abX; simp [o, jset_at, upd]
  | 1 => unfold abX; simp [o, jset_at, upd]
  | 2 => unfold abX; simp [o, jset_at, upd]
  | 3 => unfold abX; simp [o, jset_at, upd]
  | 4 => unfold abX; simp [o, jset_at, upd]
  | 5 => unfold abX; simp [o, jset_at, upd]
  | 6 =>
    unfold abX
    rw [jset_at]
    match k' with
    | 0 => simp [upd]
    | 1 => simp [upd]
    | 2 => simp [upd]
    | 3 => simp [upd]
    | 4 => simp [upd]
    | 5 => simp [upd]
    | 6 => simp [upd]
    | 7 => simp [upd]
    | q + 8 => simp
  | 7 => unfold abX; simp [o]
  | 8 => unfold abX; simp [o]
  | 9 => unfold abX; simp [o]
  | 10 => unfold abX; simp [o]
  | 11 => unfold abX; simp [o]
  | n + 12 => unfold abX; simp
theorem zon1 : ∀ S, S < 256 → ∀ k, k < 8 → nI S ||| 1 <<< (nI k &&& 31) = nI (S ||| 2 ^ k) ∧ S ||| 2 ^ k < 256 := by decide +kernel
theorem zon0 : ∀ S, S < 256 → ∀ k, k < 8 → nI S &&& ((1 <<< (nI k &&& 31)) ^^^ (-1)) = nI (S &&& (255 - 2 ^ k)) ∧ S &&& (255 - 2 ^ k) < 256 := by decide +kernel
theorem zbt1 : ∀ S, S < 256 → ∀ k, k < 8 → ∀ j, j < 8 → (nI (S ||| 2 ^ k) >>> (nI j &&& 31)) &&& 1 = if j = k then 1 else (nI S >>> (nI j &&& 31)) &&& 1 := by decide +kernel
theorem zbt0 : ∀ S, S < 256 → ∀ k, k < 8 → ∀ j, j < 8 → (nI (S &&& (255 - 2 ^ k)) >>> (nI j &&& 31)) &&& 1 = if j = k then 0 else (nI S >>> (nI j &&& 31)) &&& 1 := by decide +kernel
/-- a mark is turned on or off -/
theorem abX_turn {w : jWd} {b k : Nat} (hB : xB w b) (hk : k < 8) {z : Int32} : abX (jset w b 9 (if z = 0 then w.1 b 9 &&& ((1 <<< (nI k &&& 31)) ^^^ (-1)) else w.1 b 9 ||| 1 <<< (nI k &&& 31))) b = sg1 (abX w b) 5 k (if z = 0 then 0 else 1) ∧ xB (jset w b 9 (if z = 0 then w.1 b 9 &&& ((1 <<< (nI k &&& 31)) ^^^ (-1)) else w.1 b 9 ||| 1 <<< (nI k &&& 31))) b := by
  obtain ⟨⟨S, hS, e⟩, h2⟩ := hB
  have hx : ∀ T, T < 256 → xB (jset w b 9 (nI T)) b := by
    intro T hT
    refine ⟨⟨T, hT, by rw [jset_1, if_pos rfl, if_pos rfl]⟩, ?_⟩
    rw [jset_off (by omega), jset_off (by omega)]
    exact h2
  by_cases hz : z = 0
  · rw [if_pos hz, if_pos hz, e, (zon0 S hS k hk).1]
    refine ⟨?_, hx _ (zon0 S hS k hk).2⟩
    rw [abX_f9]
    funext f j
    by_cases hf : f = 5
    · subst hf
      rw [if_pos rfl]
      by_cases hj : j < 8
      · rw [if_pos hj, zbt0 S hS k hk j hj]
        by_cases q : j = k
        · subst q; rw [if_pos rfl, sg1_at]
        · rw [if_neg q, sg1_k q, ax5 hj, e]
      · rw [if_neg hj, sg1_k (by omega)]
        unfold abX
        simp [hj]
    · rw [if_neg hf, sg1_f hf]
  · rw [if_neg hz, if_neg hz, e, (zon1 S hS k hk).1]
    refine ⟨?_, hx _ (zon1 S hS k hk).2⟩
    rw [abX_f9]
    funext f j
    by_cases hf : f = 5
    · subst hf
      rw [if_pos rfl]
      by_cases hj : j < 8
      · rw [if_pos hj, zbt1 S hS k hk j hj]
        by_cases q : j = k
        · subst q; rw [if_pos rfl, sg1_at]
        · rw [if_neg q, sg1_k q, ax5 hj, e]
      · rw [if_neg hj, sg1_k (by omega)]
        unfold abX
        simp [hj]
    · rw [if_neg hf, sg1_f hf]
theorem xB_set {w : jWd} {b a k : Nat} {v : Int32} (hB : xB w b) (h : a ≠ b ∨ k ≠ 9) (h1 : a ≠ b + 9 ∨ k = 5) (h2 : a ≠ b + 12 ∨ k = 5) : xB (jset w a k v) b := by
  have e : ∀ a' k', (a' ≠ a ∨ k' ≠ k) → (jset w a k v).1 a' k' = w.1 a' k' := by
    intro a' k' h
    rw [jset_1]
    by_cases q : a' = a
    · rw [if_pos q]
      subst q
      rw [if_neg (h.resolve_left (fun z => z rfl))]
    · rw [if_neg q]
  unfold xB
  rw [e b 9 (by omega), e (b + 9) 1 (by omega), e (b + 9) 2 (by omega), e (b + 12) 1 (by omega), e (b + 12) 2 (by omega)]
  exact hB
/-- the whole numbers of a place's draw -/
def sDrawn (σ : sg) : sg := if sM σ = 0 then σ else sg1 (sg1 (sg1 σ 6 5 (sZ (sZ (σ 6 5)))) 4 (sDn (σ 6 5) % sM σ) (nI (sDn (sZ (σ 6 5)) % 41) - 20)) 5 (sDn (σ 6 5) % sM σ) 1
theorem sDrawn_0 {σ : sg} (h : sM σ = 0) : sDrawn σ = σ := if_pos h
theorem sDrawn_p {σ : sg} (h : 0 < sM σ) : sDrawn σ = sg1 (sg1 (sg1 σ 6 5 (sZ (sZ (σ 6 5)))) 4 (sDn (σ 6 5) % sM σ) (nI (sDn (sZ (σ 6 5)) % 41) - 20)) 5 (sDn (σ 6 5) % sM σ) 1 := if_neg (by omega)
theorem sg1_2 (σ : sg) (f k : Nat) (u v : Int32) : sg1 (sg1 σ f k u) f k v = sg1 σ f k v := by
  funext f' k'
  unfold sg1
  by_cases h : f' = f ∧ k' = k
  · rw [if_pos h, if_pos h]
  · rw [if_neg h, if_neg h, if_neg h]
/-- nothing but a block has changed -/
def frB (b : Nat) (w w2 : jWd) : Prop := (∀ a, (a < b ∨ b + 15 ≤ a) → w2.1 a = w.1 a) ∧ w2.2 = w.2
theorem frB.rf (b : Nat) (w : jWd) : frB b w w := ⟨fun _ _ => rfl, rfl⟩
theorem frB.set {b : Nat} {w w2 : jWd} (h : frB b w w2) {a k : Nat} {v : Int32} (h1 : b ≤ a) (h2 : a < b + 15) : frB b w (jset w2 a k v) := ⟨fun x hx => by rw [jset_off (by omega)]; exact h.1 x hx, h.2⟩
set_option maxHeartbeats 4000000 in
set_option maxRecDepth 100000 in
theorem k_X0_drawMark {G : jG} {w : jWd} {b : Nat} (hb : jB b) (hI : sInv (abX w b)) (hB : xB w b) : jKp G 1 yX0_drawMark cX0_drawMark 2 none [.ref b] w none (fun w' => abX w' b = sDrawn (abX w b) ∧ xB w' b ∧ frB b w w') := by
  have hM : w.1 b 8 = nI (sM (abX w b)) := (sIM hI).1
  have hM8 := (sIM hI).2
  have hz0 : abX w b 6 5 = w.1 b 14 := rfl
  refine jK_of (own := RX0) [some (.ref b), none] pn0 rfl (Nat.le_of_ble_eq_true rfl) rfl ?_
  refine J_aload_n (pc' := 1) dX0_drawMark_0 rfl rfl ?_
  refine J_getI (pc' := 4) dX0_drawMark_1 fl_0_72 (lyb_0 hb) (l84b_0 hb) rfl rfl ?_
  rw [hM]
  refine J_if_le 39 (pc' := 7) dX0_drawMark_4 (by decide) rfl (fun h_4 => ?_) (fun h_4 => ?_)
  · have h0 : sM (abX w b) = 0 := by
      rcases Nat.eq_zero_or_pos (sM (abX w b)) with q | q
      · exact q
      · exact absurd h_4 (nI_nle q (by omega))
    exact J_vret dX0_drawMark_39  ⟨rfl, (sDrawn_0 h0).symm, hB, frB.rf b w⟩
  · refine J_aload_n (pc' := 8) dX0_drawMark_7 rfl rfl ?_
    refine J_V0v (pc' := 11) dX0_drawMark_8 lk_0_127 cd_X0_draw (k_X0_draw hb) (lyb_0 hb) (l84b_0 hb) rfl rfl (jroom_of rfl) (Nat.le_of_ble_eq_true rfl) rfl ?_
    refine J_aload_n (pc' := 12) dX0_drawMark_11 rfl rfl ?_
    refine J_getI (pc' := 15) dX0_drawMark_12 fl_0_72 (lyb_0 hb) (l84b_0 hb) rfl rfl ?_
    have hpos : 0 < sM (abX w b) := by
      rcases Nat.eq_zero_or_pos (sM (abX w b)) with q | q
      · rw [q] at h_4; exact absurd (by decide) h_4
      · exact q
    rw [jset_1, if_pos rfl, if_neg (by decide : (8 : Nat) ≠ 14), hM, sDraw_eq]
    refine J_irem (pc' := 16) dX0_drawMark_15 (nI_ne0 hpos (by omega)) rfl ?_
    rw [zrem (Nat.lt_of_lt_of_le (sDn_lt _) (by decide)) (by omega) hpos]
    refine J_istore_n (pc' := 17) dX0_drawMark_16 (Nat.le_of_ble_eq_true rfl) (jst1 rfl rfl) rfl ?_
    have hkM : sDn (w.1 b 14) % sM (abX w b) < sM (abX w b) := Nat.mod_lt _ hpos
    have hk8 : sDn (w.1 b 14) % sM (abX w b) < 8 := by omega
    refine J_aload_n (pc' := 18) dX0_drawMark_17 rfl rfl ?_
    refine J_getR (pc' := 21) dX0_drawMark_18 fl_0_24 (lyb_0 hb) (l84b_0 hb) rfl rfl ?_
    refine J_iload_n (pc' := 22) dX0_drawMark_21 rfl rfl ?_
    refine J_aload_n (pc' := 23) dX0_drawMark_22 rfl rfl ?_
    refine J_V0v (pc' := 26) dX0_drawMark_23 lk_0_127 cd_X0_draw (k_X0_draw hb) (lyb_0 hb) (l84b_0 hb) rfl rfl (jroom_of rfl) (Nat.le_of_ble_eq_true rfl) rfl ?_
    rw [jset_1, if_pos rfl, if_pos rfl, sDraw_eq]
    refine J_bipush (v := 41) (pc' := 28) dX0_drawMark_26 (by decide) rfl ?_
    refine J_irem (pc' := 29) dX0_drawMark_28 (by decide) rfl ?_
    rw [nIc_41, zrem (Nat.lt_of_lt_of_le (sDn_lt _) (by decide)) (by decide) (by decide)]
    refine J_bipush (v := 20) (pc' := 31) dX0_drawMark_29 (by decide) rfl ?_
    refine J_isub (pc' := 32) dX0_drawMark_31 rfl ?_
    refine J_iast (sDn (w.1 b 14) % sM (abX w b)) (pc' := 33) dX0_drawMark_32 (lyb_5 hb) (l84b_5 hb) rfl hk8 (by decide) rfl ?_
    refine J_aload_n (pc' := 34) dX0_drawMark_33 rfl rfl ?_
    refine J_iload_n (pc' := 35) dX0_drawMark_34 rfl rfl ?_
    refine J_iconst (v := 1) (pc' := 36) dX0_drawMark_35 (by decide) rfl ?_
    refine J_V20 (pc' := 39) dX0_drawMark_36 lk_0_90 cd_X0_turn (k_X0_turn hb (k := sDn (w.1 b 14) % sM (abX w b))) (lyb_0 hb) (l84b_0 hb) rfl rfl (jroom_of rfl) (Nat.le_of_ble_eq_true rfl) rfl ?_
    have hB1 : xB (jset (jset (jset w b 14 (sZ (w.1 b 14))) b 14 (sZ (sZ (w.1 b 14)))) (b + 5) (sDn (w.1 b 14) % sM (abX w b)) (nI (sDn (sZ (w.1 b 14)) % 41) - 20)) b := xB_set (xB_set (xB_set hB (by omega) (by omega) (by omega)) (by omega) (by omega) (by omega)) (by omega) (by omega) (by omega)
    have ht := abX_turn hB1 hk8 (z := 1)
    exact J_vret dX0_drawMark_39  ⟨rfl, (by rw [ht.1, abX_s4 hk8, abX_f14, abX_f14, sg1_2, sDrawn_p hpos, hz0]; rfl), ht.2, (((((frB.rf b w).set (by omega) (by omega)).set (by omega) (by omega)).set (by omega) (by omega)).set (by omega) (by omega))⟩
