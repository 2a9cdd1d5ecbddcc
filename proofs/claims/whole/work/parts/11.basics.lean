/-! ===== basics ===== -/
/-- a truth as a whole number -/
def jb (p : Prop) [Decidable p] : Int32 := if p then 1 else 0
theorem jb_t {p : Prop} [Decidable p] (h : p) : jb p = 1 := if_pos h
theorem jb_f {p : Prop} [Decidable p] (h : ¬ p) : jb p = 0 := if_neg h
theorem jb_0 {p : Prop} [Decidable p] : jb p = 0 ↔ ¬ p := by
  by_cases h : p
  · rw [jb_t h]; exact ⟨fun q => absurd q (by decide), fun q => absurd h q⟩
  · rw [jb_f h]; exact ⟨fun _ => h, fun _ => rfl⟩
theorem jb_1 {p : Prop} [Decidable p] : jb p = 1 ↔ p := by
  by_cases h : p
  · rw [jb_t h]; exact ⟨fun _ => h, fun _ => rfl⟩
  · rw [jb_f h]; exact ⟨fun q => absurd q (by decide), fun q => absurd q h⟩
theorem jb_n {p : Prop} [Decidable p] (h : jb p ≠ 0) : p := by
  by_cases q : p
  · exact q
  · exact absurd (jb_f q) h
theorem jb_b (p : Prop) [Decidable p] : jb p = 0 ∨ jb p = 1 := by
  by_cases h : p
  · exact Or.inr (jb_t h)
  · exact Or.inl (jb_f h)
theorem jb_c {p q : Prop} [Decidable p] [Decidable q] (h : p ↔ q) : jb p = jb q := by
  by_cases a : p
  · rw [jb_t a, jb_t (h.mp a)]
  · rw [jb_f a, jb_f (fun z => a (h.mpr z))]
theorem jv {x y : Int32} (h : x = y) : some (Value.int x) = some (Value.int y) := by rw [h]
theorem jvl {x y : Int64} (h : x = y) : some (Value.long x) = some (Value.long y) := by rw [h]
set_option maxHeartbeats 4000000 in
set_option maxRecDepth 100000 in
theorem k_X6_isWithin {G : jG} {w : jWd} {x a b : Int32} : jKd G 0 yX6_isWithin cX6_isWithin 3 (some .boolean) [.int x, .int a, .int b] w (some (.int (jb (a ≤ x ∧ x ≤ b)))) w := by
  refine jK_of (own := RX6) [some (.int x), some (.int a), some (.int b)] pn6 rfl (Nat.le_of_ble_eq_true rfl) rfl ?_
  refine J_iload_n (pc' := 1) dX6_isWithin_0 rfl rfl ?_
  refine J_iload_n (pc' := 2) dX6_isWithin_1 rfl rfl ?_
  refine J_icmp_lt 14 (pc' := 5) dX6_isWithin_2 (by decide) rfl (fun h_2 => ?_) (fun h_2 => ?_)
  · refine J_iconst (v := 0) (pc' := 15) dX6_isWithin_14 (by decide) rfl ?_
    exact J_zret dX6_isWithin_15 (Or.inl rfl) ⟨jv (jb_f (fun q => by first | exact Int32.not_lt.mpr q.1 h_2 | exact Int32.not_lt.mpr q.2 h_7)).symm, rfl⟩
  · refine J_iload_n (pc' := 6) dX6_isWithin_5 rfl rfl ?_
    refine J_iload_n (pc' := 7) dX6_isWithin_6 rfl rfl ?_
    refine J_icmp_gt 14 (pc' := 10) dX6_isWithin_7 (by decide) rfl (fun h_7 => ?_) (fun h_7 => ?_)
    · refine J_iconst (v := 0) (pc' := 15) dX6_isWithin_14 (by decide) rfl ?_
      exact J_zret dX6_isWithin_15 (Or.inl rfl) ⟨jv (jb_f (fun q => by first | exact Int32.not_lt.mpr q.1 h_2 | exact Int32.not_lt.mpr q.2 h_7)).symm, rfl⟩
    · refine J_iconst (v := 1) (pc' := 11) dX6_isWithin_10 (by decide) rfl ?_
      refine J_goto (pc' := 0) 15 dX6_isWithin_11 (by decide) ?_
      exact J_zret dX6_isWithin_15 (Or.inr rfl) ⟨jv (jb_t ⟨Int32.not_lt.mp h_2, Int32.not_lt.mp h_7⟩).symm, rfl⟩
