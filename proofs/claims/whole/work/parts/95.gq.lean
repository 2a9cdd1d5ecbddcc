/-! ===== both sides, call by call ===== -/
/-! both sides' states, call by call -/
/-- what holds of both sides: block, the two images, the rest -/
def Gd (s k k2 r : sg) : Prop := sInv s ∧ sR s ≤ 9999 ∧ rInv r ∧ (r 1 0 = 0 ∨ (k = k2 ∧ sInv k ∧ sR k ≤ 9999))
def Gq {α : Type} (q q2 : α × sg × sg × sg) : Prop := q.1 = q2.1 ∧ q.2.1 = q2.2.1 ∧ q.2.2.2 = q2.2.2.2 ∧ Gd q.2.1 q.2.2.1 q2.2.2.1 q.2.2.2
theorem Gq_if {α : Type} {c : Prop} [Decidable c] {a a2 b b2 : α × sg × sg × sg} (h1 : c → Gq a a2) (h2 : ¬ c → Gq b b2) : Gq (if c then a else b) (if c then a2 else b2) := by
  by_cases h : c
  · rw [if_pos h, if_pos h]; exact h1 h
  · rw [if_neg h, if_neg h]; exact h2 h
theorem rInv_er {r : sg} (h : rInv r) (j : Nat) : rInv (sEr r j) := by
  have e : ∀ f k, f ≠ 0 → sEr r j f k = r f k := fun f k hf => sg1_f hf
  unfold rInv
  simp only [e 9 _ (by decide), e 7 _ (by decide), e 6 _ (by decide)]
  exact h
theorem Gd.s {s k k2 r s' : sg} (h : Gd s k k2 r) (h1 : sInv s') (h2 : sR s' ≤ 9999) : Gd s' k k2 r := ⟨h1, h2, h.2.2⟩
theorem Gd.r {s k k2 r r' : sg} (h : Gd s k k2 r) (h1 : rInv r') (h2 : r' 1 0 = r 1 0) : Gd s k k2 r' := ⟨h.1, h.2.1, h1, by rw [h2]; exact h.2.2.2⟩
theorem Gq_rf {α : Type} {s k k2 r : sg} (h : Gd s k k2 r) {a : α} : Gq (a, s, k, r) (a, s, k2, r) := ⟨rfl, rfl, rfl, h⟩
theorem er_1 (r : sg) (j : Nat) : sEr r j 1 0 = r 1 0 := sg1_f (by decide)
theorem Gq_er {α : Type} {s k k2 r : sg} (h : Gd s k k2 r) {a : α} (j : Nat) : Gq (a, s, k, sEr r j) (a, s, k2, sEr r j) := ⟨rfl, rfl, rfl, h.r (rInv_er h.2.2.1 j) (er_1 r j)⟩
theorem Gq_s {α : Type} {s k k2 r s' : sg} (h : Gd s k k2 r) (h1 : sInv s') (h2 : sR s' = sR s) {a : α} : Gq (a, s', k, r) (a, s', k2, r) := ⟨rfl, rfl, rfl, h.s h1 (by rw [h2]; exact h.2.1)⟩
theorem Gq_r {α : Type} {s k k2 r r' : sg} (h : Gd s k k2 r) (h1 : rInv r') (h2 : r' 1 0 = r 1 0) {a : α} : Gq (a, s, k, r') (a, s, k2, r') := ⟨rfl, rfl, rfl, h.r h1 h2⟩
theorem km_ok {km : Int32} (h : 0 ≤ km ∧ km ≤ 69) : (0 ≤ (km / 10).toInt ∧ (km / 10).toInt ≤ 6) ∧ 0 ≤ (km - km / 10 * 10).toInt ∧ (km - km / 10 * 10).toInt ≤ 9 := by
  obtain ⟨n, hn, rfl⟩ := rng0_ex (n := 69) (by omega) h
  have key : ∀ n, n ≤ 69 → (0 ≤ ((nI n) / 10 : Int32).toInt ∧ ((nI n) / 10 : Int32).toInt ≤ 6) ∧ 0 ≤ (nI n - nI n / 10 * 10 : Int32).toInt ∧ (nI n - nI n / 10 * 10 : Int32).toInt ≤ 9 := by decide +kernel
  exact key n hn
theorem i32_in {v lo hi : Int32} (h : lo ≤ v ∧ v ≤ hi) : lo.toInt ≤ v.toInt ∧ v.toInt ≤ hi.toInt := ⟨Int32.le_iff_toInt_le.mp h.1, Int32.le_iff_toInt_le.mp h.2⟩
theorem inv_8 {σ : sg} (hI : sInv σ) {k : Nat} {v : Int32} : sInv (sg1 σ 8 k v) := inv_of hI (sg1_f (by decide)) (sg1_f (by decide)) (fun j => sg1_f (by decide)) (fun j => sg1_f (by decide)) (fun j => sg1_f (by decide)) (fun j => sg1_f (by decide)) (fun j => sg1_f (by decide)) (fun j hj => by rw [sg1_f (by decide)]; exact (sIk hI hj).1) (fun j hj => by rw [sg1_f (by decide)]; exact (sIk hI hj).2.1) (fun j hj => by rw [sg1_f (by decide)]; exact (sIk hI hj).2.2.2.2.2.1) (fun j hj => by rw [sg1_f (by decide)]; exact (sIk hI hj).2.2.2.2.2.2) (fun j hj => by rw [sg1_f (by decide)]; exact hI.2.2.2.2.2.2.2.2.1 j hj) (by rw [sg1_f (by decide)]; exact ⟨sR σ, hI.2.2.1⟩) (by rw [sg1_f (by decide)]; exact hI.2.2.2.1) (by rw [sg1_f (by decide)]; exact hI.2.2.2.2.1) (by rw [sg1_f (by decide)]; exact hI.2.2.2.2.2.1) (by rw [sg1_f (by decide)]; exact hI.2.2.2.2.2.2.1) (fun j hj => by rw [sg1_f (by decide)]; exact hI.2.2.2.2.2.2.2.2.2.2 j hj)
/-- one mark more -/
theorem inv_add {σ : sg} (hI : sInv σ) {km f t td : Int32} (hkm : 0 ≤ km ∧ km ≤ 69) (hf : f = -1 ∨ sIsP σ f) (ht : sIsP σ t) (hne : f ≠ t) (htd : -20 ≤ td ∧ td ≤ 20) (hM : sM σ < 8) : sInv (sAdd σ km f t td) ∧ sR (sAdd σ km f t td) = sR σ := by
  obtain ⟨k1, k2⟩ := km_ok hkm
  obtain ⟨eP, hP1, hP4⟩ := sIP hI
  have pr : ∀ x : Int32, sIsP σ x → 0 ≤ x.toInt ∧ x.toInt < (sP σ : Int) := fun x hx => by
    obtain ⟨g, hg, rfl⟩ := sIsP_ex2 hI hx
    rw [nI_toInt (by omega)]
    omega
  have e6 : ∀ k, k ≠ 0 → sAdd σ km f t td 6 k = σ 6 k := fun k hk => by
    unfold sAdd
    rw [sg1_k hk, sg1_f (by decide), sg1_f (by decide), sg1_f (by decide), sg1_f (by decide), sg1_f (by decide), sg1_f (by decide)]
  have e60 : sAdd σ km f t td 6 0 = nI (sM σ + 1) := sg1_at _ _ _ _
  have eo : ∀ g k, 6 < g → sAdd σ km f t td g k = σ g k := fun g k hg => by
    unfold sAdd
    rw [sg1_f (by omega), sg1_f (by omega), sg1_f (by omega), sg1_f (by omega), sg1_f (by omega), sg1_f (by omega), sg1_f (by omega)]
  have el : ∀ g k, g < 6 → k ≠ sM σ → sAdd σ km f t td g k = σ g k := fun g k hg hk => by
    unfold sAdd
    rw [sg1_f (by omega), sg1_k hk, sg1_k hk, sg1_k hk, sg1_k hk, sg1_k hk, sg1_k hk]
  have a0 : sAdd σ km f t td 0 (sM σ) = km / 10 := by unfold sAdd; rw [sg1_f (by decide), sg1_f (by decide), sg1_f (by decide), sg1_f (by decide), sg1_f (by decide), sg1_f (by decide), sg1_at]
  have a1 : sAdd σ km f t td 1 (sM σ) = km - km / 10 * 10 := by unfold sAdd; rw [sg1_f (by decide), sg1_f (by decide), sg1_f (by decide), sg1_f (by decide), sg1_f (by decide), sg1_at]
  have a2 : sAdd σ km f t td 2 (sM σ) = f := by unfold sAdd; rw [sg1_f (by decide), sg1_f (by decide), sg1_f (by decide), sg1_f (by decide), sg1_at]
  have a3 : sAdd σ km f t td 3 (sM σ) = t := by unfold sAdd; rw [sg1_f (by decide), sg1_f (by decide), sg1_f (by decide), sg1_at]
  have a4 : sAdd σ km f t td 4 (sM σ) = td := by unfold sAdd; rw [sg1_f (by decide), sg1_f (by decide), sg1_at]
  have a5 : sAdd σ km f t td 5 (sM σ) = 1 := by unfold sAdd; rw [sg1_f (by decide), sg1_at]
  generalize sAdd σ km f t td = τ at *
  have eM : sM τ = sM σ + 1 := by unfold sM at *; rw [e60]; exact nI_clamp (by omega)
  have ePP : sP τ = sP σ := by unfold sP; rw [e6 1 (by decide)]
  have eR : sR τ = sR σ := by unfold sR; rw [e6 2 (by decide)]
  have eC : ∀ u, sC τ u = sC σ u := fun u => by unfold sC; rw [eo 11 u (by decide)]
  obtain ⟨-, -, h3, h4, h5, h6, h7, h8, h9, h10, h11⟩ := hI
  refine ⟨⟨⟨by rw [e60, eM], by omega⟩, ⟨by rw [e6 1 (by decide), ePP]; exact eP, by omega, by omega⟩, by rw [e6 2 (by decide), eR]; exact h3, by rw [e6 3 (by decide)]; exact h4, by rw [e6 4 (by decide)]; exact h5, by rw [e6 6 (by decide)]; exact h6, by rw [e6 7 (by decide)]; exact h7, fun k hk => ?_, fun k hk => ?_, fun u hu => ?_, fun k hk => by rw [eo 7 k (by decide)]; exact h11 k hk⟩, eR⟩
  · by_cases e : k = sM σ
    · subst e
      unfold sMk
      rw [a0, a1, a2, a3, a4, a5, ePP]
      refine ⟨k1, k2, ?_, pr t ht, hne, i32_in htd, Or.inr rfl⟩
      rcases hf with rfl | hf
      · exact ⟨by decide, by rw [show (-1 : Int32).toInt = -1 from by decide]; omega⟩
      · have := pr f hf; omega
    · have hk2 : k < sM σ := by omega
      have := h8 k hk2
      unfold sMk at this ⊢
      rw [el 0 k (by decide) e, el 1 k (by decide) e, el 2 k (by decide) e, el 3 k (by decide) e, el 4 k (by decide) e, el 5 k (by decide) e, ePP]
      exact this
  · rw [el 5 k (by decide) (by omega)]
    exact h9 k (by omega)
  · have e : τ (9 + u) = σ (9 + u) := funext (fun j => eo (9 + u) j (by omega))
    rw [eo 11 u (by decide), eC, e]
    exact h10 u hu
theorem last_lt {σ : sg} (n : Int32) : ∀ m, sLast σ m < n → ∀ k, k < m → σ 2 k < n ∧ σ 3 k < n
  | 0, _, k, hk => absurd hk (Nat.not_lt_zero k)
  | m + 1, h, k, hk => by
    obtain ⟨h1, h2, h3⟩ := (sLast_s σ m n).mp h
    by_cases e : k = m
    · subst e; exact ⟨h2, h3⟩
    · exact last_lt n m h1 k (by omega)
theorem inv_pic {σ : sg} (hI : sInv σ) {n : Int32} (hn : 1 ≤ n ∧ n ≤ 4) (h : ¬ n ≤ sLast σ (sM σ)) : sInv (sg1 σ 6 1 n) ∧ sR (sg1 σ 6 1 n) = sR σ := by
  have hl := last_lt n (sM σ) (Int32.not_le.mp h)
  obtain ⟨m, m4, m1, rfl⟩ := rng_ex (n := 4) (by omega) hn
  have eM : sM (sg1 σ 6 1 (nI m)) = sM σ := sM_sg1 (Or.inr (by decide))
  have eR : sR (sg1 σ 6 1 (nI m)) = sR σ := sR_sg1 (Or.inr (by decide))
  have eP : sP (sg1 σ 6 1 (nI m)) = m := by unfold sP; rw [sg1_at]; exact nI_clamp (by omega)
  obtain ⟨h1, -, h3, h4, h5, h6, h7, h8, h9, h10, h11⟩ := hI
  refine ⟨⟨by rw [eM, sg1_k (by decide)]; exact h1, by rw [sg1_at, eP]; exact ⟨rfl, m1, m4⟩, by rw [eR, sg1_k (by decide)]; exact h3, by rw [sg1_k (by decide)]; exact h4, by rw [sg1_k (by decide)]; exact h5, by rw [sg1_k (by decide)]; exact h6, by rw [sg1_k (by decide)]; exact h7, fun k hk => ?_, fun k hk => by rw [sg1_f (by decide)]; rw [eM] at hk; exact h9 k hk, fun u hu => ?_, fun k hk => by rw [sg1_f (by decide)]; exact h11 k hk⟩, eR⟩
  · rw [eM] at hk
    have q := h8 k hk
    obtain ⟨l1, l2⟩ := hl k hk
    have l1 := Int32.lt_iff_toInt_lt.mp l1
    have l2 := Int32.lt_iff_toInt_lt.mp l2
    rw [nI_toInt (by omega)] at l1 l2
    unfold sMk at q ⊢
    rw [sg1_f (by decide), sg1_f (by decide), sg1_f (by decide), sg1_f (by decide), sg1_f (by decide), sg1_f (by decide), eP]
    exact ⟨q.1, q.2.1, ⟨q.2.2.1.1, l1⟩, ⟨q.2.2.2.1.1, l2⟩, q.2.2.2.2⟩
  · have e : sg1 σ 6 1 (nI m) (9 + u) = σ (9 + u) := funext (fun j => sg1_f (by omega))
    have e2 : sC (sg1 σ 6 1 (nI m)) u = sC σ u := by unfold sC; rw [sg1_f (by decide)]
    rw [sg1_f (by decide), e2, e]
    exact h10 u hu
theorem inv_unt {σ : sg} (hI : sInv σ) {u : Nat} (hu : u < 2) : sInv (sUnt σ u) ∧ sR (sUnt σ u) = sR σ := by
  have e : ∀ f k, f < 9 → sUnt σ u f k = σ f k := fun f k hf => by
    unfold sUnt
    rw [if_neg (by omega), if_neg (by omega)]
  have eM : sM (sUnt σ u) = sM σ := by unfold sM; rw [e 6 0 (by decide)]
  have eP : sP (sUnt σ u) = sP σ := by unfold sP; rw [e 6 1 (by decide)]
  have eR : sR (sUnt σ u) = sR σ := by unfold sR; rw [e 6 2 (by decide)]
  obtain ⟨h1, h2, h3, h4, h5, h6, h7, h8, h9, h10, h11⟩ := hI
  refine ⟨⟨by rw [eM, e 6 0 (by decide)]; exact h1, by rw [eP, e 6 1 (by decide)]; exact h2, by rw [eR, e 6 2 (by decide)]; exact h3, by rw [e 6 3 (by decide)]; exact h4, by rw [e 6 4 (by decide)]; exact h5, by rw [e 6 6 (by decide)]; exact h6, by rw [e 6 7 (by decide)]; exact h7, fun k hk => ?_, fun k hk => by rw [e 5 k (by decide)]; rw [eM] at hk; exact h9 k hk, fun v hv => ?_, fun k hk => by rw [e 7 k (by decide)]; exact h11 k hk⟩, eR⟩
  · rw [eM] at hk
    have q := h8 k hk
    unfold sMk at q ⊢
    rw [e 0 k (by decide), e 1 k (by decide), e 2 k (by decide), e 3 k (by decide), e 4 k (by decide), e 5 k (by decide), eP]
    exact q
  · by_cases ev : v = u
    · subst ev
      have e11 : sUnt σ v 11 v = 0 := if_pos ⟨rfl, rfl⟩
      have ec : sC (sUnt σ v) v = 0 := by unfold sC; rw [e11]; decide
      rw [e11, ec]
      exact ⟨rfl, by omega, fun i hi => absurd hi (Nat.not_lt_zero i), fun h => absurd h (Nat.lt_irrefl 0)⟩
    · have e11 : sUnt σ u 11 v = σ 11 v := by unfold sUnt; rw [if_neg (fun q => ev q.2), if_neg (by omega)]
      have ef : sUnt σ u (9 + v) = σ (9 + v) := funext (fun j => by unfold sUnt; rw [if_neg (by omega), if_neg (by omega)])
      have ec : sC (sUnt σ u) v = sC σ v := by unfold sC; rw [e11]
      rw [e11, ec, ef]
      exact h10 v hv
theorem inv_tel {r : sg} {s : Nat} : ∀ n i σ, sInv σ → i + n ≤ 24 → sInv (sTel r s n i σ).2 ∧ sR (sTel r s n i σ).2 = sR σ
  | 0, _, _, h, _ => ⟨h, rfl⟩
  | n + 1, i, σ, h, hn => by
    rw [sTel]
    by_cases c : -20 ≤ r (2 + s) i ∧ r (2 + s) i ≤ 20
    · rw [if_pos c]
      obtain ⟨q1, q2⟩ := inv_tel (r := r) (s := s) n (i + 1) _ (inv_4 (k := i) h (i32_in c)) (by omega)
      exact ⟨q1, by rw [q2]; exact sR_sg1 (Or.inl (by decide))⟩
    · rw [if_neg c]; exact ⟨h, rfl⟩
theorem rInv_lay {r : sg} (h : rInv r) {x : Nat} (hx : x < 4) {b len : Int32} (hb : sBit b) (hl : ∃ n, len = nI n ∧ n ≤ 24) : ∀ i, i ≤ 24 → rInv (sLay r x b len i) ∧ sLay r x b len i 1 0 = r 1 0
  | 0, _ => by
    refine ⟨⟨?_, fun s hs => ?_⟩, ?_⟩
    · rw [sLay, sg1_f (by decide), sg1_f (by decide)]; exact h.1
    · rw [sLay]
      by_cases e : s = x
      · subst e
        rw [sg1_at, sg1_f (show (6 : Nat) ≠ 7 by decide), sg1_at]
        exact ⟨hl, hb⟩
      · rw [sg1_k e, sg1_f (show (7 : Nat) ≠ 6 by decide), sg1_f (show (6 : Nat) ≠ 7 by decide), sg1_k e]
        exact h.2 s hs
    · rw [sLay, sg1_f (by decide), sg1_f (by decide)]
  | i + 1, hi => by
    obtain ⟨⟨q1, q2⟩, q3⟩ := rInv_lay h hx hb hl i (by omega)
    have e : ∀ f k, (f < 2 ∨ 5 < f) → sLay r x b len (i + 1) f k = sLay r x b len i f k := fun f k hf => by rw [sLay]; exact sg1_f (by omega)
    refine ⟨⟨by rw [e 9 0 (by decide)]; exact q1, fun s hs => ?_⟩, by rw [e 1 0 (by decide)]; exact q3⟩
    rw [e 7 s (by decide), e 6 s (by decide)]
    exact q2 s hs
theorem rInv_any {r r' : sg} (h : rInv r) (e : ∀ f k, (f < 2 ∨ 5 < f) → r' f k = r f k) : rInv r' ∧ r' 1 0 = r 1 0 := by
  refine ⟨⟨by rw [e 9 0 (by decide)]; exact h.1, fun s hs => ?_⟩, e 1 0 (by decide)⟩
  rw [e 7 s (by decide), e 6 s (by decide)]
  exact h.2 s hs
theorem rInv_rT {r : sg} (h : rInv r) {z : vS} (hz : vOk z) : rInv (rT r z) ∧ rT r z 1 0 = r 1 0 := by
  obtain ⟨t, h1, h2⟩ := hz
  refine ⟨⟨⟨t, ?_, h1⟩, fun s hs => h.2 s hs⟩, rfl⟩
  show (if 0 = 0 then z.2.1 else 0) = nI t
  rw [if_pos rfl, h2]
