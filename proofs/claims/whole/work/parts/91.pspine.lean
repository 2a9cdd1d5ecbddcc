/-! ===== pure: the spine ===== -/
/-! the spine -/
/-- a mark's ends, as bits (the ground: bit 0) -/
def eN (σ : sg) (k : Nat) : Nat := 2 ^ ((σ 2 k).toInt + 1).toNat ||| 2 ^ ((σ 3 k).toInt + 1).toNat
theorem or_sub {a b c : Nat} (h1 : a ||| c = c) (h2 : b ||| c = c) : (a ||| b) ||| c = c := by rw [Nat.or_assoc, h2, h1]
theorem or_tr {a b c : Nat} (h1 : a ||| b = b) (h2 : b ||| c = c) : a ||| c = c := by rw [← h2, ← Nat.or_assoc, h1]
theorem or_bit {a b : Nat} (h : a ||| b = b) {i : Nat} (hi : a.testBit i = true) : b.testBit i = true := by rw [← h, Nat.testBit_or, hi]; rfl
theorem or_of {a b : Nat} (h : ∀ i, a.testBit i = true → b.testBit i = true) : a ||| b = b := by
  apply Nat.eq_of_testBit_eq
  intro i
  rw [Nat.testBit_or]
  by_cases q : a.testBit i = true
  · rw [q, h i q]; rfl
  · rw [Bool.not_eq_true _ |>.mp q, Bool.false_or]
theorem or_le {a b : Nat} (h : a ||| b = b) : a ≤ b := by rw [← h]; exact Nat.left_le_or
theorem sub_and {t C e : Nat} (h : t ||| C = C) (hz : t &&& e ≠ 0) : C &&& e ≠ 0 := fun q => hz (by
  apply Nat.eq_of_testBit_eq
  intro i
  rw [Nat.testBit_and, Nat.zero_testBit]
  by_cases a : t.testBit i = true
  · have b := or_bit h a
    have c : (C &&& e).testBit i = false := by rw [q, Nat.zero_testBit]
    rw [Nat.testBit_and, b, Bool.true_and] at c
    rw [a, c]; rfl
  · rw [Bool.not_eq_true _ |>.mp a, Bool.false_and])
theorem zbn1 : ∀ U, U < 256 → ∀ m, m < 8 → ¬ U.testBit m = true → sBn (U ||| 2 ^ m) 8 = sBn U 8 + 1 ∧ U ||| 2 ^ m < 256 := by decide +kernel
theorem zgr : ∀ t, t < 32 → ∀ a, a < 5 → ∀ b, b < 5 → t &&& (2 ^ a ||| 2 ^ b) ≠ 0 → ¬ (2 ^ a ||| 2 ^ b) ||| t = t → zCnt (t ||| (2 ^ a ||| 2 ^ b)) = zCnt t + 1 := by decide +kernel
theorem sBn_mo {U S : Nat} (h : ∀ k, U.testBit k = true → S.testBit k = true) : ∀ n, sBn U n ≤ sBn S n
  | 0 => Nat.le_refl 0
  | n + 1 => by
    have := sBn_mo h n
    rw [sBn, sBn]
    by_cases q : U.testBit n = true
    · rw [if_pos q, if_pos (h n q)]; omega
    · rw [if_neg q]; omega
/-- of a set's marks those that have tied one more -/
def vT (σ : sg) (S t : Nat) : Prop := ∃ U, U < 256 ∧ (∀ k, U.testBit k = true → S.testBit k = true ∧ k < sM σ) ∧ sBn U 8 + 1 = zCnt t ∧ (∀ k, U.testBit k = true → eN σ k ||| t = t) ∧ ∀ C, 1 ||| C = C → (∀ k, U.testBit k = true → C &&& eN σ k ≠ 0 → eN σ k ||| C = C) → t ||| C = C
theorem eN_r {σ : sg} (hI : sInv σ) {k : Nat} (hk : k < sM σ) : ∃ a b, a < 5 ∧ b < 5 ∧ eN σ k = 2 ^ a ||| 2 ^ b := by
  obtain ⟨-, -, q2, q3, -⟩ := sIk hI hk
  have h4 := (sIP hI).2.2
  exact ⟨_, _, by omega, by omega, rfl⟩
theorem pass_v {σ : sg} (hI : sInv σ) {S t0 : Nat} (h0 : t0 < 2 ^ (sP σ + 1)) (hv : vT σ S t0) : ∀ m, m ≤ sM σ → vT σ S (sPass σ S m t0)
  | 0, _ => hv
  | m + 1, hm => by
    have ih := pass_v hI h0 hv m (by omega)
    have hP4 : 2 ^ (sP σ + 1) ≤ 32 := by rw [show 32 = 2 ^ 5 from rfl]; exact Nat.pow_le_pow_right (by omega) (by have := (sIP hI).2.2; omega)
    have hlt := (sPass_in (S := S) hI h0 m (by omega)).1
    have h8 := (sIM hI).2
    obtain ⟨a, b, ha, hb, eab⟩ := eN_r hI (k := m) (by omega)
    rw [sPass_s]
    show vT σ S (if S.testBit m = true ∧ sPass σ S m t0 &&& eN σ m ≠ 0 then sPass σ S m t0 ||| eN σ m else sPass σ S m t0)
    generalize sPass σ S m t0 = t at ih hlt
    by_cases hc : S.testBit m = true ∧ t &&& eN σ m ≠ 0
    · rw [if_pos hc]
      by_cases hin : eN σ m ||| t = t
      · rw [Nat.or_comm, hin]; exact ih
      · obtain ⟨U, hU, u1, u2, u3, u4⟩ := ih
        have hmU : ¬ U.testBit m = true := fun q => hin (u3 m q)
        obtain ⟨z1, z2⟩ := zbn1 U hU m (by omega) hmU
        have z3 := zgr t (by omega) a ha b hb (by rw [← eab]; exact hc.2) (by rw [← eab]; exact hin)
        rw [← eab] at z3
        have hbit : ∀ k, (U ||| 2 ^ m).testBit k = true → U.testBit k = true ∨ k = m := fun k q => by
          rw [Nat.testBit_or, Bool.or_eq_true, Nat.testBit_two_pow, decide_eq_true_eq] at q
          exact q.imp_right (fun e => e.symm)
        have hm2 : (U ||| 2 ^ m).testBit m = true := by rw [Nat.testBit_or, Nat.testBit_two_pow_self, Bool.or_true]
        have hsub : ∀ k, U.testBit k = true → (U ||| 2 ^ m).testBit k = true := fun k q => by rw [Nat.testBit_or, q]; rfl
        refine ⟨U ||| 2 ^ m, z2, fun k q => ?_, by omega, fun k q => ?_, fun C h1 hC => ?_⟩
        · rcases hbit k q with q | rfl
          · exact u1 k q
          · exact ⟨hc.1, by omega⟩
        · rcases hbit k q with q | rfl
          · rw [← Nat.or_assoc, u3 k q]
          · rw [Nat.or_comm t, ← Nat.or_assoc, Nat.or_self]
        · have h2 := u4 C h1 (fun k q => hC k (hsub k q))
          exact or_sub h2 (hC m hm2 (sub_and h2 hc.2))
    · rw [if_neg hc]; exact ih
theorem passes_v {σ : sg} (hI : sInv σ) (S : Nat) : ∀ n, vT σ S (sPasses σ S n)
  | 0 => ⟨0, by decide, fun k q => by rw [Nat.zero_testBit] at q; exact absurd q (by decide), by rw [sPasses]; decide, fun k q => by rw [Nat.zero_testBit] at q; exact absurd q (by decide), fun C h _ => by rw [sPasses]; exact h⟩
  | n + 1 => by rw [sPasses]; exact pass_v hI (sPs_in hI n) (passes_v hI S n) _ (Nat.le_refl _)
theorem passes_1 {σ : sg} (hI : sInv σ) (S : Nat) : ∀ n, 1 ||| sPasses σ S n = sPasses σ S n
  | 0 => by rw [sPasses]; rfl
  | n + 1 => or_tr (passes_1 hI S n) (by rw [sPasses]; exact (sPass_in hI (sPs_in hI n) _ (Nat.le_refl _)).2)
theorem zful2 : ∀ P, P ≤ 4 → zCnt (2 ^ (P + 1) - 1) = P + 1 ∧ (2 ^ (P + 1) - 1) >>> 1 = 2 ^ P - 1 := by decide +kernel
theorem zful3 : ∀ P, P ≤ 4 → ∀ t, t < 2 ^ (P + 1) → 1 ||| t = t → t >>> 1 = 2 ^ P - 1 → t = 2 ^ (P + 1) - 1 := by decide +kernel
theorem tied_full {σ : sg} (hI : sInv σ) {S : Nat} (h : sTied σ S = 2 ^ sP σ - 1) : sPasses σ S (sP σ) = 2 ^ (sP σ + 1) - 1 := zful3 _ (sIP hI).2.2 _ (sPs_in hI _) (passes_1 hI S _) h
/-- each set by which all are tied has as many marks as there are pictures, and one of just so many in it -/
theorem tied_sub {σ : sg} (hI : sInv σ) {S : Nat} (h : sTied σ S = 2 ^ sP σ - 1) : ∃ U, U < 256 ∧ (∀ k, U.testBit k = true → S.testBit k = true ∧ k < sM σ) ∧ sBn U 8 = sP σ ∧ sTied σ U = 2 ^ sP σ - 1 := by
  have hf := tied_full hI h
  have hP := (sIP hI).2
  obtain ⟨U, u0, u1, u2, u3, u4⟩ := passes_v hI S (sP σ)
  rw [hf] at u2 u3 u4
  rw [(zful2 _ hP.2).1] at u2
  refine ⟨U, u0, u1, by omega, ?_⟩
  have hfix : sPass σ U (sM σ) (sPasses σ U (sP σ)) = sPasses σ U (sP σ) := sPs_P (S := U) hI (n := sP σ + 1) (by omega)
  have hin := sPs_in (S := U) hI (sP σ)
  have h1 := passes_1 hI U (sP σ)
  unfold sTied
  generalize sPasses σ U (sP σ) = C at hfix hin h1 ⊢
  have step : ∀ m, sPass σ U m C ≤ sPass σ U (m + 1) C := fun m => by
    rw [sPass_s]
    split
    · exact Nat.left_le_or
    · exact Nat.le_refl _
  have mono : ∀ d m, sPass σ U m C ≤ sPass σ U (m + d) C := by
    intro d
    induction d with
    | zero => intro m; exact Nat.le_refl _
    | succ d ih => intro m; exact Nat.le_trans (ih m) (step (m + d))
  have hall : ∀ m, m ≤ sM σ → sPass σ U m C = C := fun m hm => by
    have a := mono (sM σ - m) m
    rw [show m + (sM σ - m) = sM σ by omega, hfix] at a
    exact Nat.le_antisymm a (or_le (sPass_in (S := U) hI hin m hm).2)
  have hcl : ∀ k, U.testBit k = true → C &&& eN σ k ≠ 0 → eN σ k ||| C = C := fun k q z => by
    have a := hall (k + 1) (u1 k q).2
    rw [sPass_s, hall k (Nat.le_of_lt (u1 k q).2), if_pos ⟨q, z⟩, Nat.or_comm] at a
    exact a
  have e := zFull _ hP.2 C hin (u4 C h1 hcl)
  show C >>> 1 = 2 ^ sP σ - 1
  rw [e]
  exact (zful2 _ hP.2).2
/-- a set of those that are on by which all are tied -/
def gS (σ : sg) (S : Nat) : Prop := S < 256 ∧ (nI S &&& (nI (sSet σ) ^^^ (-1))) = 0 ∧ sTied σ S = 2 ^ sP σ - 1
theorem gS_bn {σ : sg} (hI : sInv σ) {S : Nat} (h : gS σ S) : sP σ ≤ sBn S 8 := by
  obtain ⟨U, -, u1, u2, -⟩ := tied_sub hI h.2.2
  rw [← u2]
  exact sBn_mo (fun k q => (u1 k q).1) 8
theorem gS_le {σ : sg} (hI : sInv σ) {S : Nat} (h : gS σ S) : S ≤ sSet σ := by
  have hs := (bt_and _ _ h.1 (sSet_lt2 hI)).mp h.2.1
  refine or_le (or_of (fun i hi => ?_))
  by_cases h8 : i < 8
  · exact hs i h8 hi
  · rw [Nat.testBit_lt_two_pow (Nat.lt_of_lt_of_le h.1 (show 2 ^ 8 ≤ 2 ^ i from Nat.pow_le_pow_right (by omega) (by omega)))] at hi
    exact absurd hi (by decide)
theorem gS_ex {σ : sg} (hI : sInv σ) (h : mHol σ) : ∃ U, gS σ U ∧ sBn U 8 = sP σ := by
  obtain ⟨U, u0, u1, u2, u3⟩ := tied_sub hI h
  exact ⟨U, ⟨u0, (bt_and _ _ u0 (sSet_lt2 hI)).mpr (fun k _ q => (u1 k q).1), u3⟩, u2⟩
theorem gS_on {σ : sg} (hI : sInv σ) (h : mHol σ) : gS σ (sSet σ) := ⟨sSet_lt2 hI, (bt_and _ _ (sSet_lt2 hI) (sSet_lt2 hI)).mpr (fun _ _ q => q), h⟩
theorem wA_b {σ : sg} (S : Nat) : ∀ n, n ≤ 8 → (sWAll σ S n).toInt ≤ 4 * n ∧ (sBn S n : Int) ≤ (sWAll σ S n).toInt
  | 0, _ => ⟨by show (0 : Int32).toInt ≤ _; decide, by show ((0 : Nat) : Int) ≤ (0 : Int32).toInt; decide⟩
  | n + 1, hn => by
    obtain ⟨h1, h2⟩ := wA_b (σ := σ) S n (by omega)
    have hW := sW_b σ n
    rw [sWAll, sBn]
    by_cases q : S.testBit n = true
    · rw [if_pos q, if_pos q, Int32.toInt_add]
      have hb : (0 : Int) ≤ (sBn S n : Int) := Int.natCast_nonneg _
      rw [Int.bmod_eq_of_le (by omega) (by omega)]
      omega
    · rw [if_neg q, if_neg q, Int32.add_zero]; omega
theorem bn_top {σ : sg} {S : Nat} (h : ∀ k, k < 8 → S.testBit k = true → k < sM σ) : ∀ n, sM σ + n ≤ 8 → sBn S (sM σ + n) = sBn S (sM σ)
  | 0, _ => rfl
  | n + 1, hn => by
    rw [← Nat.add_assoc, sBn, bn_top h n (by omega), if_neg (fun q => by have := h (sM σ + n) (by omega) q; omega), Nat.add_zero]
theorem gS_w {σ : sg} (hI : sInv σ) {S : Nat} (h : gS σ S) : 0 < sWAll σ S (sM σ) := by
  have h8 := (sIM hI).2
  have hs := (bt_and _ _ h.1 (sSet_lt2 hI)).mp h.2.1
  have hk : ∀ k, k < 8 → S.testBit k = true → k < sM σ := fun k hk q => by
    have t := hs k hk q
    apply Decidable.byContradiction
    intro hn
    have hl := sOn_l2 σ (sM σ)
    have f : (sSet σ).testBit k = false := Nat.testBit_lt_two_pow (Nat.lt_of_lt_of_le hl (Nat.pow_le_pow_right (by omega) (by omega)))
    exact absurd (f.symm.trans t) (by decide)
  have hb := bn_top hk (8 - sM σ) (by omega)
  rw [show sM σ + (8 - sM σ) = 8 by omega] at hb
  have h1 := gS_bn hI h
  have h2 := (wA_b (σ := σ) S (sM σ) h8).2
  have hP := (sIP hI).2.1
  rw [Int32.lt_iff_toInt_lt, show (0 : Int32).toInt = 0 from by decide]
  omega
abbrev wS (σ : sg) (S : Nat) : Int := (sWAll σ S (sM σ)).toInt
/-- one set stands ahead of another, or is it -/
def rkS (σ : sg) (b S : Nat) : Prop := sBn b 8 < sBn S 8 ∨ (sBn b 8 = sBn S 8 ∧ (wS σ S < wS σ b ∨ (wS σ S = wS σ b ∧ b ≤ S)))
theorem msp_v {σ : sg} (hI : sInv σ) (hH : mHol σ) : ∀ n, n ≤ sSet σ + 1 → gS σ (mSp σ n) ∧ ∀ S, gS σ S → S ≤ sSet σ → sSet σ < S + n → rkS σ (mSp σ n) S
  | 0, _ => ⟨gS_on hI hH, fun S _ h1 h2 => by omega⟩
  | n + 1, hn => by
    obtain ⟨h1, h2⟩ := msp_v hI hH n (by omega)
    have hon := sSet_lt2 hI
    rw [mSp]
    unfold mSt
    by_cases c : ((nI (sSet σ - n) &&& (nI (sSet σ) ^^^ (-1))) = 0 ∧ sBn (sSet σ - n) 8 ≤ sBn (mSp σ n) 8 ∧ sTied σ (sSet σ - n) = 2 ^ sP σ - 1) ∧ (sBn (sSet σ - n) 8 < sBn (mSp σ n) 8 ∨ sWAll σ (mSp σ n) (sM σ) ≤ sWAll σ (sSet σ - n) (sM σ))
    · rw [if_pos c]
      refine ⟨⟨by omega, c.1.1, c.1.2.2⟩, fun S g1 g2 g3 => ?_⟩
      by_cases e : S = sSet σ - n
      · exact Or.inr ⟨by rw [e], Or.inr ⟨by rw [e], by omega⟩⟩
      · have r := h2 S g1 g2 (by omega)
        rcases c.2 with c2 | c2
        · unfold rkS at r ⊢; omega
        · have c3 := Int32.le_iff_toInt_le.mp c2
          have c4 := c.1.2.1
          unfold rkS at r ⊢
          unfold wS at r ⊢
          omega
    · rw [if_neg c]
      refine ⟨h1, fun S g1 g2 g3 => ?_⟩
      by_cases e : S = sSet σ - n
      · subst e
        unfold rkS
        by_cases q1 : sBn (mSp σ n) 8 < sBn (sSet σ - n) 8
        · exact Or.inl q1
        · have q2 : ¬ (sBn (sSet σ - n) 8 < sBn (mSp σ n) 8 ∨ sWAll σ (mSp σ n) (sM σ) ≤ sWAll σ (sSet σ - n) (sM σ)) := fun q => c ⟨⟨g1.2.1, by omega, g1.2.2⟩, q⟩
          have q3 : ¬ sWAll σ (mSp σ n) (sM σ) ≤ sWAll σ (sSet σ - n) (sM σ) := fun q => q2 (Or.inr q)
          have q4 : ¬ sBn (sSet σ - n) 8 < sBn (mSp σ n) 8 := fun q => q2 (Or.inl q)
          rw [Int32.le_iff_toInt_le] at q3
          unfold wS
          omega
      · exact h2 S g1 g2 (by omega)
theorem ssp_v {σ : sg} (hI : sInv σ) : ∀ n, n ≤ 256 → (sSp σ n = (0, 0) ∧ ∀ S, S < n → gS σ S → sBn S 8 ≠ sP σ) ∨ ∃ b, b < n ∧ sSp σ n = (b, sWAll σ b (sM σ)) ∧ gS σ b ∧ sBn b 8 = sP σ ∧ ∀ S, S < n → gS σ S → sBn S 8 = sP σ → wS σ S < wS σ b ∨ (wS σ S = wS σ b ∧ b ≤ S)
  | 0, _ => Or.inl ⟨rfl, fun S h => absurd h (Nat.not_lt_zero S)⟩
  | n + 1, hn => by
    have hP := (sIP hI).2.1
    rw [sSp]
    have hgood : ∀ best, (n ≠ 0 ∧ sSpC σ n best) ↔ (gS σ n ∧ sBn n 8 = sP σ ∧ best < sWAll σ n (sM σ)) := fun best => by
      constructor
      · rintro ⟨-, q1, q2, q3, q4⟩
        exact ⟨⟨by omega, q2, q3⟩, q1, q4⟩
      · rintro ⟨q1, q2, q3⟩
        refine ⟨fun e => ?_, q2, q1.2.1, q1.2.2, q3⟩
        rw [e] at q2
        rw [show sBn 0 8 = 0 from by decide] at q2
        omega
    rcases ssp_v hI n (by omega) with ⟨e, h⟩ | ⟨b, hb, e, h1, h2, h3⟩
    · rw [e]
      by_cases c : n ≠ 0 ∧ sSpC σ n (0 : Int32)
      · rw [if_pos c]
        obtain ⟨g1, g2, -⟩ := (hgood 0).mp c
        refine Or.inr ⟨n, Nat.lt_succ_self n, rfl, g1, g2, fun S hS q1 q2 => ?_⟩
        by_cases eS : S = n
        · rw [eS]; exact Or.inr ⟨rfl, Nat.le_refl n⟩
        · exact absurd q2 (h S (by omega) q1)
      · rw [if_neg c]
        refine Or.inl ⟨rfl, fun S hS q1 q2 => ?_⟩
        by_cases eS : S = n
        · rw [eS] at q1 q2
          exact c ((hgood 0).mpr ⟨q1, q2, gS_w hI q1⟩)
        · exact h S (by omega) q1 q2
    · rw [e]
      by_cases c : n ≠ 0 ∧ sSpC σ n (sWAll σ b (sM σ))
      · rw [if_pos c]
        obtain ⟨g1, g2, g3⟩ := (hgood _).mp c
        have g4 := Int32.lt_iff_toInt_lt.mp g3
        refine Or.inr ⟨n, Nat.lt_succ_self n, rfl, g1, g2, fun S hS q1 q2 => ?_⟩
        by_cases eS : S = n
        · rw [eS]; exact Or.inr ⟨rfl, Nat.le_refl n⟩
        · have := h3 S (by omega) q1 q2
          unfold wS at this ⊢
          omega
      · rw [if_neg c]
        refine Or.inr ⟨b, by omega, rfl, h1, h2, fun S hS q1 q2 => ?_⟩
        by_cases eS : S = n
        · rw [eS] at q1 q2 ⊢
          have q3 : ¬ sWAll σ b (sM σ) < sWAll σ n (sM σ) := fun q => c ((hgood _).mpr ⟨q1, q2, q⟩)
          rw [Int32.lt_iff_toInt_lt] at q3
          unfold wS
          omega
        · exact h3 S (by omega) q1 q2
theorem spine_eq {s : sg} (hI : sInv s) (k r : sg) : sm_spine s k r = sq_spine s k r := by
  unfold sm_spine sq_spine
  by_cases hH : sTied s (sSet s) = 2 ^ sP s - 1
  · rw [if_pos hH, if_pos hH]
    obtain ⟨m1, m2⟩ := msp_v hI hH (sSet s + 1) (Nat.le_refl _)
    obtain ⟨U, u1, u2⟩ := gS_ex hI hH
    rcases ssp_v hI 256 (Nat.le_refl _) with ⟨-, h⟩ | ⟨b, -, e, h1, h2, h3⟩
    · exact absurd u2 (h U u1.1 u1)
    · rw [e]
      have q1 := m2 b h1 (gS_le hI h1) (by omega)
      have q2 := gS_bn hI m1
      unfold rkS at q1
      have q3 := h3 _ m1.1 m1 (by omega)
      have q4 : mSp s (sSet s + 1) = b := by omega
      rw [q4]
  · rw [if_neg hH, if_neg hH]
