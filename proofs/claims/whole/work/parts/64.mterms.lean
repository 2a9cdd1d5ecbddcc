/-! ===== the reference: lowest terms ===== -/
/-! ===== the reference: lowest terms ===== -/
theorem lNt {n : Nat} (h : n < 2 ^ 63) : (lN n).toInt = (n : Int) := lg_ofNat_toInt h
theorem lN_mod {a b : Nat} (ha : a < 2 ^ 63) (hb : b < 2 ^ 63) (h0 : 0 < b) : lN a - lN a / lN b * lN b = lN (a % b) := by
  have hd : lN a / lN b = lN (a / b) := by
    apply Int64.toInt_inj.mp
    rw [Int64.toInt_div_of_ne_right (lN a) (lN b) (fun q => by have h := congrArg Int64.toInt q; rw [lNt hb, show (-1 : Int64).toInt = -1 from by decide] at h; omega)]
    have : a / b ≤ a := Nat.div_le_self _ _
    rw [lNt ha, lNt hb, lNt (by omega)]
    exact Int.ofNat_tdiv a b
  have h1 := Nat.div_add_mod a b
  have h2 : a / b * b ≤ a := Nat.div_mul_le_self a b
  have hs : a % b = a - a / b * b := by rw [Nat.mul_comm] at h1; omega
  rw [hd, show lN (a / b) * lN b = lN (a / b * b) from (Int64.ofNat_mul _ _).symm, hs]
  apply Int64.toInt_inj.mp
  rw [Int64.toInt_sub, lNt ha, lNt (by omega), lNt (by omega)]
  have e : ((a - a / b * b : Nat) : Int) = (a : Int) - ((a / b * b : Nat) : Int) := by omega
  rw [e]
  exact Int.bmod_eq_of_le (by omega) (by omega)
theorem lN_0 : lN 0 = 0 := rfl
theorem lN_e {a b : Nat} (ha : a < 2 ^ 63) (hb : b < 2 ^ 63) : lN a = lN b ↔ a = b := ⟨fun q => by have h := congrArg Int64.toInt q; rw [lNt ha, lNt hb] at h; omega, fun q => by rw [q]⟩
/-- two steps halve the second number -/
theorem sGcd_g : ∀ (k n a b : Nat), a < 2 ^ 63 → b < 2 ^ k → k ≤ 63 → 2 * k + 1 ≤ n → sGcd n (lN a) (lN b) = lN (Nat.gcd a b)
  | 0, n, a, b, _, hb, _, hn => by
    obtain rfl : b = 0 := by omega
    obtain ⟨m, rfl⟩ : ∃ m, n = m + 1 := ⟨n - 1, by omega⟩
    rw [sGcd, if_pos lN_0, Nat.gcd_zero_right]
  | k + 1, n, a, b, ha, hb, hk, hn => by
    obtain ⟨m, rfl⟩ : ∃ m, n = m + 2 := ⟨n - 2, by omega⟩
    have hk63 : 2 ^ (k + 1) ≤ 2 ^ 63 := Nat.pow_le_pow_right (by omega) hk
    have hp : 2 ^ (k + 1) = 2 * 2 ^ k := by rw [Nat.pow_succ]; omega
    rw [sGcd]
    by_cases h0 : b = 0
    · subst h0
      rw [if_pos lN_0, Nat.gcd_zero_right]
    · have hb0 : 0 < b := Nat.pos_of_ne_zero h0
      rw [if_neg (fun q => h0 ((lN_e (by omega) (by omega)).mp (q.trans lN_0.symm))), lN_mod ha (by omega) hb0]
      have hr : a % b < b := Nat.mod_lt a hb0
      have g1 : Nat.gcd a b = Nat.gcd b (a % b) := by rw [Nat.gcd_comm a b, Nat.gcd_rec b a, Nat.gcd_comm]
      rw [g1, sGcd]
      by_cases h1 : a % b = 0
      · rw [h1, if_pos lN_0, Nat.gcd_zero_right]
      · have hr0 : 0 < a % b := Nat.pos_of_ne_zero h1
        rw [if_neg (fun q => h1 ((lN_e (by omega) (by omega)).mp (q.trans lN_0.symm))), lN_mod (by omega) (by omega) hr0]
        have hr2 : b % (a % b) < a % b := Nat.mod_lt _ hr0
        have hh : b % (a % b) < 2 ^ k := by
          have h3 := Nat.div_add_mod b (a % b)
          have h4 : 0 < b / (a % b) := Nat.div_pos (by omega) hr0
          have h5 : a % b ≤ (a % b) * (b / (a % b)) := Nat.le_mul_of_pos_right _ h4
          omega
        have g2 : Nat.gcd b (a % b) = Nat.gcd (a % b) (b % (a % b)) := by rw [Nat.gcd_comm b (a % b), Nat.gcd_rec (a % b) b, Nat.gcd_comm]
        rw [g2]
        exact sGcd_g k m (a % b) (b % (a % b)) (by omega) hh (by omega) (by omega)
/-- a part in lowest terms, as the reference works it out -/
def mPart (up down : Int64) (p : Int32) : Int64 := (if p = 0 then up else down) / lN (Nat.gcd up.toInt.natAbs down.toInt.natAbs)
theorem sAbs_n {u : Int64} (h : -(2 ^ 63) < u.toInt) : sAbs u = lN u.toInt.natAbs ∧ u.toInt.natAbs < 2 ^ 63 := by
  have hu := Int64.toInt_lt u
  have hlt : u.toInt.natAbs < 2 ^ 63 := by omega
  refine ⟨?_, hlt⟩
  apply Int64.toInt_inj.mp
  rw [lNt hlt]
  unfold sAbs
  by_cases h0 : 0 < u
  · rw [if_pos h0]
    have := Int64.lt_iff_toInt_lt.mp h0
    rw [show (0 : Int64).toInt = 0 from by decide] at this
    omega
  · rw [if_neg h0]
    have := Int64.le_iff_toInt_le.mp (Int64.not_lt.mp h0)
    rw [show (0 : Int64).toInt = 0 from by decide] at this
    rw [Int64.toInt_neg, Int.bmod_eq_of_le (by omega) (by omega)]
    omega
theorem lN_n {u : Int64} (h : 0 < u.toInt) : u = lN u.toInt.natAbs := Int64.toInt_inj.mp (by rw [lNt (by have := Int64.toInt_lt u; omega)]; omega)
theorem mPart_s {u d : Int64} {p : Int32} (hu : -(2 ^ 63) < u.toInt) (hd : 0 < d.toInt) : sPart u d p = mPart u d p := by
  have hdl := Int64.toInt_lt d
  unfold sPart mPart sQuo
  have e : sGcd 128 (sAbs u) d = lN (Nat.gcd u.toInt.natAbs d.toInt.natAbs) := by
    rw [(sAbs_n hu).1]
    have := sGcd_g 63 128 u.toInt.natAbs d.toInt.natAbs (sAbs_n hu).2 (by omega) (Nat.le_refl _) (by omega)
    rw [← lN_n hd] at this
    exact this
  rw [e]
  have hg : 0 < Nat.gcd u.toInt.natAbs d.toInt.natAbs := Nat.gcd_pos_of_pos_right _ (by omega)
  have hgl : Nat.gcd u.toInt.natAbs d.toInt.natAbs ≤ d.toInt.natAbs := Nat.gcd_le_right _ (by omega)
  rw [if_neg (fun q => by have := (lN_e (by omega) (by omega)).mp (q.trans lN_0.symm); omega)]
set_option maxHeartbeats 4000000 in
set_option maxRecDepth 100000 in
theorem l_mgcd {G : jG} {w : jWd} {up dn : Int64} {p : Int32} : ∀ b : Nat, ∀ a : Nat, a < 2 ^ 63 → b < 2 ^ 63 → ∀ (Q : Option Value → jWd → Prop) (_ : Nat.gcd a b ≠ 0 ∧ Q (some (.long ((if p = 0 then up else dn) / lN (Nat.gcd a b)))) w), J G (jM G 0 RX7 cX7_inTerms 11 (some .long) (Q)) w 17 [some (.long up), none, some (.long dn), none, some (.int p), some (.long (lN a)), none, some (.long (lN b)), none, none, none] [] := by
  intro b
  induction b using Nat.strongRecOn with
  | _ b ih =>
    intro a ha hb Q hQ
    by_cases hb0 : b = 0
    · have hg : Nat.gcd a b = a := by rw [hb0, Nat.gcd_zero_right]
      rw [hg] at hQ
      have hne : ¬ lN a = 0 := fun q => hQ.1 ((lN_e (by omega) (by omega)).mp (q.trans lN_0.symm))
      refine J_lload (pc' := 19) dX7_inTerms_17 rfl rfl ?_
      refine J_lconst (v := 0) (pc' := 20) dX7_inTerms_19 (by decide) rfl ?_
      refine J_lcmp (pc' := 21) dX7_inTerms_20 rfl ?_
      refine J_if_eq 42 (pc' := 24) dX7_inTerms_21 (by decide) rfl (fun h_21 => ?_) (fun h_21 => absurd (lcmpE.mpr (by rw [hb0]; rfl)) h_21)
      refine J_iload (pc' := 44) dX7_inTerms_42 rfl rfl ?_
      refine J_if_ne 54 (pc' := 47) dX7_inTerms_44 (by decide) rfl (fun h_44 => ?_) (fun h_44 => ?_)
      · refine J_lload_n (pc' := 55) dX7_inTerms_54 rfl rfl ?_
        refine J_lload (pc' := 57) dX7_inTerms_55 rfl rfl ?_
        refine J_ldiv (pc' := 58) dX7_inTerms_57 hne rfl ?_
        first | exact J_lret dX7_inTerms_58  (by have q := hQ.2; rw [if_pos (by first | exact h_44 | exact Decidable.not_not.mp h_44)] at q; exact q) | exact J_lret dX7_inTerms_58  (by have q := hQ.2; rw [if_neg h_44] at q; exact q)
      · refine J_lload_n (pc' := 48) dX7_inTerms_47 rfl rfl ?_
        refine J_lload (pc' := 50) dX7_inTerms_48 rfl rfl ?_
        refine J_ldiv (pc' := 51) dX7_inTerms_50 hne rfl ?_
        refine J_goto (pc' := 0) 58 dX7_inTerms_51 (by decide) ?_
        first | exact J_lret dX7_inTerms_58  (by have q := hQ.2; rw [if_pos (by first | exact h_44 | exact Decidable.not_not.mp h_44)] at q; exact q) | exact J_lret dX7_inTerms_58  (by have q := hQ.2; rw [if_neg h_44] at q; exact q)
    · have hbn : ¬ lN b = 0 := fun q => hb0 ((lN_e (by omega) (by omega)).mp (q.trans lN_0.symm))
      have hb0 : 0 < b := Nat.pos_of_ne_zero hb0
      refine J_lload (pc' := 19) dX7_inTerms_17 rfl rfl ?_
      refine J_lconst (v := 0) (pc' := 20) dX7_inTerms_19 (by decide) rfl ?_
      refine J_lcmp (pc' := 21) dX7_inTerms_20 rfl ?_
      refine J_if_eq 42 (pc' := 24) dX7_inTerms_21 (by decide) rfl (fun h_21 => absurd h_21 (fun q => hbn (lcmpE.mp q))) (fun h_21 => ?_)
      refine J_lload (pc' := 26) dX7_inTerms_24 rfl rfl ?_
      refine J_lload (pc' := 28) dX7_inTerms_26 rfl rfl ?_
      refine J_lrem (pc' := 29) dX7_inTerms_28 hbn rfl ?_
      rw [lN_mod ha hb hb0]
      refine J_lstore (pc' := 31) dX7_inTerms_29 (Nat.le_of_ble_eq_true rfl) (jstL9 rfl) rfl ?_
      refine J_lload (pc' := 33) dX7_inTerms_31 rfl rfl ?_
      refine J_lstore (pc' := 35) dX7_inTerms_33 (Nat.le_of_ble_eq_true rfl) (jstL5 rfl) rfl ?_
      refine J_lload (pc' := 37) dX7_inTerms_35 rfl rfl ?_
      refine J_lstore (pc' := 39) dX7_inTerms_37 (Nat.le_of_ble_eq_true rfl) (jstL7 rfl) rfl ?_
      refine J_goto (pc' := 0) 17 dX7_inTerms_39 (by decide) ?_
      have h2 := ih (a % b) (by have := Nat.mod_lt a hb0; omega) b (by omega) (by have := Nat.mod_lt a hb0; omega) Q (by rw [show Nat.gcd b (a % b) = Nat.gcd a b from by rw [Nat.gcd_comm a b, Nat.gcd_rec b a, Nat.gcd_comm]]; exact hQ)
      exact J_mask [true, true, true, true, true, true, true, true, true, false, false] h2
set_option maxHeartbeats 4000000 in
set_option maxRecDepth 100000 in
theorem k_minT {G : jG} {w : jWd} {up dn : Int64} {p : Int32} (hu : -(2 ^ 63) < up.toInt) (hd : 0 < dn.toInt) : jKd G 0 yX7_inTerms cX7_inTerms 11 (some .long) [.long up, .long dn, .int p] w (some (.long (mPart up dn p))) w := by
  refine jK_of (own := RX7) [some (.long up), none, some (.long dn), none, some (.int p), none, none, none, none, none, none] pn7 rfl (Nat.le_of_ble_eq_true rfl) rfl ?_
  refine J_lload_n (pc' := 1) dX7_inTerms_0 rfl rfl ?_
  refine J_lconst (v := 0) (pc' := 2) dX7_inTerms_1 (by decide) rfl ?_
  refine J_lcmp (pc' := 3) dX7_inTerms_2 rfl ?_
  refine J_if_ge 11 (pc' := 6) dX7_inTerms_3 (by decide) rfl (fun h_3 => ?_) (fun h_3 => ?_)
  · refine J_lload_n (pc' := 12) dX7_inTerms_11 rfl rfl ?_
    refine J_lstore (pc' := 14) dX7_inTerms_12 (Nat.le_of_ble_eq_true rfl) (jstL5 rfl) rfl ?_
    have ha := sAbs_n hu
    have hdl := Int64.toInt_lt dn
    have hg : 0 < Nat.gcd up.toInt.natAbs dn.toInt.natAbs := Nat.gcd_pos_of_pos_right _ (by omega)
    refine J_lload_n (pc' := 15) dX7_inTerms_14 rfl rfl ?_
    refine J_lstore (pc' := 17) dX7_inTerms_15 (Nat.le_of_ble_eq_true rfl) (jstL7 rfl) rfl ?_
    have h2 := l_mgcd (G := G) (w := w) (up := up) (dn := dn) (p := p) dn.toInt.natAbs up.toInt.natAbs ha.2 (by omega) (fun r' w' => r' = some (.long (mPart up dn p)) ∧ w' = w) ⟨by omega, rfl, rfl⟩
    rw [← lN_n hd, ← ha.1, ← mAbs_eq] at h2
    first | (rw [if_pos (Int64.not_le.mp (fun q => h_3 (lcmpL.mpr (Int64.not_lt.mpr q))))] at h2; exact h2) | (rw [if_neg (lcmpL.mp h_3)] at h2; exact h2)
  · refine J_lload_n (pc' := 7) dX7_inTerms_6 rfl rfl ?_
    refine J_lneg (pc' := 8) dX7_inTerms_7 rfl ?_
    refine J_goto (pc' := 0) 12 dX7_inTerms_8 (by decide) ?_
    refine J_lstore (pc' := 14) dX7_inTerms_12 (Nat.le_of_ble_eq_true rfl) (jstL5 rfl) rfl ?_
    have ha := sAbs_n hu
    have hdl := Int64.toInt_lt dn
    have hg : 0 < Nat.gcd up.toInt.natAbs dn.toInt.natAbs := Nat.gcd_pos_of_pos_right _ (by omega)
    refine J_lload_n (pc' := 15) dX7_inTerms_14 rfl rfl ?_
    refine J_lstore (pc' := 17) dX7_inTerms_15 (Nat.le_of_ble_eq_true rfl) (jstL7 rfl) rfl ?_
    have h2 := l_mgcd (G := G) (w := w) (up := up) (dn := dn) (p := p) dn.toInt.natAbs up.toInt.natAbs ha.2 (by omega) (fun r' w' => r' = some (.long (mPart up dn p)) ∧ w' = w) ⟨by omega, rfl, rfl⟩
    rw [← lN_n hd, ← ha.1, ← mAbs_eq] at h2
    first | (rw [if_pos (Int64.not_le.mp (fun q => h_3 (lcmpL.mpr (Int64.not_lt.mpr q))))] at h2; exact h2) | (rw [if_neg (lcmpL.mp h_3)] at h2; exact h2)
