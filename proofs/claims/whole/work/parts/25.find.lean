/-! ===== what is found ===== -/
/-! ===== what is found does not hang on what the rows held before ===== -/
def ag (M N : Nat → Nat → Int64) : Prop := ∀ a, 50 ≤ a → a < 54 → ∀ j, j < 5 → M a j = N a j
theorem ag_lset {M N : Nat → Nat → Int64} (h : ag M N) {a k : Nat} {u v : Int64} (e : u = v) : ag (lset M a k u) (lset N a k v) := by
  intro a' h1 h2 j hj
  rw [lset_eq, lset_eq, e, h a' h1 h2 j hj]
theorem sZR_eq (M : Nat → Nat → Int64) (i n a j : Nat) : sZR M i n a j = if a = 50 + i ∧ j < n then 0 else M a j := by
  unfold sZR
  by_cases h : a = 50 + i
  · subst h
    rw [if_pos rfl]
    show (if j < n then (0 : Int64) else M (50 + i) j) = _
    by_cases h2 : j < n
    · rw [if_pos h2, if_pos ⟨rfl, h2⟩]
    · rw [if_neg h2, if_neg (fun q => h2 q.2)]
  · rw [if_neg h, if_neg (fun q => h q.1)]
theorem sZA_eq (M : Nat → Nat → Int64) (a j : Nat) : ∀ i, sZA M i a j = if 50 ≤ a ∧ a < 50 + i ∧ j < 5 then 0 else M a j
  | 0 => by rw [if_neg (by omega)]; rfl
  | i + 1 => by
    rw [sZA, sZR_eq, sZA_eq M a j i]
    by_cases h : a = 50 + i ∧ j < 5
    · rw [if_pos h, if_pos (by omega)]
    · rw [if_neg h]
      by_cases h2 : 50 ≤ a ∧ a < 50 + i ∧ j < 5
      · rw [if_pos h2, if_pos (by omega)]
      · rw [if_neg h2, if_neg (by omega)]
theorem ag_zer (M N : Nat → Nat → Int64) : ag (sZer M) (sZer N) := by
  intro a h1 h2 j hj
  unfold sZer
  rw [sZA_eq, sZA_eq, if_pos (by omega), if_pos (by omega)]
theorem ag_ent {M N : Nat → Nat → Int64} (h : ag M N) {fr : Int32} {t : Nat} {W S : Int32} (ht : t < 4) (hf : ¬ fr < 0 → nn fr < 4) : ag (sEnt M fr t W S) (sEnt N fr t W S) := by
  have h1 : ag (lset M (50 + t) t (M (50 + t) t + W.toInt64)) (lset N (50 + t) t (N (50 + t) t + W.toInt64)) := ag_lset h (by rw [h (50 + t) (by omega) (by omega) t (by omega)])
  generalize hM1 : lset M (50 + t) t (M (50 + t) t + W.toInt64) = M1 at h1
  generalize hN1 : lset N (50 + t) t (N (50 + t) t + W.toInt64) = N1 at h1
  have h2 : ag (lset M1 (50 + t) 4 (M1 (50 + t) 4 + (W * S).toInt64)) (lset N1 (50 + t) 4 (N1 (50 + t) 4 + (W * S).toInt64)) := ag_lset h1 (by rw [h1 (50 + t) (by omega) (by omega) 4 (by omega)])
  unfold sEnt
  simp only [hM1, hN1]
  by_cases hfr : fr < 0
  · rw [if_pos hfr, if_pos hfr]; exact h2
  · rw [if_neg hfr, if_neg hfr]
    have hf4 := hf hfr
    generalize lset M1 (50 + t) 4 (M1 (50 + t) 4 + (W * S).toInt64) = M2 at h2
    generalize lset N1 (50 + t) 4 (N1 (50 + t) 4 + (W * S).toInt64) = N2 at h2
    generalize nn fr = f at hf4
    have h3 : ag (lset M2 (50 + f) f (M2 (50 + f) f + W.toInt64)) (lset N2 (50 + f) f (N2 (50 + f) f + W.toInt64)) := ag_lset h2 (by rw [h2 (50 + f) (by omega) (by omega) f (by omega)])
    generalize lset M2 (50 + f) f (M2 (50 + f) f + W.toInt64) = M3 at h3
    generalize lset N2 (50 + f) f (N2 (50 + f) f + W.toInt64) = N3 at h3
    have h4 : ag (lset M3 (50 + f) t (M3 (50 + f) t - W.toInt64)) (lset N3 (50 + f) t (N3 (50 + f) t - W.toInt64)) := ag_lset h3 (by rw [h3 (50 + f) (by omega) (by omega) t (by omega)])
    generalize lset M3 (50 + f) t (M3 (50 + f) t - W.toInt64) = M4 at h4
    generalize lset N3 (50 + f) t (N3 (50 + f) t - W.toInt64) = N4 at h4
    have h5 : ag (lset M4 (50 + t) f (M4 (50 + t) f - W.toInt64)) (lset N4 (50 + t) f (N4 (50 + t) f - W.toInt64)) := ag_lset h4 (by rw [h4 (50 + t) (by omega) (by omega) f (by omega)])
    generalize lset M4 (50 + t) f (M4 (50 + t) f - W.toInt64) = M5 at h5
    generalize lset N4 (50 + t) f (N4 (50 + t) f - W.toInt64) = N5 at h5
    exact ag_lset h5 (by rw [h5 (50 + f) (by omega) (by omega) 4 (by omega)])
theorem nn_lt {σ : sg} (hI : sInv σ) {k : Nat} (hk : k < sM σ) : nn (σ 3 k) < sP σ ∧ (¬ σ 2 k < 0 → nn (σ 2 k) < sP σ) ∧ sP σ ≤ 4 := by
  obtain ⟨⟨t, h1, h2, h3⟩, -, h4⟩ := sTf hI hk
  have hP := (sIP hI).2.2
  refine ⟨by rw [h2, nn_nI (by omega)]; exact h3, fun h => ?_, hP⟩
  obtain ⟨f, q1, q2⟩ := h4 h
  rw [q2, nn_nI (by omega)]
  exact q1
theorem ag_entN {σ : sg} (hI : sInv σ) {M N : Nat → Nat → Int64} (h : ag M N) : ∀ n, n ≤ sM σ → ag (sEntN σ M n) (sEntN σ N n)
  | 0, _ => h
  | n + 1, hn => by
    have h2 := ag_entN hI h n (by omega)
    obtain ⟨q1, q2, q3⟩ := nn_lt hI (k := n) (by omega)
    rw [sEntN, sEntN]
    by_cases ho : σ 5 n = 1
    · rw [if_pos ho, if_pos ho]
      exact ag_ent h2 (by omega) (fun q => by have := q2 q; omega)
    · rw [if_neg ho, if_neg ho]; exact h2
theorem ag_clr {M N : Nat → Nat → Int64} (h : ag M N) {i k : Nat} (hi : i < 4) (hk : k < 4) {ah : Int64} : ag (sClr M i k ah 5) (sClr N i k ah 5) := by
  intro a h1 h2 j hj
  unfold sClr
  by_cases e : a = 50 + i
  · rw [if_pos e, if_pos e]
    show (if j < 5 then _ else _) = if j < 5 then _ else _
    rw [if_pos hj, if_pos hj, h (50 + i) (by omega) (by omega) j hj, h (50 + k) (by omega) (by omega) k (by omega), h (50 + i) (by omega) (by omega) k (by omega), h (50 + k) (by omega) (by omega) j hj]
  · rw [if_neg e, if_neg e]; exact h a h1 h2 j hj
theorem ag_stI {M N : Nat → Nat → Int64} (h : ag M N) {k : Nat} (hk : k < 4) {ah : Int64} : ∀ i, i ≤ 4 → ag (sStI M k ah i) (sStI N k ah i)
  | 0, _ => h
  | i + 1, hi => by
    have h2 := ag_stI h hk (ah := ah) i (by omega)
    rw [sStI, sStI]
    by_cases e : i = k
    · rw [if_pos e, if_pos e]; exact h2
    · rw [if_neg e, if_neg e]; exact ag_clr h2 (by omega) hk
theorem ag_so {M N : Nat → Nat → Int64} (h : ag M N) {n : Nat} (hn : n ≤ 4) : ∀ k, k ≤ 4 → ag (sSo M n k).1 (sSo N n k).1 ∧ (sSo M n k).2 = (sSo N n k).2
  | 0, _ => ⟨h, rfl⟩
  | k + 1, hk => by
    obtain ⟨h1, h2⟩ := ag_so h hn k (by omega)
    rw [sSo, sSo]
    refine ⟨?_, h1 (50 + k) (by omega) (by omega) k (by omega)⟩
    show ag (sStI _ k _ n) (sStI _ k _ n)
    rw [h2]
    exact ag_stI h1 (by omega) n hn
theorem sSol_4 (M : Nat → Nat → Int64) (n : Nat) : sSol M n 48 4 = (sSo M n n).2 := by
  unfold sSol sAbN
  rw [if_neg (by decide), lset_eq, if_pos ⟨rfl, rfl⟩]
theorem sSol_ab (M : Nat → Nat → Int64) {n j : Nat} (hn : n ≤ 4) (hj : j < n) : sSol M n 54 j = (sSo M n n).1 (50 + j) 4 := by
  unfold sSol sAbN
  rw [if_pos rfl]
  show (if j < n then _ else _) = _
  rw [if_pos hj, lset_eq, if_neg (by omega)]
/-- the line, and what stands above it -/
def fLn (σ : sg) : Int64 := sFnd σ (fun _ _ => 0) 48 4
def fAb (σ : sg) (j : Nat) : Int64 := sFnd σ (fun _ _ => 0) 54 j
theorem fnd_ln {σ : sg} (hI : sInv σ) (M : Nat → Nat → Int64) : sFnd σ M 48 4 = fLn σ := by
  have hP := (sIP hI).2.2
  unfold fLn sFnd
  rw [sSol_4, sSol_4, (ag_so (ag_entN hI (ag_zer M (fun _ _ => 0)) _ (Nat.le_refl _)) hP _ hP).2]
theorem fnd_ab {σ : sg} (hI : sInv σ) (M : Nat → Nat → Int64) {j : Nat} (hj : j < sP σ) : sFnd σ M 54 j = fAb σ j := by
  have hP := (sIP hI).2.2
  unfold fAb sFnd
  rw [sSol_ab _ hP hj, sSol_ab _ hP hj, (ag_so (ag_entN hI (ag_zer M (fun _ _ => 0)) _ (Nat.le_refl _)) hP _ hP).1 (50 + j) (by omega) (by omega) 4 (by omega)]
theorem misX_ag {σ : sg} (hI : sInv σ) {ln : Int64} {p p2 : Nat → Int64} (h : ∀ j, j < sP σ → p j = p2 j) {k : Nat} (hk : k < sM σ) (x : Int32) : sMisX σ ln p k x = sMisX σ ln p2 k x := by
  obtain ⟨q1, q2, -⟩ := nn_lt hI hk
  unfold sMisX
  rw [h _ q1]
  by_cases e : σ 2 k < 0
  · rw [if_pos e, if_pos e]
  · rw [if_neg e, if_neg e, h _ (q2 e)]
theorem dbt_ag {σ : sg} (hI : sInv σ) {ln : Int64} {p p2 : Nat → Int64} (h : ∀ j, j < sP σ → p j = p2 j) {k : Nat} (hk : k < sM σ) : sDbt σ ln p k = sDbt σ ln p2 k := by
  unfold sDbt
  rw [misX_ag hI h hk]
theorem mo_ag {σ : sg} (hI : sInv σ) {ln : Int64} {p p2 : Nat → Int64} (h : ∀ j, j < sP σ → p j = p2 j) : ∀ n, n ≤ sM σ → sMo σ ln p n = sMo σ ln p2 n
  | 0, _ => rfl
  | n + 1, hn => by rw [sMo, sMo, mo_ag hI h n (by omega), dbt_ag hI h (by omega)]
theorem sm_ag {σ : sg} (hI : sInv σ) {ln : Int64} {p p2 : Nat → Int64} (h : ∀ j, j < sP σ → p j = p2 j) : ∀ n, n ≤ sM σ → sSm σ ln p n = sSm σ ln p2 n
  | 0, _ => rfl
  | n + 1, hn => by rw [sSm, sSm, sm_ag hI h n (by omega), misX_ag hI h (by omega)]
theorem sMo_rng {σ : sg} {ln : Int64} {p : Nat → Int64} : ∀ n, n ≤ 1000000 → (sMo σ ln p n).1 = -1 ∨ ∃ k, k < n ∧ (sMo σ ln p n).1 = nI k ∧ σ 5 k = 1
  | 0, _ => Or.inl rfl
  | n + 1, hn => by
    have h0 : ∀ n, -1 ≤ (sMo σ ln p n).2 := by
      intro n
      induction n with
      | zero => exact Int64.le_refl _
      | succ n ih =>
        rw [sMo_s rfl]
        by_cases q : (sMo σ ln p n).2 < (if σ 5 n = 1 then sDbt σ ln p n else -1)
        · rw [if_pos q]; exact Int64.le_trans ih (Int64.le_of_lt q)
        · rw [if_neg q]; exact ih
    rcases sMo_rng (σ := σ) (ln := ln) (p := p) n (by omega) with h | ⟨k, h1, h2, h3⟩
    · by_cases ho : σ 5 n = 1
      · rw [sMo_s rfl]
        by_cases q : (sMo σ ln p n).2 < (if σ 5 n = 1 then sDbt σ ln p n else -1)
        · exact Or.inr ⟨n, by omega, by first | rw [if_pos q] | rw [sMo_s rfl, if_pos q], ho⟩
        · rw [if_neg q]; exact Or.inl h
      · refine Or.inl ?_
        rw [sMo_s (if_neg ho), if_neg (Int64.not_lt.mpr (h0 n))]
        exact h
    · by_cases ho : σ 5 n = 1
      · by_cases q : (sMo σ ln p n).2 < (if σ 5 n = 1 then sDbt σ ln p n else -1)
        · exact Or.inr ⟨n, by omega, by first | rw [if_pos q] | rw [sMo_s rfl, if_pos q], ho⟩
        · exact Or.inr ⟨k, by omega, by rw [sMo_s rfl, if_neg q]; exact h2, h3⟩
      · refine Or.inr ⟨k, by omega, ?_, h3⟩
        rw [sMo_s (if_neg ho), if_neg (Int64.not_lt.mpr (h0 n))]
        exact h2
/-! ===== where find leaves the state ===== -/
theorem lset_off {M : Nat → Nat → Int64} {a k : Nat} {v : Int64} {x : Nat} (h : x ≠ a) : lset M a k v x = M x := if_neg h
theorem sZA_off (M : Nat → Nat → Int64) {x : Nat} (h : x < 50 ∨ 54 ≤ x) : ∀ i, i ≤ 4 → sZA M i x = M x
  | 0, _ => rfl
  | i + 1, hi => by rw [sZA]; unfold sZR; rw [if_neg (by omega)]; exact sZA_off M h i (by omega)
theorem sEnt_off {M : Nat → Nat → Int64} {fr : Int32} {t : Nat} {W S : Int32} (ht : t < 4) (hf : ¬ fr < 0 → nn fr < 4) {x : Nat} (h : x < 50 ∨ 54 ≤ x) : sEnt M fr t W S x = M x := by
  unfold sEnt
  dsimp only
  by_cases hfr : fr < 0
  · rw [if_pos hfr, lset_off (by omega), lset_off (by omega)]
  · have := hf hfr
    rw [if_neg hfr, lset_off (by omega), lset_off (by omega), lset_off (by omega), lset_off (by omega), lset_off (by omega), lset_off (by omega)]
theorem sEntN_off {σ : sg} (hI : sInv σ) (M : Nat → Nat → Int64) {x : Nat} (h : x < 50 ∨ 54 ≤ x) : ∀ n, n ≤ sM σ → sEntN σ M n x = M x
  | 0, _ => rfl
  | n + 1, hn => by
    obtain ⟨q1, q2, q3⟩ := nn_lt hI (k := n) (by omega)
    rw [sEntN]
    by_cases ho : σ 5 n = 1
    · rw [if_pos ho, sEnt_off (by omega) (fun q => by have := q2 q; omega) h]; exact sEntN_off hI M h n (by omega)
    · rw [if_neg ho]; exact sEntN_off hI M h n (by omega)
theorem sStI_off (M : Nat → Nat → Int64) {k : Nat} {ah : Int64} {x : Nat} (h : x < 50 ∨ 54 ≤ x) : ∀ i, i ≤ 4 → sStI M k ah i x = M x
  | 0, _ => rfl
  | i + 1, hi => by
    rw [sStI]
    by_cases e : i = k
    · rw [if_pos e]; exact sStI_off M h i (by omega)
    · rw [if_neg e]; unfold sClr; rw [if_neg (by omega)]; exact sStI_off M h i (by omega)
theorem sSo_off (M : Nat → Nat → Int64) {n : Nat} (hn : n ≤ 4) {x : Nat} (h : x < 50 ∨ 54 ≤ x) : ∀ k, (sSo M n k).1 x = M x
  | 0 => rfl
  | k + 1 => by rw [sSo]; show sStI _ k _ n x = _; rw [sStI_off _ h n hn]; exact sSo_off M hn h k
theorem fnd_off {σ : sg} (hI : sInv σ) (M : Nat → Nat → Int64) {x : Nat} (h : x < 48 ∨ 55 ≤ x) : sFnd σ M x = M x := by
  have hP := (sIP hI).2.2
  unfold sFnd sSol sAbN
  rw [if_neg (by omega), lset_off (by omega), sSo_off _ hP (by omega), sEntN_off hI _ (by omega) _ (Nat.le_refl _)]
  unfold sZer
  exact sZA_off M (by omega) 4 (by omega)
/-- the cells that a finding may change -/
def frF (b : Nat) (w w2 : jWd) : Prop := (∀ a, (a < b ∨ b + 15 ≤ a) → a ≠ 55 → a ≠ 56 → w2.1 a = w.1 a) ∧ (∀ a, (a < 48 ∨ 55 ≤ a) → w2.2 a = w.2 a)
theorem frF.rf (b : Nat) (w : jWd) : frF b w w := ⟨fun _ _ _ _ => rfl, fun _ _ => rfl⟩
theorem frF.tr {b : Nat} {w w1 w2 : jWd} (h : frF b w w1) (h2 : frF b w1 w2) : frF b w w2 := ⟨fun a q1 q2 q3 => (h2.1 a q1 q2 q3).trans (h.1 a q1 q2 q3), fun a q => (h2.2 a q).trans (h.2 a q)⟩
theorem frF.of {b : Nat} {w w2 : jWd} (h : frB b w w2) : frF b w w2 := ⟨fun a q1 _ _ => h.1 a q1, fun a _ => by rw [h.2]⟩
theorem frF.set {b : Nat} {w w2 : jWd} (h : frF b w w2) {a k : Nat} {v : Int32} (h1 : b ≤ a) (h2 : a < b + 15) : frF b w (jset w2 a k v) := ⟨fun x hx q1 q2 => by rw [jset_off (by omega)]; exact h.1 x hx q1 q2, h.2⟩
theorem sFw_fr {σ : sg} (hI : sInv σ) (w : jWd) (b : Nat) : frF b w (sFw σ w) := by
  unfold sFw
  split
  · exact ⟨fun a _ q1 q2 => sKW_off σ w.1 q1 q2 _, fun a q => fnd_off hI _ q⟩
  · exact frF.rf b w
theorem sFw_ab {σ : sg} {w : jWd} {b : Nat} (hb : jB b) : abX (sFw σ w) b = abX w b := by
  unfold sFw
  split
  · exact abX_KW hb _
  · rfl
theorem sFw_xb {σ : sg} {w : jWd} {b : Nat} (hb : jB b) (h : xB w b) : xB (sFw σ w) b := by
  unfold sFw
  split
  · exact xB_KW hb _ h
  · exact h
theorem sFw_kp {σ : sg} {w : jWd} (hH : sHolds σ (sSet σ)) : sKp σ (sFw σ w) (sM σ) := by
  unfold sFw
  rw [if_pos (show sTied σ (sSet σ) = 2 ^ sP σ - 1 from hH)]
  exact sKW_kp σ w.1 (sM σ)
theorem sFw_ln {σ : sg} (hI : sInv σ) {w : jWd} (hH : sHolds σ (sSet σ)) : (sFw σ w).2 48 4 = fLn σ ∧ ∀ j, j < sP σ → (sFw σ w).2 54 j = fAb σ j := by
  unfold sFw
  rw [if_pos (show sTied σ (sSet σ) = 2 ^ sP σ - 1 from hH)]
  exact ⟨fnd_ln hI _, fun j hj => fnd_ab hI _ hj⟩
