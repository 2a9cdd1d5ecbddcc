/-! ===== what goes on to hold ===== -/
/-! ===== what holds of each block goes on to hold ===== -/
theorem inv_of {σ τ : sg} (hI : sInv σ) (h60 : τ 6 0 = σ 6 0) (h61 : τ 6 1 = σ 6 1) (h2 : ∀ j, τ 2 j = σ 2 j) (h3 : ∀ j, τ 3 j = σ 3 j) (h9 : ∀ j, τ 9 j = σ 9 j) (h10 : ∀ j, τ 10 j = σ 10 j) (h11 : ∀ j, τ 11 j = σ 11 j)
    (h0 : ∀ k, k < sM σ → 0 ≤ (τ 0 k).toInt ∧ (τ 0 k).toInt ≤ 6) (h1 : ∀ k, k < sM σ → 0 ≤ (τ 1 k).toInt ∧ (τ 1 k).toInt ≤ 9) (h4 : ∀ k, k < sM σ → -20 ≤ (τ 4 k).toInt ∧ (τ 4 k).toInt ≤ 20) (h5 : ∀ k, k < sM σ → τ 5 k = 0 ∨ τ 5 k = 1) (h5' : ∀ k, sM σ ≤ k → τ 5 k = 0)
    (h62 : ∃ n, τ 6 2 = nI n ∧ n ≤ 1000000) (h63 : 0 ≤ (τ 6 3).toInt ∧ (τ 6 3).toInt ≤ 99) (h64 : 0 ≤ (τ 6 4).toInt ∧ (τ 6 4).toInt ≤ 9999) (h66 : ∃ n, τ 6 6 = nI n ∧ n ≤ 60) (h67 : ∃ n, τ 6 7 = nI n ∧ n ≤ 24) (h7 : ∀ k, k < 60 → 0 ≤ (τ 7 k).toInt ∧ (τ 7 k).toInt ≤ 255) : sInv τ := by
  have eM : sM τ = sM σ := by unfold sM; rw [h60]
  have eP : sP τ = sP σ := by unfold sP; rw [h61]
  have eC : ∀ u, sC τ u = sC σ u := fun u => by unfold sC; rw [h11]
  obtain ⟨n, e2, n2⟩ := h62
  refine ⟨⟨by rw [h60, eM]; exact (sIM hI).1, by rw [eM]; exact (sIM hI).2⟩, ⟨by rw [h61, eP]; exact (sIP hI).1, by rw [eP]; exact (sIP hI).2⟩, ?_, h63, h64, h66, h67, ?_, ?_, ?_, h7⟩
  · have : sR τ = n := by unfold sR; rw [e2]; exact nI_clamp (by omega)
    rw [this]; exact ⟨e2, n2⟩
  · intro k hk
    rw [eM] at hk
    obtain ⟨-, -, q2, q3, q4, -⟩ := sIk hI hk
    exact ⟨h0 k hk, h1 k hk, by rw [h2, eP]; exact q2, by rw [h3, eP]; exact q3, by rw [h2, h3]; exact q4, h4 k hk, h5 k hk⟩
  · intro k hk
    rw [eM] at hk
    exact h5' k hk
  · intro u hu
    obtain ⟨q1, q2, q3⟩ := hI.2.2.2.2.2.2.2.2.2.1 u hu
    rw [h11, eC]
    refine ⟨q1, q2, ?_⟩
    have e : τ (9 + u) = σ (9 + u) := by
      obtain rfl | rfl : u = 0 ∨ u = 1 := by omega
      · exact funext h9
      · exact funext h10
    rw [e]
    exact q3
theorem inv_0 {σ : sg} (hI : sInv σ) {k : Nat} {v : Int32} (hv : 0 ≤ v.toInt ∧ v.toInt ≤ 6) : sInv (sg1 σ 0 k v) := inv_of hI (sg1_f (by decide)) (sg1_f (by decide)) (fun j => sg1_f (by decide)) (fun j => sg1_f (by decide)) (fun j => sg1_f (by decide)) (fun j => sg1_f (by decide)) (fun j => sg1_f (by decide)) (fun j hj => by
    by_cases e : j = k
    · rw [e, sg1_at]; exact hv
    · rw [sg1_k e]; exact (sIk hI hj).1) (fun j hj => by rw [sg1_f (by decide)]; exact (sIk hI hj).2.1) (fun j hj => by rw [sg1_f (by decide)]; exact (sIk hI hj).2.2.2.2.2.1) (fun j hj => by rw [sg1_f (by decide)]; exact (sIk hI hj).2.2.2.2.2.2) (fun j hj => by rw [sg1_f (by decide)]; exact hI.2.2.2.2.2.2.2.2.1 j hj) (by rw [sg1_f (by decide)]; exact ⟨sR σ, hI.2.2.1⟩) (by rw [sg1_f (by decide)]; exact hI.2.2.2.1) (by rw [sg1_f (by decide)]; exact hI.2.2.2.2.1) (by rw [sg1_f (by decide)]; exact hI.2.2.2.2.2.1) (by rw [sg1_f (by decide)]; exact hI.2.2.2.2.2.2.1) (fun j hj => by rw [sg1_f (by decide)]; exact hI.2.2.2.2.2.2.2.2.2.2 j hj)
theorem inv_1 {σ : sg} (hI : sInv σ) {k : Nat} {v : Int32} (hv : 0 ≤ v.toInt ∧ v.toInt ≤ 9) : sInv (sg1 σ 1 k v) := inv_of hI (sg1_f (by decide)) (sg1_f (by decide)) (fun j => sg1_f (by decide)) (fun j => sg1_f (by decide)) (fun j => sg1_f (by decide)) (fun j => sg1_f (by decide)) (fun j => sg1_f (by decide)) (fun j hj => by rw [sg1_f (by decide)]; exact (sIk hI hj).1) (fun j hj => by
    by_cases e : j = k
    · rw [e, sg1_at]; exact hv
    · rw [sg1_k e]; exact (sIk hI hj).2.1) (fun j hj => by rw [sg1_f (by decide)]; exact (sIk hI hj).2.2.2.2.2.1) (fun j hj => by rw [sg1_f (by decide)]; exact (sIk hI hj).2.2.2.2.2.2) (fun j hj => by rw [sg1_f (by decide)]; exact hI.2.2.2.2.2.2.2.2.1 j hj) (by rw [sg1_f (by decide)]; exact ⟨sR σ, hI.2.2.1⟩) (by rw [sg1_f (by decide)]; exact hI.2.2.2.1) (by rw [sg1_f (by decide)]; exact hI.2.2.2.2.1) (by rw [sg1_f (by decide)]; exact hI.2.2.2.2.2.1) (by rw [sg1_f (by decide)]; exact hI.2.2.2.2.2.2.1) (fun j hj => by rw [sg1_f (by decide)]; exact hI.2.2.2.2.2.2.2.2.2.2 j hj)
theorem inv_4 {σ : sg} (hI : sInv σ) {k : Nat} {v : Int32} (hv : -20 ≤ v.toInt ∧ v.toInt ≤ 20) : sInv (sg1 σ 4 k v) := inv_of hI (sg1_f (by decide)) (sg1_f (by decide)) (fun j => sg1_f (by decide)) (fun j => sg1_f (by decide)) (fun j => sg1_f (by decide)) (fun j => sg1_f (by decide)) (fun j => sg1_f (by decide)) (fun j hj => by rw [sg1_f (by decide)]; exact (sIk hI hj).1) (fun j hj => by rw [sg1_f (by decide)]; exact (sIk hI hj).2.1) (fun j hj => by
    by_cases e : j = k
    · rw [e, sg1_at]; exact hv
    · rw [sg1_k e]; exact (sIk hI hj).2.2.2.2.2.1) (fun j hj => by rw [sg1_f (by decide)]; exact (sIk hI hj).2.2.2.2.2.2) (fun j hj => by rw [sg1_f (by decide)]; exact hI.2.2.2.2.2.2.2.2.1 j hj) (by rw [sg1_f (by decide)]; exact ⟨sR σ, hI.2.2.1⟩) (by rw [sg1_f (by decide)]; exact hI.2.2.2.1) (by rw [sg1_f (by decide)]; exact hI.2.2.2.2.1) (by rw [sg1_f (by decide)]; exact hI.2.2.2.2.2.1) (by rw [sg1_f (by decide)]; exact hI.2.2.2.2.2.2.1) (fun j hj => by rw [sg1_f (by decide)]; exact hI.2.2.2.2.2.2.2.2.2.2 j hj)
theorem inv_5 {σ : sg} (hI : sInv σ) {k : Nat} (hk : k < sM σ) {v : Int32} (hv : v = 0 ∨ v = 1) : sInv (sg1 σ 5 k v) := inv_of hI (sg1_f (by decide)) (sg1_f (by decide)) (fun j => sg1_f (by decide)) (fun j => sg1_f (by decide)) (fun j => sg1_f (by decide)) (fun j => sg1_f (by decide)) (fun j => sg1_f (by decide)) (fun j hj => by rw [sg1_f (by decide)]; exact (sIk hI hj).1) (fun j hj => by rw [sg1_f (by decide)]; exact (sIk hI hj).2.1) (fun j hj => by rw [sg1_f (by decide)]; exact (sIk hI hj).2.2.2.2.2.1) (fun j hj => by
    by_cases e : j = k
    · rw [e, sg1_at]; exact hv
    · rw [sg1_k e]; exact (sIk hI hj).2.2.2.2.2.2) (fun j hj => by rw [sg1_k (by omega)]; exact hI.2.2.2.2.2.2.2.2.1 j hj) (by rw [sg1_f (by decide)]; exact ⟨sR σ, hI.2.2.1⟩) (by rw [sg1_f (by decide)]; exact hI.2.2.2.1) (by rw [sg1_f (by decide)]; exact hI.2.2.2.2.1) (by rw [sg1_f (by decide)]; exact hI.2.2.2.2.2.1) (by rw [sg1_f (by decide)]; exact hI.2.2.2.2.2.2.1) (fun j hj => by rw [sg1_f (by decide)]; exact hI.2.2.2.2.2.2.2.2.2.2 j hj)
theorem inv_62 {σ : sg} (hI : sInv σ) {v : Int32} (hv : ∃ n, v = nI n ∧ n ≤ 1000000) : sInv (sg1 σ 6 2 v) := inv_of hI (sg1_k (by decide)) (sg1_k (by decide)) (fun j => sg1_f (by decide)) (fun j => sg1_f (by decide)) (fun j => sg1_f (by decide)) (fun j => sg1_f (by decide)) (fun j => sg1_f (by decide)) (fun j hj => by rw [sg1_f (by decide)]; exact (sIk hI hj).1) (fun j hj => by rw [sg1_f (by decide)]; exact (sIk hI hj).2.1) (fun j hj => by rw [sg1_f (by decide)]; exact (sIk hI hj).2.2.2.2.2.1) (fun j hj => by rw [sg1_f (by decide)]; exact (sIk hI hj).2.2.2.2.2.2) (fun j hj => by rw [sg1_f (by decide)]; exact hI.2.2.2.2.2.2.2.2.1 j hj) (by rw [sg1_at]; exact hv) (by rw [sg1_k (by decide)]; exact hI.2.2.2.1) (by rw [sg1_k (by decide)]; exact hI.2.2.2.2.1) (by rw [sg1_k (by decide)]; exact hI.2.2.2.2.2.1) (by rw [sg1_k (by decide)]; exact hI.2.2.2.2.2.2.1) (fun j hj => by rw [sg1_f (by decide)]; exact hI.2.2.2.2.2.2.2.2.2.2 j hj)
theorem inv_63 {σ : sg} (hI : sInv σ) {v : Int32} (hv : 0 ≤ v.toInt ∧ v.toInt ≤ 99) : sInv (sg1 σ 6 3 v) := inv_of hI (sg1_k (by decide)) (sg1_k (by decide)) (fun j => sg1_f (by decide)) (fun j => sg1_f (by decide)) (fun j => sg1_f (by decide)) (fun j => sg1_f (by decide)) (fun j => sg1_f (by decide)) (fun j hj => by rw [sg1_f (by decide)]; exact (sIk hI hj).1) (fun j hj => by rw [sg1_f (by decide)]; exact (sIk hI hj).2.1) (fun j hj => by rw [sg1_f (by decide)]; exact (sIk hI hj).2.2.2.2.2.1) (fun j hj => by rw [sg1_f (by decide)]; exact (sIk hI hj).2.2.2.2.2.2) (fun j hj => by rw [sg1_f (by decide)]; exact hI.2.2.2.2.2.2.2.2.1 j hj) (by rw [sg1_k (by decide)]; exact ⟨sR σ, hI.2.2.1⟩) (by rw [sg1_at]; exact hv) (by rw [sg1_k (by decide)]; exact hI.2.2.2.2.1) (by rw [sg1_k (by decide)]; exact hI.2.2.2.2.2.1) (by rw [sg1_k (by decide)]; exact hI.2.2.2.2.2.2.1) (fun j hj => by rw [sg1_f (by decide)]; exact hI.2.2.2.2.2.2.2.2.2.2 j hj)
theorem inv_64 {σ : sg} (hI : sInv σ) {v : Int32} (hv : 0 ≤ v.toInt ∧ v.toInt ≤ 9999) : sInv (sg1 σ 6 4 v) := inv_of hI (sg1_k (by decide)) (sg1_k (by decide)) (fun j => sg1_f (by decide)) (fun j => sg1_f (by decide)) (fun j => sg1_f (by decide)) (fun j => sg1_f (by decide)) (fun j => sg1_f (by decide)) (fun j hj => by rw [sg1_f (by decide)]; exact (sIk hI hj).1) (fun j hj => by rw [sg1_f (by decide)]; exact (sIk hI hj).2.1) (fun j hj => by rw [sg1_f (by decide)]; exact (sIk hI hj).2.2.2.2.2.1) (fun j hj => by rw [sg1_f (by decide)]; exact (sIk hI hj).2.2.2.2.2.2) (fun j hj => by rw [sg1_f (by decide)]; exact hI.2.2.2.2.2.2.2.2.1 j hj) (by rw [sg1_k (by decide)]; exact ⟨sR σ, hI.2.2.1⟩) (by rw [sg1_k (by decide)]; exact hI.2.2.2.1) (by rw [sg1_at]; exact hv) (by rw [sg1_k (by decide)]; exact hI.2.2.2.2.2.1) (by rw [sg1_k (by decide)]; exact hI.2.2.2.2.2.2.1) (fun j hj => by rw [sg1_f (by decide)]; exact hI.2.2.2.2.2.2.2.2.2.2 j hj)
theorem inv_65 {σ : sg} (hI : sInv σ) {v : Int32} : sInv (sg1 σ 6 5 v) := inv_of hI (sg1_k (by decide)) (sg1_k (by decide)) (fun j => sg1_f (by decide)) (fun j => sg1_f (by decide)) (fun j => sg1_f (by decide)) (fun j => sg1_f (by decide)) (fun j => sg1_f (by decide)) (fun j hj => by rw [sg1_f (by decide)]; exact (sIk hI hj).1) (fun j hj => by rw [sg1_f (by decide)]; exact (sIk hI hj).2.1) (fun j hj => by rw [sg1_f (by decide)]; exact (sIk hI hj).2.2.2.2.2.1) (fun j hj => by rw [sg1_f (by decide)]; exact (sIk hI hj).2.2.2.2.2.2) (fun j hj => by rw [sg1_f (by decide)]; exact hI.2.2.2.2.2.2.2.2.1 j hj) (by rw [sg1_k (by decide)]; exact ⟨sR σ, hI.2.2.1⟩) (by rw [sg1_k (by decide)]; exact hI.2.2.2.1) (by rw [sg1_k (by decide)]; exact hI.2.2.2.2.1) (by rw [sg1_k (by decide)]; exact hI.2.2.2.2.2.1) (by rw [sg1_k (by decide)]; exact hI.2.2.2.2.2.2.1) (fun j hj => by rw [sg1_f (by decide)]; exact hI.2.2.2.2.2.2.2.2.2.2 j hj)
theorem inv_66 {σ : sg} (hI : sInv σ) {v : Int32} (hv : ∃ n, v = nI n ∧ n ≤ 60) : sInv (sg1 σ 6 6 v) := inv_of hI (sg1_k (by decide)) (sg1_k (by decide)) (fun j => sg1_f (by decide)) (fun j => sg1_f (by decide)) (fun j => sg1_f (by decide)) (fun j => sg1_f (by decide)) (fun j => sg1_f (by decide)) (fun j hj => by rw [sg1_f (by decide)]; exact (sIk hI hj).1) (fun j hj => by rw [sg1_f (by decide)]; exact (sIk hI hj).2.1) (fun j hj => by rw [sg1_f (by decide)]; exact (sIk hI hj).2.2.2.2.2.1) (fun j hj => by rw [sg1_f (by decide)]; exact (sIk hI hj).2.2.2.2.2.2) (fun j hj => by rw [sg1_f (by decide)]; exact hI.2.2.2.2.2.2.2.2.1 j hj) (by rw [sg1_k (by decide)]; exact ⟨sR σ, hI.2.2.1⟩) (by rw [sg1_k (by decide)]; exact hI.2.2.2.1) (by rw [sg1_k (by decide)]; exact hI.2.2.2.2.1) (by rw [sg1_at]; exact hv) (by rw [sg1_k (by decide)]; exact hI.2.2.2.2.2.2.1) (fun j hj => by rw [sg1_f (by decide)]; exact hI.2.2.2.2.2.2.2.2.2.2 j hj)
theorem inv_67 {σ : sg} (hI : sInv σ) {v : Int32} (hv : ∃ n, v = nI n ∧ n ≤ 24) : sInv (sg1 σ 6 7 v) := inv_of hI (sg1_k (by decide)) (sg1_k (by decide)) (fun j => sg1_f (by decide)) (fun j => sg1_f (by decide)) (fun j => sg1_f (by decide)) (fun j => sg1_f (by decide)) (fun j => sg1_f (by decide)) (fun j hj => by rw [sg1_f (by decide)]; exact (sIk hI hj).1) (fun j hj => by rw [sg1_f (by decide)]; exact (sIk hI hj).2.1) (fun j hj => by rw [sg1_f (by decide)]; exact (sIk hI hj).2.2.2.2.2.1) (fun j hj => by rw [sg1_f (by decide)]; exact (sIk hI hj).2.2.2.2.2.2) (fun j hj => by rw [sg1_f (by decide)]; exact hI.2.2.2.2.2.2.2.2.1 j hj) (by rw [sg1_k (by decide)]; exact ⟨sR σ, hI.2.2.1⟩) (by rw [sg1_k (by decide)]; exact hI.2.2.2.1) (by rw [sg1_k (by decide)]; exact hI.2.2.2.2.1) (by rw [sg1_k (by decide)]; exact hI.2.2.2.2.2.1) (by rw [sg1_at]; exact hv) (fun j hj => by rw [sg1_f (by decide)]; exact hI.2.2.2.2.2.2.2.2.2.2 j hj)
theorem inv_7 {σ : sg} (hI : sInv σ) {k : Nat} {v : Int32} (hv : 0 ≤ v.toInt ∧ v.toInt ≤ 255) : sInv (sg1 σ 7 k v) := inv_of hI (sg1_f (by decide)) (sg1_f (by decide)) (fun j => sg1_f (by decide)) (fun j => sg1_f (by decide)) (fun j => sg1_f (by decide)) (fun j => sg1_f (by decide)) (fun j => sg1_f (by decide)) (fun j hj => by rw [sg1_f (by decide)]; exact (sIk hI hj).1) (fun j hj => by rw [sg1_f (by decide)]; exact (sIk hI hj).2.1) (fun j hj => by rw [sg1_f (by decide)]; exact (sIk hI hj).2.2.2.2.2.1) (fun j hj => by rw [sg1_f (by decide)]; exact (sIk hI hj).2.2.2.2.2.2) (fun j hj => by rw [sg1_f (by decide)]; exact hI.2.2.2.2.2.2.2.2.1 j hj) (by rw [sg1_f (by decide)]; exact ⟨sR σ, hI.2.2.1⟩) (by rw [sg1_f (by decide)]; exact hI.2.2.2.1) (by rw [sg1_f (by decide)]; exact hI.2.2.2.2.1) (by rw [sg1_f (by decide)]; exact hI.2.2.2.2.2.1) (by rw [sg1_f (by decide)]; exact hI.2.2.2.2.2.2.1) (fun j hj => by
    by_cases e : j = k
    · rw [e, sg1_at]; exact hv
    · rw [sg1_k e]; exact hI.2.2.2.2.2.2.2.2.2.2 j hj)
theorem sM_sg1 {σ : sg} {f k : Nat} {v : Int32} (h : f ≠ 6 ∨ k ≠ 0) : sM (sg1 σ f k v) = sM σ := by
  unfold sM
  rcases h with h | h
  · rw [sg1_f (fun q => h q.symm)]
  · rw [sg1_k (fun q => h q.symm)]
theorem sP_sg1 {σ : sg} {f k : Nat} {v : Int32} (h : f ≠ 6 ∨ k ≠ 1) : sP (sg1 σ f k v) = sP σ := by
  unfold sP
  rcases h with h | h
  · rw [sg1_f (fun q => h q.symm)]
  · rw [sg1_k (fun q => h q.symm)]
theorem sR_sg1 {σ : sg} {f k : Nat} {v : Int32} (h : f ≠ 6 ∨ k ≠ 2) : sR (sg1 σ f k v) = sR σ := by
  unfold sR
  rcases h with h | h
  · rw [sg1_f (fun q => h q.symm)]
  · rw [sg1_k (fun q => h q.symm)]
theorem dropped_ok {x : Int32} (h : 0 ≤ x.toInt ∧ x.toInt ≤ 9999) : 0 ≤ (if x + 1 < 9999 then x + 1 else 9999 : Int32).toInt ∧ (if x + 1 < 9999 then x + 1 else 9999 : Int32).toInt ≤ 9999 := by
  have e : x = nI x.toInt.toNat := Int32.toInt_inj.mp (by rw [nI_toInt (by omega)]; omega)
  have e9 : (9999 : Int32) = nI 9999 := by decide
  rw [e, jadd rfl nIc_1, e9]
  by_cases q : nI (x.toInt.toNat + 1) < nI 9999
  · rw [if_pos q, nI_toInt (by omega)]
    have := Int32.lt_iff_toInt_lt.mp q
    rw [nI_toInt (by omega), nI_toInt (by omega)] at this
    omega
  · rw [if_neg q]; decide
theorem inv_go {σ : sg} (hI : sInv σ) (hR : sR σ < 1000000) : sInv (sGo σ) ∧ sM (sGo σ) = sM σ ∧ sP (sGo σ) = sP σ ∧ sR (sGo σ) = sR σ + 1 := by
  have eR : σ 6 2 + 1 = nI (sR σ + 1) := by rw [hI.2.2.1.1, jadd rfl nIc_1]
  have key : ∀ τ, sInv τ → sM τ = sM σ → sP τ = sP σ → sInv (sg1 τ 6 2 (σ 6 2 + 1)) ∧ sM (sg1 τ 6 2 (σ 6 2 + 1)) = sM σ ∧ sP (sg1 τ 6 2 (σ 6 2 + 1)) = sP σ ∧ sR (sg1 τ 6 2 (σ 6 2 + 1)) = sR σ + 1 := fun τ h1 h2 h3 =>
    ⟨inv_62 h1 ⟨sR σ + 1, eR, by omega⟩, by rw [sM_sg1 (Or.inr (by decide)), h2], by rw [sP_sg1 (Or.inr (by decide)), h3], by unfold sR; rw [sg1_at]; rw [show (σ 6 2).toNatClampNeg = sR σ from rfl, eR]; exact nI_clamp (by omega)⟩
  unfold sGo
  by_cases hC : sGoC σ
  · rw [if_pos hC]
    obtain ⟨k, hk, ek, ho⟩ := sMst_ex hI hC.2.1
    rw [ek, nn_nI (by have := (sIM hI).2; omega)]
    refine key _ (inv_64 (inv_5 hI hk (Or.inl rfl)) (dropped_ok hI.2.2.2.2.1)) ?_ ?_
    · rw [sM_sg1 (Or.inr (by decide)), sM_sg1 (Or.inl (by decide))]
    · rw [sP_sg1 (Or.inr (by decide)), sP_sg1 (Or.inl (by decide))]
  · rw [if_neg hC]
    exact key _ hI rfl rfl
