/-! ===== the row of the reference ===== -/
/-! ===== the reference's row ===== -/
def ixx (f k : Nat) : Nat := if f < 6 then 8 + 6 * k + f else if f = 6 then (if k = 0 then 2 else if k = 1 then 3 else if k = 2 then 0 else if k = 3 then 4 else if k = 4 then 5 else if k = 5 then 1 else k) else if f = 7 then 56 + k else 116 + k
def okx (f k : Nat) : Bool := decide (k < (if f < 7 then 8 else if f = 7 then 60 else 24))
def fIx (i : Nat) : Nat × Nat := if i < 8 then (6, if i = 0 then 2 else if i = 1 then 5 else if i = 2 then 0 else if i = 3 then 1 else if i = 4 then 3 else if i = 5 then 4 else i) else if i < 56 then ((i - 8) % 6, (i - 8) / 6) else if i < 116 then (7, i - 56) else (8, i - 116)
theorem fIx_ix : ∀ f, f < 9 → ∀ k, k < 60 → okx f k = true → fIx (ixx f k) = (f, k) ∧ ixx f k < 140 := by decide +kernel
theorem okx_lt {f k : Nat} (h : okx f k = true) : k < 60 := by
  have h := of_decide_eq_true h
  split at h
  · omega
  · split at h <;> omega
theorem abM_ix (r : Nat → Int32) : ∀ f, f < 9 → ∀ k, abM r f k = if okx f k = true then r (ixx f k) else 0 := by
  intro f hf k
  have h8 : ∀ g, g < 7 → (okx g k = true ↔ k < 8) := fun g hg => by unfold okx; rw [if_pos hg]; exact decide_eq_true_iff
  match f, hf with
  | 0, _ => show (if k < 8 then _ else _) = _; by_cases e : k < 8; rw [if_pos e, if_pos ((h8 0 (by decide)).mpr e)]; rfl; rw [if_neg e, if_neg (fun q => e ((h8 0 (by decide)).mp q))]
  | 1, _ => show (if k < 8 then _ else _) = _; by_cases e : k < 8; rw [if_pos e, if_pos ((h8 1 (by decide)).mpr e)]; rfl; rw [if_neg e, if_neg (fun q => e ((h8 1 (by decide)).mp q))]
  | 2, _ => show (if k < 8 then _ else _) = _; by_cases e : k < 8; rw [if_pos e, if_pos ((h8 2 (by decide)).mpr e)]; rfl; rw [if_neg e, if_neg (fun q => e ((h8 2 (by decide)).mp q))]
  | 3, _ => show (if k < 8 then _ else _) = _; by_cases e : k < 8; rw [if_pos e, if_pos ((h8 3 (by decide)).mpr e)]; rfl; rw [if_neg e, if_neg (fun q => e ((h8 3 (by decide)).mp q))]
  | 4, _ => show (if k < 8 then _ else _) = _; by_cases e : k < 8; rw [if_pos e, if_pos ((h8 4 (by decide)).mpr e)]; rfl; rw [if_neg e, if_neg (fun q => e ((h8 4 (by decide)).mp q))]
  | 5, _ => show (if k < 8 then _ else _) = _; by_cases e : k < 8; rw [if_pos e, if_pos ((h8 5 (by decide)).mpr e)]; rfl; rw [if_neg e, if_neg (fun q => e ((h8 5 (by decide)).mp q))]
  | 6, _ =>
    match k with
    | 0 => rfl
    | 1 => rfl
    | 2 => rfl
    | 3 => rfl
    | 4 => rfl
    | 5 => rfl
    | 6 => rfl
    | 7 => rfl
    | m + 8 => rw [if_neg (by unfold okx; simp)]; rfl
  | 7, _ => show (if k < 60 then _ else _) = _; by_cases e : k < 60; rw [if_pos e, if_pos (show okx 7 k = true from decide_eq_true e)]; rfl; rw [if_neg e, if_neg (fun q : okx 7 k = true => e (of_decide_eq_true q))]
  | 8, _ => show (if k < 24 then _ else _) = _; by_cases e : k < 24; rw [if_pos e, if_pos (show okx 8 k = true from decide_eq_true e)]; rfl; rw [if_neg e, if_neg (fun q : okx 8 k = true => e (of_decide_eq_true q))]
theorem abM_9 (r : Nat → Int32) (k : Nat) : abM r 9 k = if k < (r 140).toNatClampNeg then sEnc (r (141 + k)) (r (201 + k)) else 0 := rfl
theorem abM_10 (r : Nat → Int32) (k : Nat) : abM r 10 k = if k < (r 261).toNatClampNeg then sEnc (r (262 + k)) (r (322 + k)) else 0 := rfl
theorem abM_110 (r : Nat → Int32) : abM r 11 0 = r 140 := rfl
theorem abM_111 (r : Nat → Int32) : abM r 11 1 = r 261 := rfl
theorem abM_112 (r : Nat → Int32) (k : Nat) : abM r 11 (k + 2) = 0 := rfl
theorem abM_12 (r : Nat → Int32) (m k : Nat) : abM r (m + 12) k = 0 := rfl
theorem abM_hi {r r' : Nat → Int32} (h : ∀ i, 140 ≤ i → r' i = r i) {f : Nat} (hf : 9 ≤ f) (k : Nat) : abM r' f k = abM r f k := by
  have e0 := h 140 (by omega)
  have e1 := h 261 (by omega)
  rcases (show f = 9 ∨ f = 10 ∨ f = 11 ∨ 12 ≤ f by omega) with rfl | rfl | rfl | hf2
  · rw [abM_9, abM_9, e0, h (141 + k) (by omega), h (201 + k) (by omega)]
  · rw [abM_10, abM_10, e1, h (262 + k) (by omega), h (322 + k) (by omega)]
  · rcases (show k = 0 ∨ k = 1 ∨ 2 ≤ k by omega) with rfl | rfl | hk
    · rw [abM_110, abM_110, e0]
    · rw [abM_111, abM_111, e1]
    · obtain ⟨m, rfl⟩ : ∃ m, k = m + 2 := ⟨k - 2, by omega⟩
      rw [abM_112, abM_112]
  · obtain ⟨m, rfl⟩ : ∃ m, f = m + 12 := ⟨f - 12, by omega⟩
    rw [abM_12, abM_12]
theorem abM_put {r : Nat → Int32} {F K : Nat} {v : Int32} (hF : F < 9) (hK : okx F K = true) : abM (upd r (ixx F K) v) = sg1 (abM r) F K v := by
  obtain ⟨q1, q2⟩ := fIx_ix F hF K (okx_lt hK) hK
  funext f j
  by_cases hf : f < 9
  · rw [abM_ix _ f hf j]
    by_cases e : f = F ∧ j = K
    · obtain ⟨rfl, rfl⟩ := e
      rw [if_pos hK, sg1_at, upd_at]
    · have e2 : sg1 (abM r) F K v f j = abM r f j := if_neg e
      rw [e2, abM_ix r f hf j]
      by_cases ho : okx f j = true
      · rw [if_pos ho, if_pos ho]
        refine upd_ne _ _ (fun q => e ?_)
        obtain ⟨p1, -⟩ := fIx_ix f hf j (okx_lt ho) ho
        rw [q, q1] at p1
        exact ⟨(congrArg Prod.fst p1).symm, (congrArg Prod.snd p1).symm⟩
      · rw [if_neg ho, if_neg ho]
  · have e2 : sg1 (abM r) F K v f j = abM r f j := if_neg (fun q => hf (by rw [q.1]; exact hF))
    rw [e2]
    exact abM_hi (fun i hi => upd_ne _ _ (by omega)) (by omega) j
theorem abM_congr {r r' : Nat → Int32} (hc : sC (abM r) 0 ≤ 60) (hc1 : sC (abM r) 1 ≤ 60) (h : ∀ i, i < 382 → r' i = r i) : abM r' = abM r := by
  unfold sC at hc hc1
  rw [abM_110] at hc
  rw [abM_111] at hc1
  have e0 := h 140 (by omega)
  have e1 := h 261 (by omega)
  funext f j
  by_cases hf : f < 9
  · rw [abM_ix _ f hf, abM_ix _ f hf]
    by_cases ho : okx f j = true
    · rw [if_pos ho, if_pos ho, h _ (by have := (fIx_ix f hf j (okx_lt ho) ho).2; omega)]
    · rw [if_neg ho, if_neg ho]
  · rcases (show f = 9 ∨ f = 10 ∨ f = 11 ∨ 12 ≤ f by omega) with rfl | rfl | rfl | hf2
    · rw [abM_9, abM_9, e0]
      by_cases e : j < (r 140).toNatClampNeg
      · rw [if_pos e, if_pos e, h (141 + j) (by omega), h (201 + j) (by omega)]
      · rw [if_neg e, if_neg e]
    · rw [abM_10, abM_10, e1]
      by_cases e : j < (r 261).toNatClampNeg
      · rw [if_pos e, if_pos e, h (262 + j) (by omega), h (322 + j) (by omega)]
      · rw [if_neg e, if_neg e]
    · rcases (show j = 0 ∨ j = 1 ∨ 2 ≤ j by omega) with rfl | rfl | hk
      · rw [abM_110, abM_110, e0]
      · rw [abM_111, abM_111, e1]
      · obtain ⟨m, rfl⟩ : ∃ m, j = m + 2 := ⟨j - 2, by omega⟩
        rw [abM_112, abM_112]
    · obtain ⟨m, rfl⟩ : ∃ m, f = m + 12 := ⟨f - 12, by omega⟩
      rw [abM_12, abM_12]
/-- a step of a text as the reference keeps it -/
def mTk (a v : Int32) : Prop := (a = 1 ∧ 0 ≤ v) ∨ (a = 2 ∧ (v = 0 ∨ v = 1 ∨ v = 2)) ∨ a = 3 ∨ sSign (-a)
def mT (r : Nat → Int32) : Prop := ∀ u, u < 2 → ∀ j, j < nn (r (140 + 121 * u)) → mTk (r (141 + 121 * u + j)) (r (201 + 121 * u + j))
theorem mT_congr {r r' : Nat → Int32} (h : ∀ i, 140 ≤ i → r' i = r i) (hT : mT r) : mT r' := fun u hu j hj => by
  rw [h (140 + 121 * u) (by omega)] at hj
  rw [h _ (by omega), h _ (by omega)]
  exact hT u hu j hj
/-- what a method of the reference may change, but for the texts -/
def frG (w w2 : jWd) : Prop := (∀ a, a ≠ 69 → w2.1 a = w.1 a) ∧ (∀ a, a < 68 → w2.2 a = w.2 a) ∧ ∀ i, 140 ≤ i → w2.1 69 i = w.1 69 i
theorem frG.rf (w : jWd) : frG w w := ⟨fun _ _ => rfl, fun _ _ => rfl, fun _ _ => rfl⟩
theorem frG.tr {w w2 w3 : jWd} (h : frG w w2) (h2 : frG w2 w3) : frG w w3 := ⟨fun a q => (h2.1 a q).trans (h.1 a q), fun a q => (h2.2.1 a q).trans (h.2.1 a q), fun i q => (h2.2.2 i q).trans (h.2.2 i q)⟩
theorem frG.set {w w2 : jWd} (h : frG w w2) {i : Nat} {v : Int32} (hi : i < 140) : frG w (jset w2 69 i v) := ⟨fun a q => by rw [jset_off q]; exact h.1 a q, fun a q => h.2.1 a q, fun j q => by rw [jset_1, if_pos rfl, if_neg (by omega)]; exact h.2.2 j q⟩
theorem frG.mt {w w2 : jWd} (h : frG w w2) (hT : mT (w.1 69)) : mT (w2.1 69) := mT_congr h.2.2 hT
theorem ams0 {w : jWd} {k : Nat} {v : Int32} (hk : k < 8) : abM ((jset w 69 (8 + 6 * k + 0) v).1 69) = sg1 (abM (w.1 69)) 0 k v := abM_put (F := 0) (K := k) (by decide) (decide_eq_true hk)
theorem ams1 {w : jWd} {k : Nat} {v : Int32} (hk : k < 8) : abM ((jset w 69 (8 + 6 * k + 1) v).1 69) = sg1 (abM (w.1 69)) 1 k v := abM_put (F := 1) (K := k) (by decide) (decide_eq_true hk)
theorem ams2 {w : jWd} {k : Nat} {v : Int32} (hk : k < 8) : abM ((jset w 69 (8 + 6 * k + 2) v).1 69) = sg1 (abM (w.1 69)) 2 k v := abM_put (F := 2) (K := k) (by decide) (decide_eq_true hk)
theorem ams3 {w : jWd} {k : Nat} {v : Int32} (hk : k < 8) : abM ((jset w 69 (8 + 6 * k + 3) v).1 69) = sg1 (abM (w.1 69)) 3 k v := abM_put (F := 3) (K := k) (by decide) (decide_eq_true hk)
theorem ams4 {w : jWd} {k : Nat} {v : Int32} (hk : k < 8) : abM ((jset w 69 (8 + 6 * k + 4) v).1 69) = sg1 (abM (w.1 69)) 4 k v := abM_put (F := 4) (K := k) (by decide) (decide_eq_true hk)
theorem ams5 {w : jWd} {k : Nat} {v : Int32} (hk : k < 8) : abM ((jset w 69 (8 + 6 * k + 5) v).1 69) = sg1 (abM (w.1 69)) 5 k v := abM_put (F := 5) (K := k) (by decide) (decide_eq_true hk)
theorem amc0 {w : jWd} {v : Int32} : abM ((jset w 69 0 v).1 69) = sg1 (abM (w.1 69)) 6 2 v := abM_put (F := 6) (K := 2) (by decide) (by decide)
theorem amc1 {w : jWd} {v : Int32} : abM ((jset w 69 1 v).1 69) = sg1 (abM (w.1 69)) 6 5 v := abM_put (F := 6) (K := 5) (by decide) (by decide)
theorem amc2 {w : jWd} {v : Int32} : abM ((jset w 69 2 v).1 69) = sg1 (abM (w.1 69)) 6 0 v := abM_put (F := 6) (K := 0) (by decide) (by decide)
theorem amc3 {w : jWd} {v : Int32} : abM ((jset w 69 3 v).1 69) = sg1 (abM (w.1 69)) 6 1 v := abM_put (F := 6) (K := 1) (by decide) (by decide)
theorem amc4 {w : jWd} {v : Int32} : abM ((jset w 69 4 v).1 69) = sg1 (abM (w.1 69)) 6 3 v := abM_put (F := 6) (K := 3) (by decide) (by decide)
theorem amc5 {w : jWd} {v : Int32} : abM ((jset w 69 5 v).1 69) = sg1 (abM (w.1 69)) 6 4 v := abM_put (F := 6) (K := 4) (by decide) (by decide)
theorem amc6 {w : jWd} {v : Int32} : abM ((jset w 69 6 v).1 69) = sg1 (abM (w.1 69)) 6 6 v := abM_put (F := 6) (K := 6) (by decide) (by decide)
theorem amc7 {w : jWd} {v : Int32} : abM ((jset w 69 7 v).1 69) = sg1 (abM (w.1 69)) 6 7 v := abM_put (F := 6) (K := 7) (by decide) (by decide)
theorem amt {w : jWd} {k : Nat} {v : Int32} (hk : k < 60) : abM ((jset w 69 (56 + k) v).1 69) = sg1 (abM (w.1 69)) 7 k v := abM_put (F := 7) (K := k) (by decide) (decide_eq_true hk)
theorem amw {w : jWd} {k : Nat} {v : Int32} (hk : k < 24) : abM ((jset w 69 (116 + k) v).1 69) = sg1 (abM (w.1 69)) 8 k v := abM_put (F := 8) (K := k) (by decide) (decide_eq_true hk)
