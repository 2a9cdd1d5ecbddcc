/-! ===== what is read ===== -/
/-! ===== what is read is a text ===== -/
def pDp (z : rS) : Nat := sDep z.2.2 z.2.1
def pWf (z : rS) : Prop := ∀ i, i < z.2.1 → -3 ≤ z.2.2 i ∨ (z.2.2 i = -33 ∧ 1 ≤ sDep z.2.2 i) ∨ (sSign (z.2.2 i) ∧ 2 ≤ sDep z.2.2 i)
def pG (sub : rS → Bool × rS) : Prop := ∀ z d, z.2.1 + d ≤ z.1 → z.1 ≤ 60 → pWf z → (sub z).1 = true → ((sub z).2.1 ≤ 60 ∧ (sub z).2.2.1 + d ≤ (sub z).2.1) ∧ pWf (sub z).2 ∧ pDp (sub z).2 = pDp z + 1
theorem pWr_eq {s : Int32} {z : rS} (h : z.2.1 < 60) : pWr s z = (z.1, z.2.1 + 1, upd z.2.2 z.2.1 s) := if_pos h
theorem upd_at (f : Nat → Int32) (k : Nat) (v : Int32) : upd f k v k = v := if_pos rfl
theorem upd_ne (f : Nat → Int32) {k j : Nat} (v : Int32) (h : j ≠ k) : upd f k v j = f j := if_neg h
theorem pDp_wr {s : Int32} {z : rS} (h : z.2.1 < 60) : pDp (pWr s z) = if -3 ≤ s then pDp z + 1 else if s = -33 then pDp z else pDp z - 1 := by
  rw [pWr_eq h]
  show sDep (upd z.2.2 z.2.1 s) (z.2.1 + 1) = _
  rw [sDep, upd_at, sDep_congr (st2 := z.2.2) z.2.1 (fun i hi => upd_ne _ _ (by omega))]
  rfl
theorem pWf_wr {s : Int32} {z : rS} (h : z.2.1 < 60) (hw : pWf z) (hs : -3 ≤ s ∨ (s = -33 ∧ 1 ≤ pDp z) ∨ (sSign s ∧ 2 ≤ pDp z)) : pWf (pWr s z) := by
  rw [pWr_eq h]
  intro i hi
  have hi : i < z.2.1 + 1 := hi
  show -3 ≤ upd z.2.2 z.2.1 s i ∨ (upd z.2.2 z.2.1 s i = -33 ∧ 1 ≤ sDep (upd z.2.2 z.2.1 s) i) ∨ (sSign (upd z.2.2 z.2.1 s i) ∧ 2 ≤ sDep (upd z.2.2 z.2.1 s) i)
  rw [sDep_congr (st2 := z.2.2) i (fun j hj => upd_ne _ _ (by omega))]
  by_cases e : i = z.2.1
  · rw [e, upd_at]; exact hs
  · rw [upd_ne _ _ e]; exact hw i (by omega)
theorem sSign_lt {s : Int32} (h : sSign s) : ¬ -3 ≤ s ∧ ¬ s = -33 := by
  rcases h with e | e | e | e | e | e | e | e | e | e <;> subst e <;> exact ⟨by decide, by decide⟩
theorem pW_push {s : Int32} {z : rS} (h : z.2.1 < 60) (hw : pWf z) (hs : -3 ≤ s) : pWf (pWr s z) ∧ pDp (pWr s z) = pDp z + 1 := ⟨pWf_wr h hw (Or.inl hs), by rw [pDp_wr h, if_pos hs]⟩
theorem pW_not {z : rS} (h : z.2.1 < 60) (hw : pWf z) (hd : 1 ≤ pDp z) : pWf (pWr (-33) z) ∧ pDp (pWr (-33) z) = pDp z := ⟨pWf_wr h hw (Or.inr (Or.inl ⟨rfl, hd⟩)), by rw [pDp_wr h, if_neg (by decide), if_pos rfl]⟩
theorem pW_two {s : Int32} {z : rS} (h : z.2.1 < 60) (hw : pWf z) (hs : sSign s) (hd : 2 ≤ pDp z) : pWf (pWr s z) ∧ pDp (pWr s z) = pDp z - 1 := ⟨pWf_wr h hw (Or.inr (Or.inr ⟨hs, hd⟩)), by rw [pDp_wr h, if_neg (sSign_lt hs).1, if_neg (sSign_lt hs).2]⟩
theorem pWr_n {s : Int32} {z : rS} (h : z.2.1 < 60) : (pWr s z).2.1 = z.2.1 + 1 := by rw [pWr_eq h]
def pSg (isS : Int32 → Bool) : Prop := ∀ s, isS s = true → sSign (-s)
theorem pIm_sg : pSg pIm := fun s h => by
  rcases of_decide_eq_true h with e | e | e <;> subst e <;> unfold sSign <;> decide
theorem pLoop_t {tp : Nat → Int32} {f : Nat} {isS : Int32 → Bool} {sub : rS → Bool × rS} : ∀ (n : Nat) (r : Bool × rS), (pLoop tp f isS sub n r).1 = true → r.1 = true
  | 0, _, h => h
  | n + 1, r, h => by
    rw [pLoop] at h
    by_cases hc : r.1 = true ∧ isS (pNx tp f r.2.1) = true
    · exact hc.1
    · rw [if_neg hc] at h; exact h
theorem pLoop_g {tp : Nat → Int32} {f : Nat} (hf : f ≤ 60) {isS : Int32 → Bool} (hi : pSn isS) (hg : pSg isS) {sub : rS → Bool × rS} (hs : pG sub) (d D : Nat) : ∀ (n : Nat) (r : Bool × rS), (r.1 = true → (r.2.1 ≤ 60 ∧ r.2.2.1 + d ≤ r.2.1) ∧ pWf r.2 ∧ pDp r.2 = D + 1) → (pLoop tp f isS sub n r).1 = true → ((pLoop tp f isS sub n r).2.1 ≤ 60 ∧ (pLoop tp f isS sub n r).2.2.1 + d ≤ (pLoop tp f isS sub n r).2.1) ∧ pWf (pLoop tp f isS sub n r).2 ∧ pDp (pLoop tp f isS sub n r).2 = D + 1
  | 0, _, h, ht => h ht
  | n + 1, r, h, ht => by
    rw [pLoop] at ht ⊢
    by_cases hc : r.1 = true ∧ isS (pNx tp f r.2.1) = true
    · rw [if_pos hc] at ht ⊢
      refine pLoop_g hf hi hg hs d D n _ (fun h1 => ?_) ht
      obtain ⟨⟨q1, q2⟩, q3, q4⟩ := h hc.1
      have hlt := pNx_lt (hi _ hc.2)
      obtain ⟨⟨g1, g2⟩, g3, g4⟩ := hs (pAd r.2) (d + 1) (by show r.2.2.1 + (d + 1) ≤ r.2.1 + 1; omega) (by show r.2.1 + 1 ≤ 60; omega) q3 h1
      have g4 : pDp (sub (pAd r.2)).2 = pDp r.2 + 1 := g4
      have hn : (sub (pAd r.2)).2.2.1 < 60 := by omega
      have hw := pW_two hn g3 (hg _ hc.2) (by omega)
      refine ⟨⟨by rw [pWr_at]; exact g1, ?_⟩, hw.1, by rw [hw.2]; omega⟩
      rw [pWr_at, pWr_n hn]
      omega
    · rw [if_neg hc] at ht ⊢
      exact h ht
theorem pLv {tp : Nat → Int32} {f : Nat} (hf : f ≤ 60) {isS : Int32 → Bool} (hi : pSn isS) (hg : pSg isS) {sub : rS → Bool × rS} (hs : pG sub) : pG (fun z => pLoop tp f isS sub 60 (sub z)) := fun z d h1 h2 h3 h4 =>
  pLoop_g hf hi hg hs d (pDp z) 60 (sub z) (fun h5 => hs z d h1 h2 h3 h5) h4
theorem pIa_sg : pSg pIa := fun s h => by
  rcases of_decide_eq_true h with e | e <;> subst e <;> unfold sSign <;> decide
theorem pIc_sg : pSg pIc := fun s h => by
  rcases of_decide_eq_true h with e | e | e <;> subst e <;> unfold sSign <;> decide
theorem pIn_sg : pSg pIn := fun s h => by
  have e := of_decide_eq_true h
  subst e
  exact Or.inr (Or.inl rfl)
theorem pIo_sg : pSg pIo := fun s h => by
  have e := of_decide_eq_true h
  subst e
  exact Or.inl rfl
theorem pMul_g {tp : Nat → Int32} {f : Nat} (hf : f ≤ 60) {part : rS → Bool × rS} (hp : pG part) : pG (pMul tp f part) := pLv hf pIm_sn pIm_sg hp
theorem pAdd_g {tp : Nat → Int32} {f : Nat} (hf : f ≤ 60) {part : rS → Bool × rS} (hp : pG part) : pG (pAdd tp f part) := pLv hf pIa_sn pIa_sg (pMul_g hf hp)
theorem pCmp_g {tp : Nat → Int32} {f : Nat} (hf : f ≤ 60) {part : rS → Bool × rS} (hp : pG part) : pG (pCmp tp f part) := fun z d h1 h2 h3 h4 => by
  have ha := pAdd_g (tp := tp) hf hp
  unfold pCmp at h4 ⊢
  by_cases hc : (pAdd tp f part z).1 = true ∧ pIc (pNx tp f (pAdd tp f part z).2.1) = true
  · rw [if_pos hc] at h4 ⊢
    obtain ⟨⟨q1, q2⟩, q3, q4⟩ := ha z d h1 h2 h3 hc.1
    have hlt := pNx_lt (pIc_sn _ hc.2)
    obtain ⟨⟨g1, g2⟩, g3, g4⟩ := ha (pAd (pAdd tp f part z).2) (d + 1) (by show (pAdd tp f part z).2.2.1 + (d + 1) ≤ (pAdd tp f part z).2.1 + 1; omega) (by show (pAdd tp f part z).2.1 + 1 ≤ 60; omega) q3 h4
    have g4 : pDp (pAdd tp f part (pAd (pAdd tp f part z).2)).2 = pDp (pAdd tp f part z).2 + 1 := g4
    have hn : (pAdd tp f part (pAd (pAdd tp f part z).2)).2.2.1 < 60 := by omega
    have hw := pW_two hn g3 (pIc_sg _ hc.2) (by omega)
    refine ⟨⟨by rw [pWr_at]; exact g1, ?_⟩, hw.1, by rw [hw.2]; omega⟩
    rw [pWr_at, pWr_n hn]
    omega
  · rw [if_neg hc] at h4 ⊢
    exact ha z d h1 h2 h3 h4
theorem pAnd_g {tp : Nat → Int32} {f : Nat} (hf : f ≤ 60) {part : rS → Bool × rS} (hp : pG part) : pG (pAnd tp f part) := pLv hf pIn_sn pIn_sg (pCmp_g hf hp)
theorem pOr_g {tp : Nat → Int32} {f : Nat} (hf : f ≤ 60) {part : rS → Bool × rS} (hp : pG part) : pG (pOr tp f part) := pLv hf pIo_sn pIo_sg (pAnd_g hf hp)
/-- a number -/
theorem pNum_g {tp : Nat → Int32} {f : Nat} (hf : f ≤ 60) : ∀ (n : Nat) (v : Int32) (z : rS) (m : Nat), v = nI m → (m + 1) * 10 ^ n ≤ 10000 → z.1 ≤ 60 → ((pNum tp f n v z).2.1 ≤ 60 ∧ z.1 ≤ (pNum tp f n v z).2.1) ∧ (pNum tp f n v z).2.2 = z.2 ∧ ∃ m2, m2 < 10000 ∧ (pNum tp f n v z).1 = nI m2 := by
  intro n
  induction n with
  | zero => intro v z m hv hm hz; exact ⟨⟨hz, Nat.le_refl _⟩, rfl, m, by rw [Nat.pow_zero] at hm; omega, hv⟩
  | succ n ih =>
    intro v z m hv hm hz
    have hm1 : m + 1 ≤ (m + 1) * 10 ^ (n + 1) := Nat.le_mul_of_pos_right _ (Nat.pow_pos (by omega))
    rw [pNum]
    by_cases hc : 48 ≤ pNx tp f z.1 ∧ pNx tp f z.1 ≤ 57
    · rw [if_pos hc]
      have hlt : z.1 < f := pNx_lt (fun e => by rw [e] at hc; exact absurd hc.1 (by decide))
      obtain ⟨j, j1, j2, ej⟩ := nI_wi (a := 48) (b := 57) (by decide) (by decide) hc
      have e2 : 10 * v + pNx tp f z.1 - 48 = nI (10 * m + j - 48) := jsub (jadd (jmul nIc_10 hv) ej) (show (48 : Int32) = nI 48 by decide) (by omega)
      have hb : (10 * m + j - 48 + 1) * 10 ^ n ≤ 10000 := Nat.le_trans (Nat.mul_le_mul_right _ (show 10 * m + j - 48 + 1 ≤ (m + 1) * 10 by omega)) (by rw [Nat.mul_assoc, Nat.mul_comm 10, ← Nat.pow_succ]; exact hm)
      obtain ⟨⟨g1, g2⟩, g3, g4⟩ := ih _ (pAd z) _ e2 hb (by show z.1 + 1 ≤ 60; omega)
      exact ⟨⟨g1, Nat.le_trans (Nat.le_succ _) g2⟩, g3, g4⟩
    · rw [if_neg hc]
      exact ⟨⟨hz, Nat.le_refl _⟩, rfl, m, by omega, hv⟩
abbrev pGz (z : rS) (d : Nat) (r : Bool × rS) : Prop := (r.2.1 ≤ 60 ∧ r.2.2.1 + d ≤ r.2.1) ∧ pWf r.2 ∧ pDp r.2 = pDp z + 1
theorem pDig_g {tp : Nat → Int32} {f : Nat} (hf : f ≤ 60) {z : rS} {d : Nat} (h1 : z.2.1 + d ≤ z.1) (hw : pWf z) (hc : 48 ≤ pNx tp f z.1 ∧ pNx tp f z.1 ≤ 57) : pGz z d (pDig tp f z) := by
  have hlt : z.1 < f := pNx_lt (fun e => by rw [e] at hc; exact absurd hc.1 (by decide))
  obtain ⟨j, j1, j2, ej⟩ := nI_wi (a := 48) (b := 57) (by decide) (by decide) hc
  have e2 : 10 * 0 + pNx tp f z.1 - 48 = nI (10 * 0 + j - 48) := jsub (jadd (jmul nIc_10 nIc_0) ej) (show (48 : Int32) = nI 48 by decide) (by omega)
  have e : pNum tp f 4 0 z = pNum tp f 3 (10 * 0 + pNx tp f z.1 - 48) (pAd z) := if_pos hc
  obtain ⟨⟨g1, g2⟩, g3, m, g4, g5⟩ := pNum_g hf 3 _ (pAd z) _ e2 (by rw [show 10 ^ 3 = 1000 from rfl]; omega) (by show z.1 + 1 ≤ 60; omega)
  have g2 : z.1 + 1 ≤ (pNum tp f 3 (10 * 0 + pNx tp f z.1 - 48) (pAd z)).2.1 := g2
  have g6 : (pNum tp f 3 (10 * 0 + pNx tp f z.1 - 48) (pAd z)).2.2 = z.2 := g3
  have hn : (pNum tp f 3 (10 * 0 + pNx tp f z.1 - 48) (pAd z)).2.2.1 < 60 := by rw [g6]; omega
  have hw2 : pWf (pNum tp f 3 (10 * 0 + pNx tp f z.1 - 48) (pAd z)).2 := by unfold pWf; rw [g6]; exact hw
  have hd2 : pDp (pNum tp f 3 (10 * 0 + pNx tp f z.1 - 48) (pAd z)).2 = pDp z := by unfold pDp; rw [g6]
  have hp := pW_push (s := nI m) hn hw2 (Int32.le_iff_toInt_le.mpr (by rw [nI_toInt (by omega), show (-3 : Int32).toInt = -3 from by decide]; omega))
  unfold pDig
  rw [e, g5]
  refine ⟨⟨by show (pWr _ _).1 ≤ 60; rw [pWr_at]; exact g1, ?_⟩, hp.1, by rw [← hd2]; exact hp.2⟩
  show (pWr _ _).2.1 + d ≤ (pWr _ _).1
  rw [pWr_at, pWr_n hn, g6]
  omega
theorem sIx_in {i : Nat} {c : Int32} (h : ¬ sIx i c 3 0 < 0) : sIx i c 3 0 = 0 ∨ sIx i c 3 0 = 1 ∨ sIx i c 3 0 = 2 := by
  unfold sIx sIx sIx sIx at h ⊢
  by_cases e0 : (jStrB i).getD 0 0 = c
  · rw [if_pos e0]; exact Or.inl nI_0
  · rw [if_neg e0] at h ⊢
    by_cases e1 : (jStrB i).getD 1 0 = c
    · rw [if_pos e1]; exact Or.inr (Or.inl rfl)
    · rw [if_neg e1] at h ⊢
      by_cases e2 : (jStrB i).getD 2 0 = c
      · rw [if_pos e2]; exact Or.inr (Or.inr rfl)
      · rw [if_neg e2] at h; exact absurd (by decide) h
theorem pNmd_g {tp : Nat → Int32} {f i : Nat} (hf : f ≤ 60) {z : rS} {d : Nat} (h1 : z.2.1 + d ≤ z.1) (hw : pWf z) (ht : (pNmd i (pNx tp f z.1) z).1 = true) : pGz z d (pNmd i (pNx tp f z.1) z) := by
  unfold pNmd at ht ⊢
  by_cases hc : pNx tp f z.1 < 0 ∨ sIx i (pNx tp f z.1) 3 0 < 0
  · rw [if_pos hc] at ht; exact absurd ht (fun q => Bool.noConfusion q)
  · rw [if_neg hc] at ht ⊢
    have hlt : z.1 < f := pNx_lt (fun e => hc (Or.inl (by rw [e]; decide)))
    have hn : (pAd z).2.1 < 60 := by show z.2.1 < 60; omega
    have hp := pW_push (s := -1 - sIx i (pNx tp f z.1) 3 0) (z := pAd z) hn hw (by rcases sIx_in (fun q => hc (Or.inr q)) with e | e | e <;> rw [e] <;> decide)
    refine ⟨⟨by show (pWr _ _).1 ≤ 60; rw [pWr_at]; show z.1 + 1 ≤ 60; omega, ?_⟩, hp.1, hp.2⟩
    show (pWr _ _).2.1 + d ≤ (pWr _ _).1
    rw [pWr_at, pWr_n hn]
    show z.2.1 + 1 + d ≤ z.1 + 1
    omega
theorem pOpn_g {tp : Nat → Int32} {f : Nat} (hf : f ≤ 60) {part : rS → Bool × rS} (hp : pG part) {c : Int32} {z : rS} {d : Nat} (h1 : z.2.1 + d ≤ z.1) (h2 : z.1 + 1 ≤ 60) (hw : pWf z) (ht : (pOpn tp f part c z).1 = true) : pGz z d (pOpn tp f part c z) := by
  unfold pOpn at ht ⊢
  by_cases h3 : c = 33
  · rw [if_pos h3] at ht ⊢
    obtain ⟨⟨g1, g2⟩, g3, g4⟩ := hp (pAd z) (d + 1) (by show z.2.1 + (d + 1) ≤ z.1 + 1; omega) h2 hw ht
    have g4 : pDp (part (pAd z)).2 = pDp z + 1 := g4
    have hn : (part (pAd z)).2.2.1 < 60 := by omega
    have hq := pW_not hn g3 (by omega)
    refine ⟨⟨by show (pWr _ _).1 ≤ 60; rw [pWr_at]; exact g1, ?_⟩, hq.1, by rw [← g4]; exact hq.2⟩
    show (pWr _ _).2.1 + d ≤ (pWr _ _).1
    rw [pWr_at, pWr_n hn]
    omega
  · rw [if_neg h3] at ht ⊢
    by_cases hc : (pOr tp f part (pAd z)).1 = true ∧ pNx tp f (pOr tp f part (pAd z)).2.1 = 41
    · rw [if_pos hc] at ht ⊢
      obtain ⟨⟨g1, g2⟩, g3, g4⟩ := pOr_g hf hp (pAd z) (d + 1) (by show z.2.1 + (d + 1) ≤ z.1 + 1; omega) h2 hw hc.1
      have hlt := pNx_lt (tp := tp) (f := f) (a := (pOr tp f part (pAd z)).2.1) (by rw [hc.2]; decide)
      exact ⟨⟨by show (pOr tp f part (pAd z)).2.1 + 1 ≤ 60; omega, by show (pOr tp f part (pAd z)).2.2.1 + d ≤ (pOr tp f part (pAd z)).2.1 + 1; omega⟩, g3, g4⟩
    · rw [if_neg hc] at ht; exact absurd ht (fun q => Bool.noConfusion q)
theorem pPt_g {tp : Nat → Int32} {f i : Nat} (hf : f ≤ 60) {op : Int32 → rS → Bool × rS} (ho : ∀ c z d, z.2.1 + d ≤ z.1 → z.1 + 1 ≤ 60 → pWf z → (op c z).1 = true → pGz z d (op c z)) : pG (pPt tp f i op) := fun z d h1 h2 h3 h4 => by
  unfold pPt at h4 ⊢
  by_cases hd : 48 ≤ pNx tp f z.1 ∧ pNx tp f z.1 ≤ 57
  · rw [if_pos hd]; exact pDig_g hf h1 h3 hd
  · rw [if_neg hd] at h4 ⊢
    by_cases ho2 : pNx tp f z.1 = 33 ∨ pNx tp f z.1 = 40
    · rw [if_pos ho2] at h4 ⊢
      have hlt : z.1 < f := pNx_lt (by rcases ho2 with e | e <;> rw [e] <;> decide)
      exact ho _ z d h1 (by omega) h3 h4
    · rw [if_neg ho2] at h4 ⊢
      exact pNmd_g hf h1 h3 h4
theorem pPart_g {tp : Nat → Int32} {f i : Nat} (hf : f ≤ 60) : ∀ n, pG (pPart tp f i n)
  | 0 => pPt_g hf (fun _ _ _ _ _ _ h => absurd h (fun q => Bool.noConfusion q))
  | n + 1 => pPt_g hf (fun _ _ _ h1 h2 h3 h4 => pOpn_g hf (pPart_g hf n) h1 h2 h3 h4)
theorem pAll_wf {tp : Nat → Int32} {f i : Nat} (hf : f ≤ 60) {st : Nat → Int32} (h : (pAll tp f i st).1 = true) : (pAll tp f i st).2.2.1 ≤ 60 ∧ sWf (pAll tp f i st).2.2.2 (pAll tp f i st).2.2.1 := by
  obtain ⟨⟨g1, g2⟩, g3, g4⟩ := pOr_g hf (pPart_g hf 5) (0, 0, st) 0 (Nat.le_refl _) (Nat.zero_le _) (fun i hi => absurd hi (Nat.not_lt_zero _)) h
  exact ⟨Nat.le_trans g2 g1, g3, fun _ => g4⟩
theorem inv_text {σ : sg} (hI : sInv σ) {u : Nat} (hu : u < 2) (h : (sRead σ u).1 = true) : sInv (sTxt σ u (sRead σ u).2.2.2 (sRead σ u).2.2.1) := by
  obtain ⟨hn0, hw0⟩ := pAll_wf (sIF hI).2 h
  generalize e1 : (sRead σ u).2.2.2 = st at *
  generalize e2 : (sRead σ u).2.2.1 = n at *
  have hw : sWf st n := by rw [← e1, ← e2]; exact hw0
  have hn : n ≤ 60 := by rw [← e2]; exact hn0
  have a : ∀ f k, f ≠ 9 + u → f ≠ 11 → (f ≠ 6 ∨ k ≠ 6) → sTxt σ u st n f k = σ f k := fun f k h1 h2 h3 => by
    unfold sTxt
    rw [if_neg h1, if_neg (fun q => h2 q.1), if_neg (fun q => h3.elim (fun r => r q.1) (fun r => r q.2))]
  have eM : sM (sTxt σ u st n) = sM σ := by unfold sM; rw [a 6 0 (by omega) (by decide) (Or.inr (by decide))]
  have eP : sP (sTxt σ u st n) = sP σ := by unfold sP; rw [a 6 1 (by omega) (by decide) (Or.inr (by decide))]
  have eR : sR (sTxt σ u st n) = sR σ := by unfold sR; rw [a 6 2 (by omega) (by decide) (Or.inr (by decide))]
  obtain ⟨i1, i2, i3, i4, i5, i6, i7, i8, i9, i10, i11⟩ := hI
  refine ⟨?_, ?_, ?_, ?_, ?_, ⟨0, ?_, by omega⟩, ?_, ?_, ?_, ?_, ?_⟩
  · rw [eM, a 6 0 (by omega) (by decide) (Or.inr (by decide))]; exact i1
  · rw [eP, a 6 1 (by omega) (by decide) (Or.inr (by decide))]; exact i2
  · rw [eR, a 6 2 (by omega) (by decide) (Or.inr (by decide))]; exact i3
  · rw [a 6 3 (by omega) (by decide) (Or.inr (by decide))]; exact i4
  · rw [a 6 4 (by omega) (by decide) (Or.inr (by decide))]; exact i5
  · unfold sTxt
    rw [if_neg (by omega), if_neg (by omega), if_pos ⟨rfl, rfl⟩]; exact nIc_0
  · rw [a 6 7 (by omega) (by decide) (Or.inr (by decide))]; exact i7
  · intro k hk
    rw [eM] at hk
    have := i8 k hk
    unfold sMk at this ⊢
    rw [eP, a 0 k (by omega) (by decide) (Or.inl (by decide)), a 1 k (by omega) (by decide) (Or.inl (by decide)), a 2 k (by omega) (by decide) (Or.inl (by decide)), a 3 k (by omega) (by decide) (Or.inl (by decide)), a 4 k (by omega) (by decide) (Or.inl (by decide)), a 5 k (by omega) (by decide) (Or.inl (by decide))]
    exact this
  · intro k hk
    rw [eM] at hk
    rw [a 5 k (by omega) (by decide) (Or.inl (by decide))]; exact i9 k hk
  · intro v hv
    by_cases e : v = u
    · subst e
      have e11 : sTxt σ v st n 11 v = nI n := by unfold sTxt; rw [if_neg (by omega), if_pos ⟨rfl, rfl⟩]
      have eC : sC (sTxt σ v st n) v = n := by unfold sC; rw [e11]; exact nI_clamp (by omega)
      refine ⟨by rw [eC]; exact e11, by rw [eC]; exact hn, ?_⟩
      rw [eC]
      exact sWf_congr (fun i hi => by unfold sTxt; rw [if_pos rfl, if_pos hi]) hw
    · have e11 : sTxt σ u st n 11 v = σ 11 v := by unfold sTxt; rw [if_neg (by omega), if_neg (fun q => e q.2), if_neg (by omega)]
      have eC : sC (sTxt σ u st n) v = sC σ v := by unfold sC; rw [e11]
      have e9 : sTxt σ u st n (9 + v) = σ (9 + v) := funext fun k => a (9 + v) k (by omega) (by omega) (Or.inl (by omega))
      rw [e11, eC, e9]
      exact i10 v hv
  · intro k hk
    rw [a 7 k (by omega) (by decide) (Or.inl (by decide))]; exact i11 k hk
