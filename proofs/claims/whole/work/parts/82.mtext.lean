/-! ===== the reference: text ===== -/
/-! ===== the reference: text ===== -/
def pUp (f : Nat) (sub : rS → Bool × rS) : Prop := ∀ z, z.1 ≤ f → (sub z).2.1 ≤ f
theorem pLoop_up {tp : Nat → Int32} {f : Nat} {isS : Int32 → Bool} (hi : pSn isS) {sub : rS → Bool × rS} (hs : pUp f sub) : ∀ (n : Nat) (r : Bool × rS), r.2.1 ≤ f → (pLoop tp f isS sub n r).2.1 ≤ f
  | 0, _, h => h
  | n + 1, r, h => by
    rw [pLoop]
    by_cases hc : r.1 = true ∧ isS (pNx tp f r.2.1) = true
    · rw [if_pos hc]
      have hl := pNx_lt (hi _ hc.2)
      exact pLoop_up hi hs n _ (by show (pWr _ _).1 ≤ f; rw [pWr_at]; exact hs _ (by show r.2.1 + 1 ≤ f; omega))
    · rw [if_neg hc]; exact h
theorem pMul_up {tp : Nat → Int32} {f : Nat} {part : rS → Bool × rS} (hp : pUp f part) : pUp f (pMul tp f part) := fun z h => pLoop_up pIm_sn hp 60 _ (hp z h)
theorem pAdd_up {tp : Nat → Int32} {f : Nat} {part : rS → Bool × rS} (hp : pUp f part) : pUp f (pAdd tp f part) := fun z h => pLoop_up pIa_sn (pMul_up hp) 60 _ (pMul_up hp z h)
theorem pCmp_up {tp : Nat → Int32} {f : Nat} {part : rS → Bool × rS} (hp : pUp f part) : pUp f (pCmp tp f part) := fun z h => by
  have h1 := pAdd_up (tp := tp) hp z h
  unfold pCmp
  by_cases hc : (pAdd tp f part z).1 = true ∧ pIc (pNx tp f (pAdd tp f part z).2.1) = true
  · rw [if_pos hc]
    have hl := pNx_lt (pIc_sn _ hc.2)
    show (pWr _ _).1 ≤ f
    rw [pWr_at]
    exact pAdd_up hp _ (by show (pAdd tp f part z).2.1 + 1 ≤ f; omega)
  · rw [if_neg hc]; exact h1
theorem pAnd_up {tp : Nat → Int32} {f : Nat} {part : rS → Bool × rS} (hp : pUp f part) : pUp f (pAnd tp f part) := fun z h => pLoop_up pIn_sn (pCmp_up hp) 60 _ (pCmp_up hp z h)
theorem pOr_up {tp : Nat → Int32} {f : Nat} {part : rS → Bool × rS} (hp : pUp f part) : pUp f (pOr tp f part) := fun z h => pLoop_up pIo_sn (pAnd_up hp) 60 _ (pAnd_up hp z h)
theorem pOpn_up {tp : Nat → Int32} {f : Nat} {part : rS → Bool × rS} (hp : pUp f part) {c : Int32} {z : rS} (h : z.1 + 1 ≤ f) : (pOpn tp f part c z).2.1 ≤ f := by
  unfold pOpn
  by_cases h3 : c = 33
  · rw [if_pos h3]; show (pWr _ _).1 ≤ f; rw [pWr_at]; exact hp _ h
  · rw [if_neg h3]
    have h1 := pOr_up (tp := tp) hp (pAd z) h
    by_cases hc : (pOr tp f part (pAd z)).1 = true ∧ pNx tp f (pOr tp f part (pAd z)).2.1 = 41
    · rw [if_pos hc]
      have hl := pNx_lt (tp := tp) (f := f) (a := (pOr tp f part (pAd z)).2.1) (by rw [hc.2]; decide)
      show (pOr tp f part (pAd z)).2.1 + 1 ≤ f
      omega
    · rw [if_neg hc]; exact h1
theorem pNum_up {tp : Nat → Int32} {f : Nat} : ∀ (n : Nat) (v : Int32) (z : rS), z.1 ≤ f → (pNum tp f n v z).2.1 ≤ f
  | 0, _, _, h => h
  | n + 1, v, z, h => by
    rw [pNum]
    by_cases hc : 48 ≤ pNx tp f z.1 ∧ pNx tp f z.1 ≤ 57
    · rw [if_pos hc]
      have hl := pNx_lt (tp := tp) (f := f) (a := z.1) (fun e => by rw [e] at hc; exact absurd hc.1 (by decide))
      exact pNum_up n _ _ (by show z.1 + 1 ≤ f; omega)
    · rw [if_neg hc]; exact h
theorem pPt_up {tp : Nat → Int32} {f i : Nat} {op : Int32 → rS → Bool × rS} {z : rS} (ho : ∀ c z, z.1 ≤ f → z.1 + 1 ≤ f → (op c z).2.1 ≤ f) (h : z.1 ≤ f) : (pPt tp f i op z).2.1 ≤ f := by
  unfold pPt
  by_cases h1 : 48 ≤ pNx tp f z.1 ∧ pNx tp f z.1 ≤ 57
  · rw [if_pos h1]; show (pWr _ _).1 ≤ f; rw [pWr_at]; exact pNum_up 4 0 z h
  · rw [if_neg h1]
    by_cases h2 : pNx tp f z.1 = 33 ∨ pNx tp f z.1 = 40
    · rw [if_pos h2]
      have hl := pNx_lt (tp := tp) (f := f) (a := z.1) (by rcases h2 with e | e <;> rw [e] <;> decide)
      exact ho _ _ h (by omega)
    · rw [if_neg h2]
      unfold pNmd
      by_cases h3 : pNx tp f z.1 < 0 ∨ sIx i (pNx tp f z.1) 3 0 < 0
      · rw [if_pos h3]; exact h
      · rw [if_neg h3]
        have hl := pNx_lt (tp := tp) (f := f) (a := z.1) (fun e => h3 (Or.inl (by rw [e]; decide)))
        show (pWr _ _).1 ≤ f
        rw [pWr_at]
        show z.1 + 1 ≤ f
        omega
theorem pPart_up {tp : Nat → Int32} {f i : Nat} : ∀ n, pUp f (pPart tp f i n)
  | 0 => fun _ h => pPt_up (fun _ _ h _ => h) h
  | n + 1 => fun _ h => pPt_up (fun _ _ _ h => pOpn_up (pPart_up n) h) h
theorem pAll_up {tp : Nat → Int32} {f i : Nat} {st : Nat → Int32} : (pAll tp f i st).2.1 ≤ f := pOr_up (pPart_up 5) _ (Nat.zero_le _)
theorem sRead_m {w : jWd} (hI : sInv (abM (w.1 69))) {u : Nat} : pR2 (pAll (mTP w) (nn (abM (w.1 69) 6 6)) u (fun _ => 0)) (sRead (abM (w.1 69)) u) := by
  have hf : nn (abM (w.1 69) 6 6) ≤ 60 := (sIF hI).2
  have ht : pNx (mTP w) (nn (abM (w.1 69) 6 6)) = pNx (abM (w.1 69) 7) (nn (abM (w.1 69) 6 6)) := by
    funext a
    unfold pNx
    by_cases ha : a < nn (abM (w.1 69) 6 6)
    · rw [if_pos ha, if_pos ha]; exact (if_pos (show a < 60 by omega)).symm
    · rw [if_neg ha, if_neg ha]
  exact pOr_e ht (pPart_e ht 5) _ _ ⟨rfl, rfl, fun j hj => rfl⟩
theorem rm_ext2 {w w2 : jWd} (h72 : w2.1 72 = w.1 72) (h3 : w2.1 68 3 = w.1 68 3) (h22 : w2.1 68 22 = w.1 68 22) (h73 : w2.1 73 = w.1 73) (h74 : w2.1 74 = w.1 74) (h75 : w2.1 75 = w.1 75) (h83 : w2.1 83 = w.1 83) : restM w2 = restM w := by
  funext f k
  rcases (show f = 0 ∨ f = 1 ∨ f = 2 ∨ f = 3 ∨ f = 4 ∨ f = 5 ∨ f = 6 ∨ f = 7 ∨ f = 8 ∨ f = 9 ∨ 10 ≤ f by omega) with rfl | rfl | rfl | rfl | rfl | rfl | rfl | rfl | rfl | rfl | hf
  · rw [rmq_0, rmq_0, h72]
  · rw [rmq_1, rmq_1, h3]
  · rw [rmq_2, rmq_2, h75]
  · rw [rmq_3, rmq_3, h75]
  · rw [rmq_4, rmq_4, h75]
  · rw [rmq_5, rmq_5, h75]
  · rw [rmq_6, rmq_6, h73]
  · rw [rmq_7, rmq_7, h74]
  · rw [rmq_8, rmq_8, h22, h83]
  · rw [rmq_9, rmq_9, h22]
  · obtain ⟨m, rfl⟩ : ∃ m, f = m + 10 := ⟨f - 10, by omega⟩
    rw [rmq_10, rmq_10]
theorem rm_68 {w w2 : jWd} (h : ∀ a, a ≠ 68 → a ≠ 69 → a ≠ 79 → a ≠ 80 → w2.1 a = w.1 a) (h68 : ∀ k, k < 16 ∨ 21 ≤ k → w2.1 68 k = w.1 68 k) : restM w2 = restM w := by
  refine rm_ext2 (h 72 (by decide) (by decide) (by decide) (by decide)) (h68 3 (by omega)) (h68 22 (by omega)) (h 73 (by decide) (by decide) (by decide) (by decide)) (h 74 (by decide) (by decide) (by decide) (by decide)) (h 75 (by decide) (by decide) (by decide) (by decide)) (h 83 (by decide) (by decide) (by decide) (by decide))
theorem mq_read {w w2 : jWd} {σ : sg} (hV : MInv w) (h : ∀ a, a ≠ 68 → a ≠ 69 → a ≠ 79 → a ≠ 80 → w2.1 a = w.1 a) (h68 : ∀ k, k < 16 ∨ 21 ≤ k → w2.1 68 k = w.1 68 k) (hL : w2.2 = w.2) (hT : mT (w2.1 69)) (e : abM (w2.1 69) = σ) : RQ w w2 (σ, abM (w.1 70), restM w) :=
  ⟨e, by rw [h 70 (by decide) (by decide) (by decide) (by decide)], rm_68 h h68, ⟨hT, by rw [h 70 (by decide) (by decide) (by decide) (by decide)]; exact hV.2⟩, fun a q => ⟨h a (by omega) (by omega) (by omega) (by omega), by rw [hL]⟩⟩
/-- a row with a text put in: n steps, j of them so far -/
def txR (f a v : Nat → Int32) (A n j : Nat) : Nat → Int32 := fun i => if i = A then nI n else if A + 1 ≤ i ∧ i < A + 1 + j then a (i - (A + 1)) else if A + 61 ≤ i ∧ i < A + 61 + j then v (i - (A + 61)) else f i
theorem txR_s {f a v : Nat → Int32} {A n j : Nat} (hj : j < 60) : upd (upd (txR f a v A n j) (A + 1 + j) (a j)) (A + 61 + j) (v j) = txR f a v A n (j + 1) := by
  funext i
  unfold upd txR
  by_cases e1 : i = A + 61 + j
  · rw [if_pos e1, if_neg (by omega), if_neg (by omega), if_pos (by omega), e1, show A + 61 + j - (A + 61) = j by omega]
  · rw [if_neg e1]
    by_cases e2 : i = A + 1 + j
    · rw [if_pos e2, if_neg (by omega), if_pos (by omega), e2, show A + 1 + j - (A + 1) = j by omega]
    · rw [if_neg e2]
      by_cases e3 : i = A
      · rw [if_pos e3, if_pos e3]
      · rw [if_neg e3, if_neg e3]
        by_cases e4 : A + 1 ≤ i ∧ i < A + 1 + j
        · rw [if_pos e4, if_pos (by omega)]
        · rw [if_neg e4, if_neg (show ¬ (A + 1 ≤ i ∧ i < A + 1 + (j + 1)) by omega)]
          by_cases e5 : A + 61 ≤ i ∧ i < A + 61 + j
          · rw [if_pos e5, if_pos (by omega)]
          · rw [if_neg e5, if_neg (by omega)]
theorem am_txt0 {r a v : Nat → Int32} {n : Nat} {st : Nat → Int32} (hn : n ≤ 60) (hc : sC (abM r) 0 ≤ 60) (he : ∀ j, j < n → sEnc (a j) (v j) = st j) : abM (txR (upd r 6 0) a v 140 n n) = sTxt (abM r) 0 st n := by
  have hc : (r 140).toNatClampNeg ≤ 60 := hc
  have lo : ∀ i, i < 140 → txR (upd r 6 0) a v 140 n n i = upd r 6 0 i := fun i hi => by unfold txR; rw [if_neg (by omega), if_neg (by omega), if_neg (by omega)]
  have o : ∀ i, 140 ≤ i → (i < 140 ∨ 260 < i) → txR (upd r 6 0) a v 140 n n i = r i := fun i h1 h2 => by unfold txR; rw [if_neg (by omega), if_neg (by omega), if_neg (by omega), upd_ne _ _ (by omega)]
  have eA : (txR (upd r 6 0) a v 140 n n 140).toNatClampNeg = n := by rw [show txR (upd r 6 0) a v 140 n n 140 = nI n from if_pos rfl]; exact nI_clamp (by omega)
  have ea : ∀ j, j < n → txR (upd r 6 0) a v 140 n n (141 + j) = a j := fun j hj => by unfold txR; rw [if_neg (by omega), if_pos (by omega), show 141 + j - (140 + 1) = j by omega]
  have ev : ∀ j, j < n → txR (upd r 6 0) a v 140 n n (201 + j) = v j := fun j hj => by unfold txR; rw [if_neg (by omega), if_neg (by omega), if_pos (by omega), show 201 + j - (140 + 61) = j by omega]
  funext f k
  by_cases hf : f < 9
  · have e2 : sTxt (abM r) 0 st n f k = if f = 6 ∧ k = 6 then 0 else abM r f k := by unfold sTxt; rw [if_neg (by omega), if_neg (fun q => by omega)]
    rw [e2, abM_ix _ f hf, abM_ix r f hf]
    by_cases ho : okx f k = true
    · obtain ⟨q1, q2⟩ := fIx_ix f hf k (okx_lt ho) ho
      rw [if_pos ho, if_pos ho, lo _ q2]
      by_cases e6 : f = 6 ∧ k = 6
      · rw [if_pos e6, e6.1, e6.2]; exact upd_at _ _ _
      · rw [if_neg e6]
        refine upd_ne _ _ (fun q => e6 ?_)
        rw [q] at q1
        exact ⟨(congrArg Prod.fst q1).symm, (congrArg Prod.snd q1).symm⟩
    · rw [if_neg ho, if_neg ho]
      exact (ite_self (0 : Int32)).symm
  · rcases (show f = 9 ∨ f = 10 ∨ f = 11 ∨ 12 ≤ f by omega) with rfl | rfl | rfl | hf2
    · rw [abM_9]
      rw [eA]
      refine Eq.trans ?_ (if_pos rfl).symm
      by_cases e : k < n
      · rw [if_pos e, if_pos e, ea k e, ev k e]; exact he k e
      · rw [if_neg e, if_neg e]
    · rw [abM_10]
      rw [o 261 (by decide) (by decide), o (262 + k) (by omega) (by omega), o (322 + k) (by omega) (by omega)]
      exact ((if_neg (by decide)).trans ((if_neg (fun q => by omega)).trans ((if_neg (fun q => by omega)).trans (abM_10 _ _)))).symm
    · rcases (show k = 0 ∨ k = 1 ∨ 2 ≤ k by omega) with rfl | rfl | hk
      · rw [abM_110]
        exact (show txR (upd r 6 0) a v 140 n n 140 = nI n from if_pos rfl).trans ((if_neg (by decide)).trans (if_pos ⟨rfl, rfl⟩)).symm
      · rw [abM_111]
        rw [o 261 (by decide) (by decide)]; exact ((if_neg (by decide)).trans ((if_neg (fun q => by omega)).trans ((if_neg (fun q => by omega)).trans (abM_111 _)))).symm
      · obtain ⟨m, rfl⟩ : ∃ m, k = m + 2 := ⟨k - 2, by omega⟩
        rw [abM_112]
        exact ((if_neg (by decide)).trans ((if_neg (fun q => by omega)).trans ((if_neg (fun q => by omega)).trans (abM_112 _ _)))).symm
    · obtain ⟨m, rfl⟩ : ∃ m, f = m + 12 := ⟨f - 12, by omega⟩
      rw [abM_12]
      exact ((if_neg (by omega)).trans ((if_neg (fun q => by omega)).trans ((if_neg (fun q => by omega)).trans (abM_12 _ _ _)))).symm
theorem am_txt1 {r a v : Nat → Int32} {n : Nat} {st : Nat → Int32} (hn : n ≤ 60) (hc : sC (abM r) 0 ≤ 60) (he : ∀ j, j < n → sEnc (a j) (v j) = st j) : abM (txR (upd r 6 0) a v 261 n n) = sTxt (abM r) 1 st n := by
  have hc : (r 140).toNatClampNeg ≤ 60 := hc
  have lo : ∀ i, i < 140 → txR (upd r 6 0) a v 261 n n i = upd r 6 0 i := fun i hi => by unfold txR; rw [if_neg (by omega), if_neg (by omega), if_neg (by omega)]
  have o : ∀ i, 140 ≤ i → (i < 261 ∨ 381 < i) → txR (upd r 6 0) a v 261 n n i = r i := fun i h1 h2 => by unfold txR; rw [if_neg (by omega), if_neg (by omega), if_neg (by omega), upd_ne _ _ (by omega)]
  have eA : (txR (upd r 6 0) a v 261 n n 261).toNatClampNeg = n := by rw [show txR (upd r 6 0) a v 261 n n 261 = nI n from if_pos rfl]; exact nI_clamp (by omega)
  have ea : ∀ j, j < n → txR (upd r 6 0) a v 261 n n (262 + j) = a j := fun j hj => by unfold txR; rw [if_neg (by omega), if_pos (by omega), show 262 + j - (261 + 1) = j by omega]
  have ev : ∀ j, j < n → txR (upd r 6 0) a v 261 n n (322 + j) = v j := fun j hj => by unfold txR; rw [if_neg (by omega), if_neg (by omega), if_pos (by omega), show 322 + j - (261 + 61) = j by omega]
  funext f k
  by_cases hf : f < 9
  · have e2 : sTxt (abM r) 1 st n f k = if f = 6 ∧ k = 6 then 0 else abM r f k := by unfold sTxt; rw [if_neg (by omega), if_neg (fun q => by omega)]
    rw [e2, abM_ix _ f hf, abM_ix r f hf]
    by_cases ho : okx f k = true
    · obtain ⟨q1, q2⟩ := fIx_ix f hf k (okx_lt ho) ho
      rw [if_pos ho, if_pos ho, lo _ q2]
      by_cases e6 : f = 6 ∧ k = 6
      · rw [if_pos e6, e6.1, e6.2]; exact upd_at _ _ _
      · rw [if_neg e6]
        refine upd_ne _ _ (fun q => e6 ?_)
        rw [q] at q1
        exact ⟨(congrArg Prod.fst q1).symm, (congrArg Prod.snd q1).symm⟩
    · rw [if_neg ho, if_neg ho]
      exact (ite_self (0 : Int32)).symm
  · rcases (show f = 9 ∨ f = 10 ∨ f = 11 ∨ 12 ≤ f by omega) with rfl | rfl | rfl | hf2
    · rw [abM_9]
      rw [o 140 (by decide) (by decide)]
      refine Eq.trans ?_ ((if_neg (by decide)).trans ((if_neg (fun q => by omega)).trans ((if_neg (fun q => by omega)).trans (abM_9 _ _)))).symm
      by_cases e : k < (r 140).toNatClampNeg
      · rw [if_pos e, if_pos e, o (141 + k) (by omega) (by omega), o (201 + k) (by omega) (by omega)]
      · rw [if_neg e, if_neg e]
    · rw [abM_10]
      rw [eA]
      refine Eq.trans ?_ (if_pos rfl).symm
      by_cases e : k < n
      · rw [if_pos e, if_pos e, ea k e, ev k e]; exact he k e
      · rw [if_neg e, if_neg e]
    · rcases (show k = 0 ∨ k = 1 ∨ 2 ≤ k by omega) with rfl | rfl | hk
      · rw [abM_110]
        rw [o 140 (by decide) (by decide)]; exact ((if_neg (by decide)).trans ((if_neg (fun q => by omega)).trans ((if_neg (fun q => by omega)).trans (abM_110 _)))).symm
      · rw [abM_111]
        exact (show txR (upd r 6 0) a v 261 n n 261 = nI n from if_pos rfl).trans ((if_neg (by decide)).trans (if_pos ⟨rfl, rfl⟩)).symm
      · obtain ⟨m, rfl⟩ : ∃ m, k = m + 2 := ⟨k - 2, by omega⟩
        rw [abM_112]
        exact ((if_neg (by decide)).trans ((if_neg (fun q => by omega)).trans ((if_neg (fun q => by omega)).trans (abM_112 _ _)))).symm
    · obtain ⟨m, rfl⟩ : ∃ m, f = m + 12 := ⟨f - 12, by omega⟩
      rw [abM_12]
      exact ((if_neg (by omega)).trans ((if_neg (fun q => by omega)).trans ((if_neg (fun q => by omega)).trans (abM_12 _ _ _)))).symm
