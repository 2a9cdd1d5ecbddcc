/-! ===== the reader ===== -/
/-! what is read hangs not on the old row -/
def pEq (z z' : rS) : Prop := z.1 = z'.1 ∧ z.2.1 = z'.2.1 ∧ ∀ j, j < z.2.1 → z.2.2 j = z'.2.2 j
def pR2 (a b : Bool × rS) : Prop := a.1 = b.1 ∧ pEq a.2 b.2
def pCg (s s' : rS → Bool × rS) : Prop := ∀ z z', pEq z z' → pR2 (s z) (s' z')
theorem pWr_e {s : Int32} {z z' : rS} (h : pEq z z') : pEq (pWr s z) (pWr s z') := by
  obtain ⟨a, n, st⟩ := z
  obtain ⟨a', n', st'⟩ := z'
  obtain ⟨h1, h2, h3⟩ := h
  have h1 : a = a' := h1
  have h2 : n = n' := h2
  subst h1
  subst h2
  have h3 : ∀ j, j < n → st j = st' j := h3
  unfold pWr
  dsimp only
  by_cases hc : n < 60
  · rw [if_pos hc, if_pos hc]
    refine ⟨rfl, rfl, fun j hj => ?_⟩
    have hj : j < n + 1 := hj
    show (if j = n then s else st j) = (if j = n then s else st' j)
    by_cases e : j = n
    · rw [if_pos e, if_pos e]
    · rw [if_neg e, if_neg e]; exact h3 j (by omega)
  · rw [if_neg hc, if_neg hc]
    exact ⟨rfl, rfl, h3⟩
theorem pAd_e {z z' : rS} (h : pEq z z') : pEq (pAd z) (pAd z') := ⟨by show z.1 + 1 = z'.1 + 1; rw [h.1], h.2⟩
theorem pLoop_e {tp tp' : Nat → Int32} {f : Nat} (ht : pNx tp f = pNx tp' f) {isS : Int32 → Bool} {sub sub' : rS → Bool × rS} (hs : pCg sub sub') : ∀ (n : Nat) (r r' : Bool × rS), pR2 r r' → pR2 (pLoop tp f isS sub n r) (pLoop tp' f isS sub' n r')
  | 0, _, _, h => h
  | n + 1, r, r', h => by
    rw [pLoop, pLoop, ht, h.1, h.2.1]
    by_cases hc : r'.1 = true ∧ isS (pNx tp' f r'.2.1) = true
    · rw [if_pos hc, if_pos hc]
      have h2 := hs _ _ (pAd_e h.2)
      exact pLoop_e ht hs n _ _ ⟨h2.1, pWr_e h2.2⟩
    · rw [if_neg hc, if_neg hc]; exact h
theorem pMul_e {tp tp' : Nat → Int32} {f : Nat} (ht : pNx tp f = pNx tp' f) {s s' : rS → Bool × rS} (hs : pCg s s') : pCg (pMul tp f s) (pMul tp' f s') := fun _ _ h => pLoop_e ht hs 60 _ _ (hs _ _ h)
theorem pAdd_e {tp tp' : Nat → Int32} {f : Nat} (ht : pNx tp f = pNx tp' f) {s s' : rS → Bool × rS} (hs : pCg s s') : pCg (pAdd tp f s) (pAdd tp' f s') := fun _ _ h => pLoop_e ht (pMul_e ht hs) 60 _ _ (pMul_e ht hs _ _ h)
theorem pCmp_e {tp tp' : Nat → Int32} {f : Nat} (ht : pNx tp f = pNx tp' f) {s s' : rS → Bool × rS} (hs : pCg s s') : pCg (pCmp tp f s) (pCmp tp' f s') := fun z z' h => by
  have h1 := pAdd_e ht hs _ _ h
  unfold pCmp
  rw [ht, h1.1, h1.2.1]
  by_cases hc : (pAdd tp' f s' z').1 = true ∧ pIc (pNx tp' f (pAdd tp' f s' z').2.1) = true
  · rw [if_pos hc, if_pos hc]
    have h2 := pAdd_e ht hs _ _ (pAd_e h1.2)
    exact ⟨h2.1, pWr_e h2.2⟩
  · rw [if_neg hc, if_neg hc]; exact h1
theorem pAnd_e {tp tp' : Nat → Int32} {f : Nat} (ht : pNx tp f = pNx tp' f) {s s' : rS → Bool × rS} (hs : pCg s s') : pCg (pAnd tp f s) (pAnd tp' f s') := fun _ _ h => pLoop_e ht (pCmp_e ht hs) 60 _ _ (pCmp_e ht hs _ _ h)
theorem pOr_e {tp tp' : Nat → Int32} {f : Nat} (ht : pNx tp f = pNx tp' f) {s s' : rS → Bool × rS} (hs : pCg s s') : pCg (pOr tp f s) (pOr tp' f s') := fun _ _ h => pLoop_e ht (pAnd_e ht hs) 60 _ _ (pAnd_e ht hs _ _ h)
theorem pOpn_e {tp tp' : Nat → Int32} {f : Nat} (ht : pNx tp f = pNx tp' f) {s s' : rS → Bool × rS} (hs : pCg s s') {c : Int32} : pCg (pOpn tp f s c) (pOpn tp' f s' c) := fun z z' h => by
  unfold pOpn
  by_cases h3 : c = 33
  · rw [if_pos h3, if_pos h3]
    have h2 := hs _ _ (pAd_e h)
    exact ⟨h2.1, pWr_e h2.2⟩
  · rw [if_neg h3, if_neg h3]
    have h1 := pOr_e ht hs _ _ (pAd_e h)
    rw [ht, h1.1, h1.2.1]
    by_cases hc : (pOr tp' f s' (pAd z')).1 = true ∧ pNx tp' f (pOr tp' f s' (pAd z')).2.1 = 41
    · rw [if_pos hc, if_pos hc]; exact ⟨rfl, pAd_e h1.2⟩
    · rw [if_neg hc, if_neg hc]; exact ⟨rfl, h1.2⟩
theorem pNum_e {tp tp' : Nat → Int32} {f : Nat} (ht : pNx tp f = pNx tp' f) : ∀ (n : Nat) (v : Int32) (z z' : rS), pEq z z' → (pNum tp f n v z).1 = (pNum tp' f n v z').1 ∧ pEq (pNum tp f n v z).2 (pNum tp' f n v z').2
  | 0, _, _, _, h => ⟨rfl, h⟩
  | n + 1, v, z, z', h => by
    rw [pNum, pNum, ht, h.1]
    by_cases hc : 48 ≤ pNx tp' f z'.1 ∧ pNx tp' f z'.1 ≤ 57
    · rw [if_pos hc, if_pos hc]; exact pNum_e ht n _ _ _ (pAd_e h)
    · rw [if_neg hc, if_neg hc]; exact ⟨rfl, h⟩
theorem pPt_e {tp tp' : Nat → Int32} {f i : Nat} (ht : pNx tp f = pNx tp' f) {o o' : Int32 → rS → Bool × rS} (ho : ∀ c, pCg (o c) (o' c)) : pCg (pPt tp f i o) (pPt tp' f i o') := fun z z' h => by
  unfold pPt
  rw [ht, h.1]
  by_cases h1 : 48 ≤ pNx tp' f z'.1 ∧ pNx tp' f z'.1 ≤ 57
  · rw [if_pos h1, if_pos h1]
    have h2 := pNum_e ht 4 0 _ _ h
    unfold pDig
    rw [h2.1]
    exact ⟨rfl, pWr_e h2.2⟩
  · rw [if_neg h1, if_neg h1]
    by_cases h2 : pNx tp' f z'.1 = 33 ∨ pNx tp' f z'.1 = 40
    · rw [if_pos h2, if_pos h2]; exact ho _ _ _ h
    · rw [if_neg h2, if_neg h2]
      unfold pNmd
      by_cases h3 : pNx tp' f z'.1 < 0 ∨ sIx i (pNx tp' f z'.1) 3 0 < 0
      · rw [if_pos h3, if_pos h3]; exact ⟨rfl, h⟩
      · rw [if_neg h3, if_neg h3]; exact ⟨rfl, pWr_e (pAd_e h)⟩
theorem pPart_e {tp tp' : Nat → Int32} {f i : Nat} (ht : pNx tp f = pNx tp' f) : ∀ n, pCg (pPart tp f i n) (pPart tp' f i n)
  | 0 => pPt_e ht (fun _ _ _ h => ⟨rfl, h⟩)
  | n + 1 => pPt_e ht (fun _ => pOpn_e ht (pPart_e ht n))
/-! the whole reading -/
def pAll (tp : Nat → Int32) (f i : Nat) (st : Nat → Int32) : Bool × rS := pOr tp f (pPart tp f i 5) (0, 0, st)
theorem pAll_ok {tp : Nat → Int32} {f i : Nat} (hf : f ≤ 60) {st : Nat → Int32} : rOk (pAll tp f i st).2 := pOr_ok hf (pPart_ok hf 5) _ ⟨Nat.zero_le _, Nat.zero_le _⟩
abbrev rW0 (w : jWd) (f i : Nat) : jWd := jset (jset (jset (jset w 46 3 (nI f)) 46 5 (nI i)) 46 4 0) 46 2 0
theorem rPut_id {w : jWd} {f i : Nat} : rPut (rW0 w f i) (0, 0, w.1 47) = rW0 w f i := by
  refine Prod.ext (funext fun c => funext fun j => ?_) rfl
  by_cases e : c = 47
  · subst e; simp [rPut, jset, jsetA]
  · by_cases e6 : c = 46
    · subst e6
      by_cases e4 : j = 4
      · subst e4; simp [rPut, jset, jsetA, upd, nI_0]
      · by_cases e2 : j = 2
        · subst e2; simp [rPut, jset, jsetA, upd, nI_0]
        · simp [rPut, jset, jsetA, upd, e4, e2]
    · simp [rPut, jset, jsetA, e, e6]
def rT7 (w : jWd) : Prop := ∀ k, k < 60 → 0 ≤ (w.1 7 k).toInt ∧ (w.1 7 k).toInt ≤ 255
theorem r_run {G : jG} {w : jWd} {f i : Nat} (hf : f ≤ 60) (hi : i < 2) (h7 : rT7 w) : jKd G 44 yX2_readOr cX2_readOr 4 (some .boolean) [.ref 46, .int 0] (rW0 w f i) (some (.int (jb ((pAll (w.1 7) f i (w.1 47)).1 = true)))) (rPut (rW0 w f i) (pAll (w.1 7) f i (w.1 47)).2) := by
  have e5 : ((rW0 w f i).1 46 5).toNatClampNeg = i := nI_clamp (show i < 2 ^ 31 by omega)
  have hH : rH (rW0 w f i) f := ⟨rfl, hf, h7, by rw [e5]; exact hi⟩
  have h := r_or hH (pPart_ok hf 5) (r_part hH 5 0 rfl) (0, 0, w.1 47) ⟨Nat.zero_le _, Nat.zero_le _⟩ (G := G)
  rw [rPut_id, e5, nI_0] at h
  exact h
set_option maxHeartbeats 4000000 in
set_option maxRecDepth 100000 in
theorem k_rFault {G : jG} {w : jWd} {f i : Nat} (hf : f ≤ 60) (hi : i < 2) (h7 : rT7 w) : jKd G 45 yX2_faultOf cX2_faultOf 3 (some .int) [.ref 46, .int (nI f), .ref (1002 + i)] w (some (.int (if (pAll (w.1 7) f i (w.1 47)).1 = true ∧ (pAll (w.1 7) f i (w.1 47)).2.1 = f then -1 else nI (pAll (w.1 7) f i (w.1 47)).2.1))) (rPut (rW0 w f i) (pAll (w.1 7) f i (w.1 47)).2) := by
  have hk := (pAll_ok (tp := w.1 7) (i := i) hf (st := w.1 47)).1
  refine jK_of (own := RX2) [some (.ref 46), some (.int (nI f)), some (.ref (1002 + i))] pn2 rfl (Nat.le_of_ble_eq_true rfl) rfl ?_
  refine J_aload_n (pc' := 1) dX2_faultOf_0 rfl rfl ?_
  refine J_iload_n (pc' := 2) dX2_faultOf_1 rfl rfl ?_
  refine J_putI (pc' := 5) dX2_faultOf_2 fp_2_24 (ly_46) (l84_46) rfl rfl ?_
  refine J_aload_n (pc' := 6) dX2_faultOf_5 rfl rfl ?_
  refine J_aload_n (pc' := 7) dX2_faultOf_6 rfl rfl ?_
  refine J_putS (j := i) (pc' := 10) dX2_faultOf_7 fp_2_17 (ly_46) (l84_46) rfl (by omega) rfl ?_
  refine J_aload_n (pc' := 11) dX2_faultOf_10 rfl rfl ?_
  refine J_iconst (v := 0) (pc' := 12) dX2_faultOf_11 (by decide) rfl ?_
  refine J_putI (pc' := 15) dX2_faultOf_12 fp_2_28 (ly_46) (l84_46) rfl rfl ?_
  refine J_aload_n (pc' := 16) dX2_faultOf_15 rfl rfl ?_
  refine J_iconst (v := 0) (pc' := 17) dX2_faultOf_16 (by decide) rfl ?_
  refine J_putI (pc' := 20) dX2_faultOf_17 fp_2_31 (ly_46) (l84_46) rfl rfl ?_
  refine J_aload_n (pc' := 21) dX2_faultOf_20 rfl rfl ?_
  refine J_iconst (v := 0) (pc' := 22) dX2_faultOf_21 (by decide) rfl ?_
  refine J_V1v (pc' := 25) dX2_faultOf_22 lk_2_34 cd_X2_readOr (r_run hf hi h7) (ly_46) (l84_46) rfl rfl (jroom_of rfl) (Nat.le_of_ble_eq_true rfl) rfl ?_
  refine J_if_eq 40 (pc' := 28) dX2_faultOf_25 (by decide) rfl (fun h_25 => ?_) (fun h_25 => ?_)
  · refine J_aload_n (pc' := 41) dX2_faultOf_40 rfl rfl ?_
    refine J_getI (pc' := 44) dX2_faultOf_41 fl_2_28 (ly_46) (l84_46) rfl rfl ?_
    rw [show (rPut (rW0 w f i) (pAll (w.1 7) f i (w.1 47)).2).1 46 4 = nI (pAll (w.1 7) f i (w.1 47)).2.1 from rfl]
    first | exact J_iret dX2_faultOf_44  (by rw [if_pos (show (pAll (w.1 7) f i (w.1 47)).1 = true ∧ (pAll (w.1 7) f i (w.1 47)).2.1 = f from ⟨jb_n h_25, (nI_eq (by omega) (by omega)).mp (by first | exact h_33 | exact Decidable.not_not.mp h_33)⟩)]; exact ⟨rfl, rfl⟩) | exact J_iret dX2_faultOf_44  (by rw [if_neg (show ¬ ((pAll (w.1 7) f i (w.1 47)).1 = true ∧ (pAll (w.1 7) f i (w.1 47)).2.1 = f) from fun q => by first | exact jb_0.mp h_25 q.1 | exact h_33 (congrArg nI q.2))]; exact ⟨rfl, rfl⟩)
  · refine J_aload_n (pc' := 29) dX2_faultOf_28 rfl rfl ?_
    refine J_getI (pc' := 32) dX2_faultOf_29 fl_2_28 (ly_46) (l84_46) rfl rfl ?_
    rw [show (rPut (rW0 w f i) (pAll (w.1 7) f i (w.1 47)).2).1 46 4 = nI (pAll (w.1 7) f i (w.1 47)).2.1 from rfl]
    refine J_iload_n (pc' := 33) dX2_faultOf_32 rfl rfl ?_
    refine J_icmp_ne 40 (pc' := 36) dX2_faultOf_33 (by decide) rfl (fun h_33 => ?_) (fun h_33 => ?_)
    · refine J_aload_n (pc' := 41) dX2_faultOf_40 rfl rfl ?_
      refine J_getI (pc' := 44) dX2_faultOf_41 fl_2_28 (ly_46) (l84_46) rfl rfl ?_
      rw [show (rPut (rW0 w f i) (pAll (w.1 7) f i (w.1 47)).2).1 46 4 = nI (pAll (w.1 7) f i (w.1 47)).2.1 from rfl]
      first | exact J_iret dX2_faultOf_44  (by rw [if_pos (show (pAll (w.1 7) f i (w.1 47)).1 = true ∧ (pAll (w.1 7) f i (w.1 47)).2.1 = f from ⟨jb_n h_25, (nI_eq (by omega) (by omega)).mp (by first | exact h_33 | exact Decidable.not_not.mp h_33)⟩)]; exact ⟨rfl, rfl⟩) | exact J_iret dX2_faultOf_44  (by rw [if_neg (show ¬ ((pAll (w.1 7) f i (w.1 47)).1 = true ∧ (pAll (w.1 7) f i (w.1 47)).2.1 = f) from fun q => by first | exact jb_0.mp h_25 q.1 | exact h_33 (congrArg nI q.2))]; exact ⟨rfl, rfl⟩)
    · refine J_iconst (v := -1) (pc' := 37) dX2_faultOf_36 (by decide) rfl ?_
      refine J_goto (pc' := 0) 44 dX2_faultOf_37 (by decide) ?_
      first | exact J_iret dX2_faultOf_44  (by rw [if_pos (show (pAll (w.1 7) f i (w.1 47)).1 = true ∧ (pAll (w.1 7) f i (w.1 47)).2.1 = f from ⟨jb_n h_25, (nI_eq (by omega) (by omega)).mp (by first | exact h_33 | exact Decidable.not_not.mp h_33)⟩)]; exact ⟨rfl, rfl⟩) | exact J_iret dX2_faultOf_44  (by rw [if_neg (show ¬ ((pAll (w.1 7) f i (w.1 47)).1 = true ∧ (pAll (w.1 7) f i (w.1 47)).2.1 = f) from fun q => by first | exact jb_0.mp h_25 q.1 | exact h_33 (congrArg nI q.2))]; exact ⟨rfl, rfl⟩)
/-- a text that is put in -/
def sTxt (σ : sg) (u : Nat) (st : Nat → Int32) (n : Nat) : sg := fun f k => if f = 9 + u then (if k < n then st k else 0) else if f = 11 ∧ k = u then nI n else if f = 6 ∧ k = 6 then 0 else σ f k
theorem sIF {σ : sg} (h : sInv σ) : σ 6 6 = nI (nn (σ 6 6)) ∧ nn (σ 6 6) ≤ 60 := by
  obtain ⟨n, e, hn⟩ := h.2.2.2.2.2.1
  rw [e, nn_nI (by omega)]
  exact ⟨rfl, hn⟩
def sRead (σ : sg) (u : Nat) : Bool × rS := pAll (σ 7) (nn (σ 6 6)) u (fun _ => 0)
theorem sRead_e {w : jWd} (hI : sInv (abX w 1)) {u : Nat} : pR2 (pAll (w.1 7) (nn (abX w 1 6 6)) u (w.1 47)) (sRead (abX w 1) u) := by
  have hf : nn (abX w 1 6 6) ≤ 60 := (sIF hI).2
  have ht : pNx (w.1 7) (nn (abX w 1 6 6)) = pNx (abX w 1 7) (nn (abX w 1 6 6)) := by
    funext a
    unfold pNx
    by_cases ha : a < nn (abX w 1 6 6)
    · rw [if_pos ha, if_pos ha]; exact (if_pos (show a < 60 by omega)).symm
    · rw [if_neg ha, if_neg ha]
  exact pOr_e ht (pPart_e ht 5) _ _ ⟨rfl, rfl, fun j hj => absurd hj (Nat.not_lt_zero _)⟩
theorem abX_txt0 {v w : jWd} {st st' : Nat → Int32} {n : Nat} (hn : n ≤ 60) (h1 : ∀ a, 1 < a → a < 46 → a ≠ 10 → a ≠ 11 → v.1 a = w.1 a) (hb : ∀ k, k ≠ 15 → v.1 1 k = w.1 1 k) (hc : v.1 1 15 = 0) (h2 : ∀ j, j < 60 → v.1 11 j = st j) (h4 : v.1 10 5 = nI n) (he : ∀ j, j < n → st j = st' j) : abX v 1 = sTxt (abX w 1) 0 st' n := by
  have en : (v.1 10 5).toNatClampNeg = n := by rw [h4]; exact nI_clamp (by omega)
  funext f k
  match f with
  | 0 => unfold abX sTxt; simp [h1 2]
  | 1 => unfold abX sTxt; simp [h1 3]
  | 2 => unfold abX sTxt; simp [h1 4]
  | 3 => unfold abX sTxt; simp [h1 5]
  | 4 => unfold abX sTxt; simp [h1 6]
  | 5 => unfold abX sTxt; simp [hb 9]
  | 6 =>
    match k with
    | 0 => exact hb 8 (by decide)
    | 1 => exact hb 10 (by decide)
    | 2 => exact hb 11 (by decide)
    | 3 => exact hb 12 (by decide)
    | 4 => exact hb 13 (by decide)
    | 5 => exact hb 14 (by decide)
    | 6 => exact hc
    | 7 => exact hb 16 (by decide)
    | m + 8 => rfl
  | 7 => unfold abX sTxt; simp [h1 7]
  | 8 => unfold abX sTxt; simp [h1 8]
  | 9 =>
    show (if k < (v.1 10 5).toNatClampNeg then v.1 11 k else 0) = (if k < n then st' k else 0)
    rw [en]
    by_cases e : k < n
    · rw [if_pos e, if_pos e, h2 k (by omega), he k e]
    · rw [if_neg e, if_neg e]
  | 10 =>
    show (if k < (v.1 13 5).toNatClampNeg then v.1 14 k else 0) = (if k < (w.1 13 5).toNatClampNeg then w.1 14 k else 0)
    rw [h1 13 (by decide) (by decide) (by decide) (by decide), h1 14 (by decide) (by decide) (by decide) (by decide)]
  | 11 =>
    match k with
    | 0 => exact h4
    | 1 =>
      show v.1 13 5 = w.1 13 5
      rw [h1 13 (by decide) (by decide) (by decide) (by decide)]
    | m + 2 => rfl
  | m + 12 => rfl
theorem abX_txt1 {v w : jWd} {st st' : Nat → Int32} {n : Nat} (hn : n ≤ 60) (h1 : ∀ a, 1 < a → a < 46 → a ≠ 13 → a ≠ 14 → v.1 a = w.1 a) (hb : ∀ k, k ≠ 15 → v.1 1 k = w.1 1 k) (hc : v.1 1 15 = 0) (h2 : ∀ j, j < 60 → v.1 14 j = st j) (h4 : v.1 13 5 = nI n) (he : ∀ j, j < n → st j = st' j) : abX v 1 = sTxt (abX w 1) 1 st' n := by
  have en : (v.1 13 5).toNatClampNeg = n := by rw [h4]; exact nI_clamp (by omega)
  funext f k
  match f with
  | 0 => unfold abX sTxt; simp [h1 2]
  | 1 => unfold abX sTxt; simp [h1 3]
  | 2 => unfold abX sTxt; simp [h1 4]
  | 3 => unfold abX sTxt; simp [h1 5]
  | 4 => unfold abX sTxt; simp [h1 6]
  | 5 => unfold abX sTxt; simp [hb 9]
  | 6 =>
    match k with
    | 0 => exact hb 8 (by decide)
    | 1 => exact hb 10 (by decide)
    | 2 => exact hb 11 (by decide)
    | 3 => exact hb 12 (by decide)
    | 4 => exact hb 13 (by decide)
    | 5 => exact hb 14 (by decide)
    | 6 => exact hc
    | 7 => exact hb 16 (by decide)
    | m + 8 => rfl
  | 7 => unfold abX sTxt; simp [h1 7]
  | 8 => unfold abX sTxt; simp [h1 8]
  | 9 =>
    show (if k < (v.1 10 5).toNatClampNeg then v.1 11 k else 0) = (if k < (w.1 10 5).toNatClampNeg then w.1 11 k else 0)
    rw [h1 10 (by decide) (by decide) (by decide) (by decide), h1 11 (by decide) (by decide) (by decide) (by decide)]
  | 10 =>
    show (if k < (v.1 13 5).toNatClampNeg then v.1 14 k else 0) = (if k < n then st' k else 0)
    rw [en]
    by_cases e : k < n
    · rw [if_pos e, if_pos e, h2 k (by omega), he k e]
    · rw [if_neg e, if_neg e]
  | 11 =>
    match k with
    | 0 =>
      show v.1 10 5 = w.1 10 5
      rw [h1 10 (by decide) (by decide) (by decide) (by decide)]
    | 1 => exact h4
    | m + 2 => rfl
  | m + 12 => rfl
theorem abX_fed0 {v w : jWd} (h1 : ∀ a, 1 < a → a < 46 → v.1 a = w.1 a) (hb : ∀ k, k ≠ 15 → v.1 1 k = w.1 1 k) (hc : v.1 1 15 = 0) : abX v 1 = sg1 (abX w 1) 6 6 0 := by
  funext f k
  match f with
  | 0 => unfold abX sg1; simp [h1 2]
  | 1 => unfold abX sg1; simp [h1 3]
  | 2 => unfold abX sg1; simp [h1 4]
  | 3 => unfold abX sg1; simp [h1 5]
  | 4 => unfold abX sg1; simp [h1 6]
  | 5 => unfold abX sg1; simp [hb 9]
  | 6 =>
    match k with
    | 0 => exact hb 8 (by decide)
    | 1 => exact hb 10 (by decide)
    | 2 => exact hb 11 (by decide)
    | 3 => exact hb 12 (by decide)
    | 4 => exact hb 13 (by decide)
    | 5 => exact hb 14 (by decide)
    | 6 => exact hc
    | 7 => exact hb 16 (by decide)
    | m + 8 => rfl
  | 7 => unfold abX sg1; simp [h1 7]
  | 8 => unfold abX sg1; simp [h1 8]
  | 9 => unfold abX sg1; simp [h1 10, h1 11]
  | 10 => unfold abX sg1; simp [h1 13, h1 14]
  | 11 =>
    match k with
    | 0 => show v.1 10 5 = w.1 10 5; rw [h1 10 (by decide) (by decide)]
    | 1 => show v.1 13 5 = w.1 13 5; rw [h1 13 (by decide) (by decide)]
    | m + 2 => rfl
  | m + 12 => rfl
theorem rP_off {w : jWd} {f i : Nat} {z : rS} {a : Nat} (h6 : a ≠ 46) (h7 : a ≠ 47) : (rPut (rW0 w f i) z).1 a = w.1 a := by
  show (if a = 47 then _ else if a = 46 then _ else _) = _
  rw [if_neg h7, if_neg h6]
  show (jset (jset (jset (jset w 46 3 (nI f)) 46 5 (nI i)) 46 4 0) 46 2 0).1 a = _
  rw [jset_off h6, jset_off h6, jset_off h6, jset_off h6]
theorem bq_read {v w : jWd} {σ : sg} (hX : XInv w) (h : ∀ a, 16 ≤ a → a ≠ 46 → a ≠ 47 → v.1 a = w.1 a) (h0 : v.1 0 = w.1 0) (hL : v.2 = w.2) (h1 : abX v 1 = σ) (hB : xB v 1) : BQ w v (σ, abX w 16, restX w) :=
  ⟨h1, abX_congr (fun a q1 q2 => h a (by omega) (by omega) (by omega)), restX_congr (fun a q => by rcases q with rfl | q; exact h0; exact h a (by omega) (by omega) (by omega)), ⟨hB, xB_congr (fun a q1 q2 => h a (by omega) (by omega) (by omega)) hX.2.1, xB_congr (fun a q1 q2 => h a (by omega) (by omega) (by omega)) hX.2.2⟩, fun a q => ⟨h a (by omega) (by omega) (by omega), by rw [hL]⟩⟩
def sq_text (s k r : sg) (x : Int32) : sQI := if 0 ≤ x ∧ x ≤ 1 then (if (sRead s (nn x)).1 = true ∧ (sRead s (nn x)).2.1 = nn (s 6 6) then (1, sTxt s (nn x) (sRead s (nn x)).2.2.2 (sRead s (nn x)).2.2.1, k, r) else (-10 - nI (sRead s (nn x)).2.1, sg1 s 6 6 0, k, r)) else (sErr 1, s, k, sEr r 1)
set_option maxHeartbeats 4000000 in
set_option maxRecDepth 100000 in
theorem a_X6_text {G : jG} {w : jWd} (hX : XInv w) (hI : sInv (abX w 1)) {x : Int32} : jKp G 46 yX6_text cX6_text 3 (some .int) [.ref 0, .int x] w (some (.int (sq_text (abX w 1) (abX w 16) (restX w) x).1)) (fun w' => BQ w w' (sq_text (abX w 1) (abX w 16) (restX w) x).2) := by
  have hf6 := sIF hI
  have h7 : rT7 w := fun k hk => by have := hI.2.2.2.2.2.2.2.2.2.2 k hk; rw [show abX w 1 7 k = w.1 7 k from if_pos hk] at this; exact this
  refine jK_of (own := RX6) [some (.ref 0), some (.int x), none] pn6 rfl (Nat.le_of_ble_eq_true rfl) rfl ?_
  refine J_iload_n (pc' := 1) dX6_text_0 rfl rfl ?_
  refine J_S1v (pc' := 4) dX6_text_1 lk_6_133 cd_X6_isUse (k_X6_isUse) (jroom_of rfl) (Nat.le_of_ble_eq_true rfl) rfl ?_
  refine J_if_ne 13 (pc' := 7) dX6_text_4 (by decide) rfl (fun h_4 => ?_) (fun h_4 => ?_)
  · obtain ⟨u, hu0, hu1, rfl⟩ := nI_wi (a := 0) (b := 1) (by decide) (by decide) (jb_n h_4)
    obtain rfl | rfl : u = 0 ∨ u = 1 := by omega
    · refine J_aload_n (pc' := 14) dX6_text_13 rfl rfl ?_
      refine J_getR (pc' := 17) dX6_text_14 fl_6_31 (ly_0) (l84_0) rfl rfl ?_
      refine J_aload_n (pc' := 18) dX6_text_17 rfl rfl ?_
      refine J_getR (pc' := 21) dX6_text_18 fl_6_12 (ly_0) (l84_0) rfl rfl ?_
      refine J_getI (pc' := 24) dX6_text_21 fl_6_130 (ly_1) (l84_1) rfl rfl ?_
      rw [show w.1 1 15 = nI (nn (abX w 1 6 6)) from hf6.1]
      refine J_aload_n (pc' := 25) dX6_text_24 rfl rfl ?_
      refine J_getR (pc' := 28) dX6_text_25 fl_6_12 (ly_0) (l84_0) rfl rfl ?_
      refine J_getR (pc' := 31) dX6_text_28 fl_6_136 (ly_1) (l84_1) rfl rfl ?_
      refine J_iload_n (pc' := 32) dX6_text_31 rfl rfl ?_
      refine J_aald 0 (pc' := 33) dX6_text_32 (ly_9) (Or.inr (Or.inr rfl)) (l84_9) rfl rfl (by decide) (by decide) rfl ?_
      refine J_getR (pc' := 36) dX6_text_33 fl_6_140 (ly_10) (l84_10) rfl rfl ?_
      refine J_V2v (pc' := 39) dX6_text_36 lk_6_146 cd_X2_faultOf (k_rFault (i := 0) hf6.2 (by omega) h7) (ly_46) (l84_46) rfl rfl (jroom_of rfl) (Nat.le_of_ble_eq_true rfl) rfl ?_
      have hE := sRead_e hI (u := 0)
      have hk := (pAll_ok (tp := w.1 7) (i := 0) hf6.2 (st := w.1 47))
      refine J_istore_n (pc' := 40) dX6_text_39 (Nat.le_of_ble_eq_true rfl) (jst2 rfl rfl) rfl ?_
      refine J_aload_n (pc' := 41) dX6_text_40 rfl rfl ?_
      refine J_getR (pc' := 44) dX6_text_41 fl_6_12 (ly_0) (l84_0) rfl rfl ?_
      refine J_iconst (v := 0) (pc' := 45) dX6_text_44 (by decide) rfl ?_
      refine J_putI (pc' := 48) dX6_text_45 fp_6_130 (ly_1) (l84_1) rfl rfl ?_
      refine J_iload_n (pc' := 49) dX6_text_48 rfl rfl ?_
      refine J_if_lt 57 (pc' := 52) dX6_text_49 (by decide) rfl (fun h_49 => ?_) (fun h_49 => ?_)
      · refine J_aload_n (pc' := 58) dX6_text_57 rfl rfl ?_
        refine J_getR (pc' := 61) dX6_text_58 fl_6_12 (ly_0) (l84_0) rfl rfl ?_
        refine J_getR (pc' := 64) dX6_text_61 fl_6_136 (ly_1) (l84_1) rfl rfl ?_
        refine J_iload_n (pc' := 65) dX6_text_64 rfl rfl ?_
        refine J_aald 0 (pc' := 66) dX6_text_65 (ly_9) (Or.inr (Or.inr rfl)) (l84_9) rfl rfl (by decide) (by decide) rfl ?_
        refine J_aload_n (pc' := 67) dX6_text_66 rfl rfl ?_
        refine J_getR (pc' := 70) dX6_text_67 fl_6_31 (ly_0) (l84_0) rfl rfl ?_
        refine J_getR (pc' := 73) dX6_text_70 fl_6_150 (ly_46) (l84_46) rfl rfl ?_
        refine J_aload_n (pc' := 74) dX6_text_73 rfl rfl ?_
        refine J_getR (pc' := 77) dX6_text_74 fl_6_31 (ly_0) (l84_0) rfl rfl ?_
        refine J_getI (pc' := 80) dX6_text_77 fl_6_153 (ly_46) (l84_46) rfl rfl ?_
        refine J_V2w (pc' := 83) dX6_text_80 lk_6_156 cd_X4_copy (k_tcopy jt10 ly_47 (by decide)) (ly_10) (l84_10) rfl rfl (jroom_of rfl) (Nat.le_of_ble_eq_true rfl) rfl (fun w80 hw80 => ?_)
        refine J_iconst (v := 1) (pc' := 84) dX6_text_83 (by decide) rfl ?_
        have hC : (pAll (w.1 7) (nn (abX w 1 6 6)) 0 (w.1 47)).1 = true ∧ (pAll (w.1 7) (nn (abX w 1 6 6)) 0 (w.1 47)).2.1 = nn (abX w 1 6 6) := by
          by_cases q : (pAll (w.1 7) (nn (abX w 1 6 6)) 0 (w.1 47)).1 = true ∧ (pAll (w.1 7) (nn (abX w 1 6 6)) 0 (w.1 47)).2.1 = nn (abX w 1 6 6)
          · exact q
          · rw [if_neg q] at h_49; exact absurd (by first | exact h_49 | exact Decidable.not_not.mp h_49) (nI_pos (by have := hk.1; omega))
        have hC2 : (sRead (abX w 1) 0).1 = true ∧ (sRead (abX w 1) 0).2.1 = nn (abX w 1 6 6) := by rw [← hE.1, ← hE.2.1]; exact hC
        obtain ⟨c1, c2, c3, c4, c5⟩ := hw80
        have o : ∀ a, a ≠ 1 → a ≠ 46 → a ≠ 47 → a ≠ 10 → a ≠ 11 → w80.1 a = w.1 a := fun a q1 q2 q3 q4 q5 => by rw [c1 a q5 q4, jset_off q1]; exact rP_off q2 q3
        have o1 : ∀ k, k ≠ 15 → w80.1 1 k = w.1 1 k := fun k q => by rw [c1 1 (by omega) (by omega), jset_1, if_pos rfl, if_neg q]; exact congrFun (rP_off (by omega) (by omega)) k
        have ot : ∀ k, k ≠ 5 → w80.1 10 k = w.1 10 k := fun k q => by rw [c3 k q, jset_off (by omega)]; exact congrFun (rP_off (by omega) (by omega)) k
        have hA : abX w80 1 = sTxt (abX w 1) 0 (sRead (abX w 1) 0).2.2.2 (sRead (abX w 1) 0).2.2.1 := abX_txt0 (w := w) (st := (pAll (w.1 7) (nn (abX w 1 6 6)) 0 (w.1 47)).2.2.2) (by rw [← hE.2.2.1]; exact hk.2) (fun a q1 q2 q3 q4 => o a (by omega) (by omega) (by omega) q3 q4) o1 (by rw [c1 1 (by omega) (by omega), jset_1, if_pos rfl, if_pos rfl]) (fun j hj => (c2 j hj).trans rfl) (by rw [c4, ← hE.2.2.1]; rfl) (fun j hj => hE.2.2.2 j (by rw [hE.2.2.1]; exact hj))
        have hB := bq_read (v := w80) hX (fun a q1 q2 q3 => o a (by omega) q2 q3 (by omega) (by omega)) (o 0 (by omega) (by omega) (by omega) (by omega) (by omega)) (c5.trans rfl) hA ⟨by obtain ⟨S, h1, h2⟩ := hX.1.1; exact ⟨S, h1, (o1 9 (by omega)).trans h2⟩, (ot 1 (by omega)).trans hX.1.2.1, (ot 2 (by omega)).trans hX.1.2.2.1, (congrFun (o 13 (by omega) (by omega) (by omega) (by omega) (by omega)) 1).trans hX.1.2.2.2.1, (congrFun (o 13 (by omega) (by omega) (by omega) (by omega) (by omega)) 2).trans hX.1.2.2.2.2⟩
        exact J_iret dX6_text_84  (by unfold sq_text; rw [if_pos (show 0 ≤ nI 0 ∧ nI 0 ≤ 1 from jb_n h_4), nn_nI (by omega), if_pos hC2]; dsimp only; exact ⟨rfl, hB⟩)
      · refine J_bipush (v := (-10)) (pc' := 54) dX6_text_52 (by decide) rfl ?_
        refine J_iload_n (pc' := 55) dX6_text_54 rfl rfl ?_
        refine J_isub (pc' := 56) dX6_text_55 rfl ?_
        have hC : ¬ ((pAll (w.1 7) (nn (abX w 1 6 6)) 0 (w.1 47)).1 = true ∧ (pAll (w.1 7) (nn (abX w 1 6 6)) 0 (w.1 47)).2.1 = nn (abX w 1 6 6)) := fun q => by rw [if_pos q] at h_49; exact h_49 (by decide)
        have hC2 : ¬ ((sRead (abX w 1) 0).1 = true ∧ (sRead (abX w 1) 0).2.1 = nn (abX w 1 6 6)) := by rw [← hE.1, ← hE.2.1]; exact hC
        have hB := bq_read (v := (jset (rPut (rW0 w (nn (abX w 1 6 6)) 0) (pAll (w.1 7) (nn (abX w 1 6 6)) 0 (w.1 47)).2) 1 15 0)) hX (fun a q1 q2 q3 => by rw [jset_off (by omega)]; exact rP_off q2 q3) (by rw [jset_off (by omega)]; exact rP_off (by omega) (by omega)) rfl (abX_fed0 (w := w) (fun a q1 q2 => by rw [jset_off (by omega)]; exact rP_off (by omega) (by omega)) (fun k q => by rw [jset_1, if_pos rfl, if_neg q]; exact congrFun (rP_off (by omega) (by omega)) k) (by rw [jset_1, if_pos rfl, if_pos rfl])) (xB_set (xB_congr (fun a q1 q2 => rP_off (by omega) (by omega)) hX.1) (by omega) (by omega) (by omega))
        exact J_iret dX6_text_56  (by unfold sq_text; rw [if_pos (show 0 ≤ nI 0 ∧ nI 0 ≤ 1 from jb_n h_4), nn_nI (by omega), if_neg hC2]; dsimp only; exact ⟨by rw [if_neg hC, hE.2.1], hB⟩)
    · refine J_aload_n (pc' := 14) dX6_text_13 rfl rfl ?_
      refine J_getR (pc' := 17) dX6_text_14 fl_6_31 (ly_0) (l84_0) rfl rfl ?_
      refine J_aload_n (pc' := 18) dX6_text_17 rfl rfl ?_
      refine J_getR (pc' := 21) dX6_text_18 fl_6_12 (ly_0) (l84_0) rfl rfl ?_
      refine J_getI (pc' := 24) dX6_text_21 fl_6_130 (ly_1) (l84_1) rfl rfl ?_
      rw [show w.1 1 15 = nI (nn (abX w 1 6 6)) from hf6.1]
      refine J_aload_n (pc' := 25) dX6_text_24 rfl rfl ?_
      refine J_getR (pc' := 28) dX6_text_25 fl_6_12 (ly_0) (l84_0) rfl rfl ?_
      refine J_getR (pc' := 31) dX6_text_28 fl_6_136 (ly_1) (l84_1) rfl rfl ?_
      refine J_iload_n (pc' := 32) dX6_text_31 rfl rfl ?_
      refine J_aald 1 (pc' := 33) dX6_text_32 (ly_9) (Or.inr (Or.inr rfl)) (l84_9) rfl rfl (by decide) (by decide) rfl ?_
      refine J_getR (pc' := 36) dX6_text_33 fl_6_140 (ly_13) (l84_13) rfl rfl ?_
      refine J_V2v (pc' := 39) dX6_text_36 lk_6_146 cd_X2_faultOf (k_rFault (i := 1) hf6.2 (by omega) h7) (ly_46) (l84_46) rfl rfl (jroom_of rfl) (Nat.le_of_ble_eq_true rfl) rfl ?_
      have hE := sRead_e hI (u := 1)
      have hk := (pAll_ok (tp := w.1 7) (i := 1) hf6.2 (st := w.1 47))
      refine J_istore_n (pc' := 40) dX6_text_39 (Nat.le_of_ble_eq_true rfl) (jst2 rfl rfl) rfl ?_
      refine J_aload_n (pc' := 41) dX6_text_40 rfl rfl ?_
      refine J_getR (pc' := 44) dX6_text_41 fl_6_12 (ly_0) (l84_0) rfl rfl ?_
      refine J_iconst (v := 0) (pc' := 45) dX6_text_44 (by decide) rfl ?_
      refine J_putI (pc' := 48) dX6_text_45 fp_6_130 (ly_1) (l84_1) rfl rfl ?_
      refine J_iload_n (pc' := 49) dX6_text_48 rfl rfl ?_
      refine J_if_lt 57 (pc' := 52) dX6_text_49 (by decide) rfl (fun h_49 => ?_) (fun h_49 => ?_)
      · refine J_aload_n (pc' := 58) dX6_text_57 rfl rfl ?_
        refine J_getR (pc' := 61) dX6_text_58 fl_6_12 (ly_0) (l84_0) rfl rfl ?_
        refine J_getR (pc' := 64) dX6_text_61 fl_6_136 (ly_1) (l84_1) rfl rfl ?_
        refine J_iload_n (pc' := 65) dX6_text_64 rfl rfl ?_
        refine J_aald 1 (pc' := 66) dX6_text_65 (ly_9) (Or.inr (Or.inr rfl)) (l84_9) rfl rfl (by decide) (by decide) rfl ?_
        refine J_aload_n (pc' := 67) dX6_text_66 rfl rfl ?_
        refine J_getR (pc' := 70) dX6_text_67 fl_6_31 (ly_0) (l84_0) rfl rfl ?_
        refine J_getR (pc' := 73) dX6_text_70 fl_6_150 (ly_46) (l84_46) rfl rfl ?_
        refine J_aload_n (pc' := 74) dX6_text_73 rfl rfl ?_
        refine J_getR (pc' := 77) dX6_text_74 fl_6_31 (ly_0) (l84_0) rfl rfl ?_
        refine J_getI (pc' := 80) dX6_text_77 fl_6_153 (ly_46) (l84_46) rfl rfl ?_
        refine J_V2w (pc' := 83) dX6_text_80 lk_6_156 cd_X4_copy (k_tcopy jt13 ly_47 (by decide)) (ly_13) (l84_13) rfl rfl (jroom_of rfl) (Nat.le_of_ble_eq_true rfl) rfl (fun w80 hw80 => ?_)
        refine J_iconst (v := 1) (pc' := 84) dX6_text_83 (by decide) rfl ?_
        have hC : (pAll (w.1 7) (nn (abX w 1 6 6)) 1 (w.1 47)).1 = true ∧ (pAll (w.1 7) (nn (abX w 1 6 6)) 1 (w.1 47)).2.1 = nn (abX w 1 6 6) := by
          by_cases q : (pAll (w.1 7) (nn (abX w 1 6 6)) 1 (w.1 47)).1 = true ∧ (pAll (w.1 7) (nn (abX w 1 6 6)) 1 (w.1 47)).2.1 = nn (abX w 1 6 6)
          · exact q
          · rw [if_neg q] at h_49; exact absurd (by first | exact h_49 | exact Decidable.not_not.mp h_49) (nI_pos (by have := hk.1; omega))
        have hC2 : (sRead (abX w 1) 1).1 = true ∧ (sRead (abX w 1) 1).2.1 = nn (abX w 1 6 6) := by rw [← hE.1, ← hE.2.1]; exact hC
        obtain ⟨c1, c2, c3, c4, c5⟩ := hw80
        have o : ∀ a, a ≠ 1 → a ≠ 46 → a ≠ 47 → a ≠ 13 → a ≠ 14 → w80.1 a = w.1 a := fun a q1 q2 q3 q4 q5 => by rw [c1 a q5 q4, jset_off q1]; exact rP_off q2 q3
        have o1 : ∀ k, k ≠ 15 → w80.1 1 k = w.1 1 k := fun k q => by rw [c1 1 (by omega) (by omega), jset_1, if_pos rfl, if_neg q]; exact congrFun (rP_off (by omega) (by omega)) k
        have ot : ∀ k, k ≠ 5 → w80.1 13 k = w.1 13 k := fun k q => by rw [c3 k q, jset_off (by omega)]; exact congrFun (rP_off (by omega) (by omega)) k
        have hA : abX w80 1 = sTxt (abX w 1) 1 (sRead (abX w 1) 1).2.2.2 (sRead (abX w 1) 1).2.2.1 := abX_txt1 (w := w) (st := (pAll (w.1 7) (nn (abX w 1 6 6)) 1 (w.1 47)).2.2.2) (by rw [← hE.2.2.1]; exact hk.2) (fun a q1 q2 q3 q4 => o a (by omega) (by omega) (by omega) q3 q4) o1 (by rw [c1 1 (by omega) (by omega), jset_1, if_pos rfl, if_pos rfl]) (fun j hj => (c2 j hj).trans rfl) (by rw [c4, ← hE.2.2.1]; rfl) (fun j hj => hE.2.2.2 j (by rw [hE.2.2.1]; exact hj))
        have hB := bq_read (v := w80) hX (fun a q1 q2 q3 => o a (by omega) q2 q3 (by omega) (by omega)) (o 0 (by omega) (by omega) (by omega) (by omega) (by omega)) (c5.trans rfl) hA ⟨by obtain ⟨S, h1, h2⟩ := hX.1.1; exact ⟨S, h1, (o1 9 (by omega)).trans h2⟩, (congrFun (o 10 (by omega) (by omega) (by omega) (by omega) (by omega)) 1).trans hX.1.2.1, (congrFun (o 10 (by omega) (by omega) (by omega) (by omega) (by omega)) 2).trans hX.1.2.2.1, (ot 1 (by omega)).trans hX.1.2.2.2.1, (ot 2 (by omega)).trans hX.1.2.2.2.2⟩
        exact J_iret dX6_text_84  (by unfold sq_text; rw [if_pos (show 0 ≤ nI 1 ∧ nI 1 ≤ 1 from jb_n h_4), nn_nI (by omega), if_pos hC2]; dsimp only; exact ⟨rfl, hB⟩)
      · refine J_bipush (v := (-10)) (pc' := 54) dX6_text_52 (by decide) rfl ?_
        refine J_iload_n (pc' := 55) dX6_text_54 rfl rfl ?_
        refine J_isub (pc' := 56) dX6_text_55 rfl ?_
        have hC : ¬ ((pAll (w.1 7) (nn (abX w 1 6 6)) 1 (w.1 47)).1 = true ∧ (pAll (w.1 7) (nn (abX w 1 6 6)) 1 (w.1 47)).2.1 = nn (abX w 1 6 6)) := fun q => by rw [if_pos q] at h_49; exact h_49 (by decide)
        have hC2 : ¬ ((sRead (abX w 1) 1).1 = true ∧ (sRead (abX w 1) 1).2.1 = nn (abX w 1 6 6)) := by rw [← hE.1, ← hE.2.1]; exact hC
        have hB := bq_read (v := (jset (rPut (rW0 w (nn (abX w 1 6 6)) 1) (pAll (w.1 7) (nn (abX w 1 6 6)) 1 (w.1 47)).2) 1 15 0)) hX (fun a q1 q2 q3 => by rw [jset_off (by omega)]; exact rP_off q2 q3) (by rw [jset_off (by omega)]; exact rP_off (by omega) (by omega)) rfl (abX_fed0 (w := w) (fun a q1 q2 => by rw [jset_off (by omega)]; exact rP_off (by omega) (by omega)) (fun k q => by rw [jset_1, if_pos rfl, if_neg q]; exact congrFun (rP_off (by omega) (by omega)) k) (by rw [jset_1, if_pos rfl, if_pos rfl])) (xB_set (xB_congr (fun a q1 q2 => rP_off (by omega) (by omega)) hX.1) (by omega) (by omega) (by omega))
        exact J_iret dX6_text_56  (by unfold sq_text; rw [if_pos (show 0 ≤ nI 1 ∧ nI 1 ≤ 1 from jb_n h_4), nn_nI (by omega), if_neg hC2]; dsimp only; exact ⟨by rw [if_neg hC, hE.2.1], hB⟩)
  · refine J_aload_n (pc' := 8) dX6_text_7 rfl rfl ?_
    refine J_iconst (v := 1) (pc' := 9) dX6_text_8 (by decide) rfl ?_
    refine J_V1v (pc' := 12) dX6_text_9 lk_6_69 cd_X6_error (k_err1) (ly_0) (l84_0) rfl rfl (jroom_of rfl) (Nat.le_of_ble_eq_true rfl) rfl ?_
    exact J_iret dX6_text_12  (by unfold sq_text; rw [if_neg (fun q => by first | exact jb_0.mp h_4 q)]; exact ⟨rfl, bq_err hX (by decide)⟩)
