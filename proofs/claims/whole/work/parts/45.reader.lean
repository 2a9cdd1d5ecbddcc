/-! ===== the reader ===== -/
/-- the reader's state: at, how many are written, the steps -/
abbrev rS : Type := Nat × Nat × (Nat → Int32)
def rOk (z : rS) : Prop := z.1 ≤ 60 ∧ z.2.1 ≤ 60
def rPut (w : jWd) (z : rS) : jWd := (fun c => if c = 47 then z.2.2 else if c = 46 then (fun j => if j = 4 then nI z.1 else if j = 2 then nI z.2.1 else w.1 46 j) else w.1 c, w.2)
def rH (w : jWd) (f : Nat) : Prop := w.1 46 3 = nI f ∧ f ≤ 60 ∧ (∀ k, k < 60 → 0 ≤ (w.1 7 k).toInt ∧ (w.1 7 k).toInt ≤ 255) ∧ (w.1 46 5).toNatClampNeg < 2
def pNx (tp : Nat → Int32) (f a : Nat) : Int32 := if a < f then tp a else -1
def pAd (z : rS) : rS := (z.1 + 1, z.2)
def pWr (s : Int32) (z : rS) : rS := if z.2.1 < 60 then (z.1, z.2.1 + 1, upd z.2.2 z.2.1 s) else z
def pLoop (tp : Nat → Int32) (f : Nat) (isS : Int32 → Bool) (sub : rS → Bool × rS) : Nat → Bool × rS → Bool × rS
  | 0, r => r
  | n + 1, r => if r.1 = true ∧ isS (pNx tp f r.2.1) = true then pLoop tp f isS sub n ((sub (pAd r.2)).1, pWr (-(pNx tp f r.2.1)) (sub (pAd r.2)).2) else r
def pIm (s : Int32) : Bool := decide (s = 42 ∨ s = 47 ∨ s = 37)
def pIa (s : Int32) : Bool := decide (s = 43 ∨ s = 45)
def pIc (s : Int32) : Bool := decide (s = 60 ∨ s = 61 ∨ s = 62)
def pIn (s : Int32) : Bool := decide (s = 38)
def pIo (s : Int32) : Bool := decide (s = 124)
def pMul (tp : Nat → Int32) (f : Nat) (part : rS → Bool × rS) (z : rS) : Bool × rS := pLoop tp f pIm part 60 (part z)
def pAdd (tp : Nat → Int32) (f : Nat) (part : rS → Bool × rS) (z : rS) : Bool × rS := pLoop tp f pIa (pMul tp f part) 60 (pMul tp f part z)
def pCmp (tp : Nat → Int32) (f : Nat) (part : rS → Bool × rS) (z : rS) : Bool × rS :=
  if (pAdd tp f part z).1 = true ∧ pIc (pNx tp f (pAdd tp f part z).2.1) = true then
    ((pAdd tp f part (pAd (pAdd tp f part z).2)).1, pWr (-(pNx tp f (pAdd tp f part z).2.1)) (pAdd tp f part (pAd (pAdd tp f part z).2)).2)
  else pAdd tp f part z
def pAnd (tp : Nat → Int32) (f : Nat) (part : rS → Bool × rS) (z : rS) : Bool × rS := pLoop tp f pIn (pCmp tp f part) 60 (pCmp tp f part z)
def pOr (tp : Nat → Int32) (f : Nat) (part : rS → Bool × rS) (z : rS) : Bool × rS := pLoop tp f pIo (pAnd tp f part) 60 (pAnd tp f part z)
def pOpn (tp : Nat → Int32) (f : Nat) (part : rS → Bool × rS) (c : Int32) (z : rS) : Bool × rS :=
  if c = 33 then ((part (pAd z)).1, pWr (-33) (part (pAd z)).2)
  else if (pOr tp f part (pAd z)).1 = true ∧ pNx tp f (pOr tp f part (pAd z)).2.1 = 41 then (true, pAd (pOr tp f part (pAd z)).2) else (false, (pOr tp f part (pAd z)).2)
def pNum (tp : Nat → Int32) (f : Nat) : Nat → Int32 → rS → Int32 × rS
  | 0, v, z => (v, z)
  | n + 1, v, z => if 48 ≤ pNx tp f z.1 ∧ pNx tp f z.1 ≤ 57 then pNum tp f n (10 * v + pNx tp f z.1 - 48) (pAd z) else (v, z)
def pNmd (i : Nat) (c : Int32) (z : rS) : Bool × rS := if c < 0 ∨ sIx i c 3 0 < 0 then (false, z) else (true, pWr (-1 - sIx i c 3 0) (pAd z))
def pDig (tp : Nat → Int32) (f : Nat) (z : rS) : Bool × rS := (true, pWr (pNum tp f 4 0 z).1 (pNum tp f 4 0 z).2)
def pPt (tp : Nat → Int32) (f i : Nat) (op : Int32 → rS → Bool × rS) (z : rS) : Bool × rS :=
  if 48 ≤ pNx tp f z.1 ∧ pNx tp f z.1 ≤ 57 then pDig tp f z
  else if pNx tp f z.1 = 33 ∨ pNx tp f z.1 = 40 then op (pNx tp f z.1) z
  else pNmd i (pNx tp f z.1) z
def pPart (tp : Nat → Int32) (f i : Nat) : Nat → rS → Bool × rS
  | 0, z => pPt tp f i (fun _ z => (false, z)) z
  | n + 1, z => pPt tp f i (fun c z => pOpn tp f (pPart tp f i n) c z) z
/-! what they keep -/
theorem pNx_lt {tp : Nat → Int32} {f a : Nat} (h : ¬ pNx tp f a = -1) : a < f := by
  unfold pNx at h
  by_cases e : a < f
  · exact e
  · rw [if_neg e] at h; exact absurd rfl h
theorem pWr_ok {s : Int32} {z : rS} (h : rOk z) : rOk (pWr s z) := by
  unfold pWr
  split
  · exact ⟨h.1, by show z.2.1 + 1 ≤ 60; omega⟩
  · exact h
theorem pWr_at (s : Int32) (z : rS) : (pWr s z).1 = z.1 := by
  unfold pWr
  split <;> rfl
theorem pAd_ok {tp : Nat → Int32} {f : Nat} {z : rS} (hf : f ≤ 60) (h : rOk z) (hn : ¬ pNx tp f z.1 = -1) : rOk (pAd z) := by
  have := pNx_lt hn
  exact ⟨by show z.1 + 1 ≤ 60; omega, h.2⟩
def pKp (sp : rS → Bool × rS) : Prop := ∀ z, rOk z → rOk (sp z).2
def pSn (isS : Int32 → Bool) : Prop := ∀ s, isS s = true → ¬ s = -1
theorem pLoop_ok {tp : Nat → Int32} {f : Nat} (hf : f ≤ 60) {isS : Int32 → Bool} (hi : pSn isS) {sub : rS → Bool × rS} (hs : pKp sub) : ∀ (n : Nat) (r : Bool × rS), rOk r.2 → rOk (pLoop tp f isS sub n r).2
  | 0, _, h => h
  | n + 1, r, h => by
    rw [pLoop]
    by_cases hc : r.1 = true ∧ isS (pNx tp f r.2.1) = true
    · rw [if_pos hc]
      exact pLoop_ok hf hi hs n _ (pWr_ok (hs _ (pAd_ok hf h (hi _ hc.2))))
    · rw [if_neg hc]; exact h
theorem pIm_sn : pSn pIm := by
  intro s h e
  subst e
  exact absurd h (by decide)
theorem pIa_sn : pSn pIa := by
  intro s h e
  subst e
  exact absurd h (by decide)
theorem pIc_sn : pSn pIc := by
  intro s h e
  subst e
  exact absurd h (by decide)
theorem pIn_sn : pSn pIn := by
  intro s h e
  subst e
  exact absurd h (by decide)
theorem pIo_sn : pSn pIo := by
  intro s h e
  subst e
  exact absurd h (by decide)
theorem pMul_ok {tp : Nat → Int32} {f : Nat} (hf : f ≤ 60) {part : rS → Bool × rS} (hp : pKp part) : pKp (pMul tp f part) := fun z h => pLoop_ok hf pIm_sn hp 60 _ (hp z h)
theorem pAdd_ok {tp : Nat → Int32} {f : Nat} (hf : f ≤ 60) {part : rS → Bool × rS} (hp : pKp part) : pKp (pAdd tp f part) := fun z h => pLoop_ok hf pIa_sn (pMul_ok hf hp) 60 _ (pMul_ok hf hp z h)
theorem pCmp_ok {tp : Nat → Int32} {f : Nat} (hf : f ≤ 60) {part : rS → Bool × rS} (hp : pKp part) : pKp (pCmp tp f part) := fun z h => by
  have h1 := pAdd_ok (tp := tp) hf hp z h
  unfold pCmp
  by_cases hc : (pAdd tp f part z).1 = true ∧ pIc (pNx tp f (pAdd tp f part z).2.1) = true
  · rw [if_pos hc]
    exact pWr_ok (pAdd_ok hf hp _ (pAd_ok hf h1 (pIc_sn _ hc.2)))
  · rw [if_neg hc]; exact h1
theorem pAnd_ok {tp : Nat → Int32} {f : Nat} (hf : f ≤ 60) {part : rS → Bool × rS} (hp : pKp part) : pKp (pAnd tp f part) := fun z h => pLoop_ok hf pIn_sn (pCmp_ok hf hp) 60 _ (pCmp_ok hf hp z h)
theorem pOr_ok {tp : Nat → Int32} {f : Nat} (hf : f ≤ 60) {part : rS → Bool × rS} (hp : pKp part) : pKp (pOr tp f part) := fun z h => pLoop_ok hf pIo_sn (pAnd_ok hf hp) 60 _ (pAnd_ok hf hp z h)
theorem pOpn_ok {tp : Nat → Int32} {f : Nat} (hf : f ≤ 60) {part : rS → Bool × rS} (hp : pKp part) {c : Int32} {z : rS} (h : rOk (pAd z)) : rOk (pOpn tp f part c z).2 := by
  unfold pOpn
  by_cases h3 : c = 33
  · rw [if_pos h3]; exact pWr_ok (hp _ h)
  · rw [if_neg h3]
    have h1 := pOr_ok (tp := tp) hf hp _ h
    by_cases hc : (pOr tp f part (pAd z)).1 = true ∧ pNx tp f (pOr tp f part (pAd z)).2.1 = 41
    · rw [if_pos hc]
      exact pAd_ok hf h1 (by rw [hc.2]; decide)
    · rw [if_neg hc]; exact h1
theorem pNum_ok {tp : Nat → Int32} {f : Nat} (hf : f ≤ 60) : ∀ (n : Nat) (v : Int32) (z : rS), rOk z → rOk (pNum tp f n v z).2
  | 0, _, _, h => h
  | n + 1, v, z, h => by
    rw [pNum]
    by_cases hc : 48 ≤ pNx tp f z.1 ∧ pNx tp f z.1 ≤ 57
    · rw [if_pos hc]
      exact pNum_ok hf n _ _ (pAd_ok hf h (fun e => by rw [e] at hc; exact absurd hc.1 (by decide)))
    · rw [if_neg hc]; exact h
theorem pPt_ok {tp : Nat → Int32} {f i : Nat} (hf : f ≤ 60) {op : Int32 → rS → Bool × rS} {z : rS} (ho : ∀ c z, rOk z → rOk (pAd z) → rOk (op c z).2) (h : rOk z) : rOk (pPt tp f i op z).2 := by
  unfold pPt
  by_cases h1 : 48 ≤ pNx tp f z.1 ∧ pNx tp f z.1 ≤ 57
  · rw [if_pos h1]
    exact pWr_ok (pNum_ok hf 4 0 z h)
  · rw [if_neg h1]
    by_cases h2 : pNx tp f z.1 = 33 ∨ pNx tp f z.1 = 40
    · rw [if_pos h2]
      exact ho _ _ h (pAd_ok hf h (by rcases h2 with e | e <;> rw [e] <;> decide))
    · rw [if_neg h2]
      unfold pNmd
      by_cases h3 : pNx tp f z.1 < 0 ∨ sIx i (pNx tp f z.1) 3 0 < 0
      · rw [if_pos h3]; exact h
      · rw [if_neg h3]
        exact pWr_ok (pAd_ok hf h (fun e => h3 (Or.inl (by rw [e]; decide))))
theorem pPart_ok {tp : Nat → Int32} {f i : Nat} (hf : f ≤ 60) : ∀ n, pKp (pPart tp f i n)
  | 0 => fun _ h => pPt_ok hf (fun _ _ h _ => h) h
  | n + 1 => fun _ h => pPt_ok hf (fun _ _ _ h => pOpn_ok hf (pPart_ok hf n) h) h
/-! the worlds -/
theorem rPut_ad {w : jWd} {z : rS} : jset (rPut w z) 46 4 (nI z.1 + 1) = rPut w (pAd z) := by
  rw [nI_1]
  refine Prod.ext (funext fun c => funext fun j => ?_) rfl
  by_cases e : c = 46
  · subst e
    by_cases e1 : j = 4
    · subst e1; simp [rPut, jset, jsetA, upd, pAd]
    · simp [rPut, jset, jsetA, upd, pAd, e1]
  · simp [rPut, jset, jsetA, upd, pAd, e]
theorem rPut_wr {w : jWd} {z : rS} {s : Int32} (h : z.2.1 < 60) : jset (jset (rPut w z) 47 z.2.1 s) 46 2 (nI z.2.1 + 1) = rPut w (pWr s z) := by
  rw [nI_1]
  unfold pWr
  rw [if_pos h]
  refine Prod.ext (funext fun c => funext fun j => ?_) rfl
  by_cases e : c = 46
  · subst e
    by_cases e1 : j = 2
    · subst e1; simp [rPut, jset, jsetA, upd]
    · simp [rPut, jset, jsetA, upd, e1]
  · by_cases e8 : c = 47
    · subst e8; simp [rPut, jset, jsetA, upd]
    · simp [rPut, jset, jsetA, upd, e, e8]
set_option maxHeartbeats 4000000 in
set_option maxRecDepth 100000 in
theorem k_rNx {G : jG} {w : jWd} {f : Nat} (hH : rH w f) {z : rS} (hz : rOk z) : jKd G 0 yX2_next cX2_next 1 (some .int) [.ref 46] (rPut w z) (some (.int (pNx (w.1 7) f z.1))) (rPut w z) := by
  have hf := hH.2.1
  have hz1 := hz.1
  have hq : nI f ≤ nI z.1 ↔ f ≤ z.1 := nI_leI (by omega) (by omega)
  have hq2 : (60 : Int32) ≤ nI z.1 ↔ 60 ≤ z.1 := by rw [show (60 : Int32) = nI 60 from by decide]; exact nI_leI (by omega) (by omega)
  refine jK_of (own := RX2) [some (.ref 46)] pn2 rfl (Nat.le_of_ble_eq_true rfl) rfl ?_
  refine J_aload_n (pc' := 1) dX2_next_0 rfl rfl ?_
  refine J_getI (pc' := 4) dX2_next_1 fl_2_28 (ly_46) (l84_46) rfl rfl ?_
  refine J_aload_n (pc' := 5) dX2_next_4 rfl rfl ?_
  refine J_getI (pc' := 8) dX2_next_5 fl_2_24 (ly_46) (l84_46) rfl rfl ?_
  rw [show (rPut w z).1 46 4 = nI z.1 from rfl, show (rPut w z).1 46 3 = nI f from hH.1]
  refine J_icmp_ge 32 (pc' := 11) dX2_next_8 (by decide) rfl (fun h_8 => ?_) (fun h_8 => ?_)
  · refine J_iconst (v := -1) (pc' := 33) dX2_next_32 (by decide) rfl ?_
    first | exact J_iret dX2_next_33  (by rw [show pNx (w.1 7) f z.1 = -1 from if_neg (by have := hq.mp h_8; omega)]; exact ⟨rfl, rfl⟩) | exact absurd (hq2.mp h_17) (by have := mt hq.mpr h_8; omega) | exact J_iret dX2_next_33  (by rw [show pNx (w.1 7) f z.1 = w.1 7 z.1 from if_pos (by have := mt hq.mpr h_8; omega)]; exact ⟨rfl, rfl⟩)
  · refine J_aload_n (pc' := 12) dX2_next_11 rfl rfl ?_
    refine J_getI (pc' := 15) dX2_next_12 fl_2_28 (ly_46) (l84_46) rfl rfl ?_
    rw [show (rPut w z).1 46 4 = nI z.1 from rfl]
    refine J_bipush (v := 60) (pc' := 17) dX2_next_15 (by decide) rfl ?_
    refine J_icmp_ge 32 (pc' := 20) dX2_next_17 (by decide) rfl (fun h_17 => ?_) (fun h_17 => ?_)
    · refine J_iconst (v := -1) (pc' := 33) dX2_next_32 (by decide) rfl ?_
      first | exact J_iret dX2_next_33  (by rw [show pNx (w.1 7) f z.1 = -1 from if_neg (by have := hq.mp h_8; omega)]; exact ⟨rfl, rfl⟩) | exact absurd (hq2.mp h_17) (by have := mt hq.mpr h_8; omega) | exact J_iret dX2_next_33  (by rw [show pNx (w.1 7) f z.1 = w.1 7 z.1 from if_pos (by have := mt hq.mpr h_8; omega)]; exact ⟨rfl, rfl⟩)
    · refine J_aload_n (pc' := 21) dX2_next_20 rfl rfl ?_
      refine J_getR (pc' := 24) dX2_next_21 fl_2_21 (ly_46) (l84_46) rfl rfl ?_
      refine J_aload_n (pc' := 25) dX2_next_24 rfl rfl ?_
      refine J_getI (pc' := 28) dX2_next_25 fl_2_28 (ly_46) (l84_46) rfl rfl ?_
      refine J_iald (z.1) (pc' := 29) dX2_next_28 (ly_7) (l84_7) rfl (by have := mt hq2.mpr h_17; omega) (by decide) rfl ?_
      refine J_goto (pc' := 0) 33 dX2_next_29 (by decide) ?_
      first | exact J_iret dX2_next_33  (by rw [show pNx (w.1 7) f z.1 = -1 from if_neg (by have := hq.mp h_8; omega)]; exact ⟨rfl, rfl⟩) | exact absurd (hq2.mp h_17) (by have := mt hq.mpr h_8; omega) | exact J_iret dX2_next_33  (by rw [show pNx (w.1 7) f z.1 = w.1 7 z.1 from if_pos (by have := mt hq.mpr h_8; omega)]; exact ⟨rfl, rfl⟩)
set_option maxHeartbeats 4000000 in
set_option maxRecDepth 100000 in
theorem k_rWr {G : jG} {w : jWd} {s : Int32} {z : rS} (hz : rOk z) : jKd G 0 yX2_write cX2_write 2 none [.ref 46, .int s] (rPut w z) none (rPut w (pWr s z)) := by
  have hz2 := hz.2
  have hq2 : (60 : Int32) ≤ nI z.2.1 ↔ 60 ≤ z.2.1 := by rw [show (60 : Int32) = nI 60 from by decide]; exact nI_leI (by omega) (by omega)
  refine jK_of (own := RX2) [some (.ref 46), some (.int s)] pn2 rfl (Nat.le_of_ble_eq_true rfl) rfl ?_
  refine J_aload_n (pc' := 1) dX2_write_0 rfl rfl ?_
  refine J_getI (pc' := 4) dX2_write_1 fl_2_31 (ly_46) (l84_46) rfl rfl ?_
  rw [show (rPut w z).1 46 2 = nI z.2.1 from rfl]
  refine J_bipush (v := 60) (pc' := 6) dX2_write_4 (by decide) rfl ?_
  refine J_icmp_ge 29 (pc' := 9) dX2_write_6 (by decide) rfl (fun h_6 => ?_) (fun h_6 => ?_)
  · first | exact J_vret dX2_write_29  ⟨rfl, by rw [rPut_wr (by have := mt hq2.mpr h_6; omega)]⟩ | exact J_vret dX2_write_29  ⟨rfl, by rw [show pWr s z = z from if_neg (by have := hq2.mp h_6; omega)]⟩
  · refine J_aload_n (pc' := 10) dX2_write_9 rfl rfl ?_
    refine J_getR (pc' := 13) dX2_write_10 fl_2_9 (ly_46) (l84_46) rfl rfl ?_
    refine J_aload_n (pc' := 14) dX2_write_13 rfl rfl ?_
    refine J_getI (pc' := 17) dX2_write_14 fl_2_31 (ly_46) (l84_46) rfl rfl ?_
    refine J_iload_n (pc' := 18) dX2_write_17 rfl rfl ?_
    refine J_iast (z.2.1) (pc' := 19) dX2_write_18 (ly_47) (l84_47) rfl (by have := mt hq2.mpr h_6; omega) (by decide) rfl ?_
    refine J_aload_n (pc' := 20) dX2_write_19 rfl rfl ?_
    refine J_dup (pc' := 21) dX2_write_20 rfl rfl ?_
    refine J_getI (pc' := 24) dX2_write_21 fl_2_31 (ly_46) (l84_46) rfl rfl ?_
    rw [show (jset (rPut w z) 47 z.2.1 s).1 46 2 = nI z.2.1 from rfl]
    refine J_iconst (v := 1) (pc' := 25) dX2_write_24 (by decide) rfl ?_
    refine J_iadd (pc' := 26) dX2_write_25 rfl ?_
    refine J_putI (pc' := 29) dX2_write_26 fp_2_31 (ly_46) (l84_46) rfl rfl ?_
    first | exact J_vret dX2_write_29  ⟨rfl, by rw [rPut_wr (by have := mt hq2.mpr h_6; omega)]⟩ | exact J_vret dX2_write_29  ⟨rfl, by rw [show pWr s z = z from if_neg (by have := hq2.mp h_6; omega)]⟩
set_option maxHeartbeats 4000000 in
set_option maxRecDepth 100000 in
theorem k_rIp {G : jG} {w : jWd} {x : Int32} : jKd G 0 yX2_isProductSign cX2_isProductSign 1 (some .boolean) [.int x] w (some (.int (jb (pIm x = true)))) w := by
  refine jK_of (own := RX2) [some (.int x)] pn2 rfl (Nat.le_of_ble_eq_true rfl) rfl ?_
  refine J_iload_n (pc' := 1) dX2_isProductSign_0 rfl rfl ?_
  refine J_bipush (v := 42) (pc' := 3) dX2_isProductSign_1 (by decide) rfl ?_
  refine J_icmp_eq 18 (pc' := 6) dX2_isProductSign_3 (by decide) rfl (fun h_3 => ?_) (fun h_3 => ?_)
  · refine J_iconst (v := 1) (pc' := 19) dX2_isProductSign_18 (by decide) rfl ?_
    refine J_goto (pc' := 0) 23 dX2_isProductSign_19 (by decide) ?_
    first | exact J_zret dX2_isProductSign_23 (Or.inr rfl) ⟨by rw [jb_t (show pIm x = true from decide_eq_true (by first | exact Or.inl h_3 | exact Or.inr (Or.inl h_9) | exact Or.inr (Or.inr (by first | exact h_15 | exact Decidable.not_not.mp h_15))))], rfl⟩ | exact J_zret dX2_isProductSign_23 (Or.inr rfl) ⟨by rw [jb_f (fun q => by rcases of_decide_eq_true q with e | e | e <;> contradiction)], rfl⟩
  · refine J_iload_n (pc' := 7) dX2_isProductSign_6 rfl rfl ?_
    refine J_bipush (v := 47) (pc' := 9) dX2_isProductSign_7 (by decide) rfl ?_
    refine J_icmp_eq 18 (pc' := 12) dX2_isProductSign_9 (by decide) rfl (fun h_9 => ?_) (fun h_9 => ?_)
    · refine J_iconst (v := 1) (pc' := 19) dX2_isProductSign_18 (by decide) rfl ?_
      refine J_goto (pc' := 0) 23 dX2_isProductSign_19 (by decide) ?_
      first | exact J_zret dX2_isProductSign_23 (Or.inr rfl) ⟨by rw [jb_t (show pIm x = true from decide_eq_true (by first | exact Or.inl h_3 | exact Or.inr (Or.inl h_9) | exact Or.inr (Or.inr (by first | exact h_15 | exact Decidable.not_not.mp h_15))))], rfl⟩ | exact J_zret dX2_isProductSign_23 (Or.inr rfl) ⟨by rw [jb_f (fun q => by rcases of_decide_eq_true q with e | e | e <;> contradiction)], rfl⟩
    · refine J_iload_n (pc' := 13) dX2_isProductSign_12 rfl rfl ?_
      refine J_bipush (v := 37) (pc' := 15) dX2_isProductSign_13 (by decide) rfl ?_
      refine J_icmp_ne 22 (pc' := 18) dX2_isProductSign_15 (by decide) rfl (fun h_15 => ?_) (fun h_15 => ?_)
      · refine J_iconst (v := 0) (pc' := 23) dX2_isProductSign_22 (by decide) rfl ?_
        first | exact J_zret dX2_isProductSign_23 (Or.inl rfl) ⟨by rw [jb_t (show pIm x = true from decide_eq_true (by first | exact Or.inl h_3 | exact Or.inr (Or.inl h_9) | exact Or.inr (Or.inr (by first | exact h_15 | exact Decidable.not_not.mp h_15))))], rfl⟩ | exact J_zret dX2_isProductSign_23 (Or.inl rfl) ⟨by rw [jb_f (fun q => by rcases of_decide_eq_true q with e | e | e <;> contradiction)], rfl⟩
      · refine J_iconst (v := 1) (pc' := 19) dX2_isProductSign_18 (by decide) rfl ?_
        refine J_goto (pc' := 0) 23 dX2_isProductSign_19 (by decide) ?_
        first | exact J_zret dX2_isProductSign_23 (Or.inr rfl) ⟨by rw [jb_t (show pIm x = true from decide_eq_true (by first | exact Or.inl h_3 | exact Or.inr (Or.inl h_9) | exact Or.inr (Or.inr (by first | exact h_15 | exact Decidable.not_not.mp h_15))))], rfl⟩ | exact J_zret dX2_isProductSign_23 (Or.inr rfl) ⟨by rw [jb_f (fun q => by rcases of_decide_eq_true q with e | e | e <;> contradiction)], rfl⟩
set_option maxHeartbeats 4000000 in
set_option maxRecDepth 100000 in
theorem l_num {G : jG} {w : jWd} {f : Nat} (hH : rH w f) : ∀ n j : Nat, j + n = 4 → ∀ (v : Int32) (z : rS) (_ : rOk z), J G (jM G 1 RX2 cX2_readNumber 3 (some .boolean) ((fun r' w' => r' = some (.int 1) ∧ w' = rPut w (pWr (pNum (w.1 7) f n v z).1 (pNum (w.1 7) f n v z).2)))) (rPut w z) 4 [some (.ref 46), some (.int v), some (.int (nI j))] [] := by
  intro n
  induction n with
  | zero =>
    intro j hj v z hz
    refine J_iload_n (pc' := 5) dX2_readNumber_4 rfl rfl ?_
    refine J_iconst (v := 4) (pc' := 6) dX2_readNumber_5 (by decide) rfl ?_
    refine J_icmp_ge 52 (pc' := 9) dX2_readNumber_6 (by decide) rfl (fun h_6 => ?_) (fun h_6 => absurd (by rw [show (4 : Int32) = nI 4 from by decide]; exact nI_le (by omega) (by omega)) h_6)
    refine J_aload_n (pc' := 53) dX2_readNumber_52 rfl rfl ?_
    refine J_iload_n (pc' := 54) dX2_readNumber_53 rfl rfl ?_
    refine J_V10 (pc' := 57) dX2_readNumber_54 lk_2_45 cd_X2_write (k_rWr hz) (ly_46) (l84_46) rfl rfl (jroom_of rfl) (Nat.le_of_ble_eq_true rfl) rfl ?_
    refine J_iconst (v := 1) (pc' := 58) dX2_readNumber_57 (by decide) rfl ?_
    exact J_zret dX2_readNumber_58 (Or.inr rfl) ⟨rfl, rfl⟩
  | succ n ih =>
    intro j hj v z hz
    refine J_iload_n (pc' := 5) dX2_readNumber_4 rfl rfl ?_
    refine J_iconst (v := 4) (pc' := 6) dX2_readNumber_5 (by decide) rfl ?_
    refine J_icmp_ge 52 (pc' := 9) dX2_readNumber_6 (by decide) rfl (fun h_6 => absurd h_6 (by rw [show (4 : Int32) = nI 4 from by decide]; exact nI_ge (by omega) (by omega))) (fun h_6 => ?_)
    refine J_aload_n (pc' := 10) dX2_readNumber_9 rfl rfl ?_
    refine J_V0v (pc' := 13) dX2_readNumber_10 lk_2_41 cd_X2_next (k_rNx hH hz) (ly_46) (l84_46) rfl rfl (jroom_of rfl) (Nat.le_of_ble_eq_true rfl) rfl ?_
    refine J_bipush (v := 48) (pc' := 15) dX2_readNumber_13 (by decide) rfl ?_
    refine J_bipush (v := 57) (pc' := 17) dX2_readNumber_15 (by decide) rfl ?_
    refine J_S3v (pc' := 20) dX2_readNumber_17 lk_2_64 cd_X6_isWithin (k_X6_isWithin) (jroom_of rfl) (Nat.le_of_ble_eq_true rfl) rfl ?_
    refine J_if_eq 52 (pc' := 23) dX2_readNumber_20 (by decide) rfl (fun h_20 => ?_) (fun h_20 => ?_)
    · refine J_aload_n (pc' := 53) dX2_readNumber_52 rfl rfl ?_
      refine J_iload_n (pc' := 54) dX2_readNumber_53 rfl rfl ?_
      refine J_V10 (pc' := 57) dX2_readNumber_54 lk_2_45 cd_X2_write (k_rWr hz) (ly_46) (l84_46) rfl rfl (jroom_of rfl) (Nat.le_of_ble_eq_true rfl) rfl ?_
      refine J_iconst (v := 1) (pc' := 58) dX2_readNumber_57 (by decide) rfl ?_
      exact J_zret dX2_readNumber_58 (Or.inr rfl) (by first | exact ⟨rfl, rfl⟩ | (rw [show pNum (w.1 7) f (n + 1) v z = (v, z) from if_neg (jb_0.mp (by first | exact h_20 | exact Decidable.not_not.mp h_20))]; exact ⟨rfl, rfl⟩))
    · refine J_bipush (v := 10) (pc' := 25) dX2_readNumber_23 (by decide) rfl ?_
      refine J_iload_n (pc' := 26) dX2_readNumber_25 rfl rfl ?_
      refine J_imul (pc' := 27) dX2_readNumber_26 rfl ?_
      refine J_aload_n (pc' := 28) dX2_readNumber_27 rfl rfl ?_
      refine J_V0v (pc' := 31) dX2_readNumber_28 lk_2_41 cd_X2_next (k_rNx hH hz) (ly_46) (l84_46) rfl rfl (jroom_of rfl) (Nat.le_of_ble_eq_true rfl) rfl ?_
      refine J_iadd (pc' := 32) dX2_readNumber_31 rfl ?_
      refine J_bipush (v := 48) (pc' := 34) dX2_readNumber_32 (by decide) rfl ?_
      refine J_isub (pc' := 35) dX2_readNumber_34 rfl ?_
      refine J_istore_n (pc' := 36) dX2_readNumber_35 (Nat.le_of_ble_eq_true rfl) (jst1 rfl rfl) rfl ?_
      refine J_aload_n (pc' := 37) dX2_readNumber_36 rfl rfl ?_
      refine J_dup (pc' := 38) dX2_readNumber_37 rfl rfl ?_
      refine J_getI (pc' := 41) dX2_readNumber_38 fl_2_28 (ly_46) (l84_46) rfl rfl ?_
      rw [show (rPut w z).1 46 4 = nI z.1 from rfl]
      refine J_iconst (v := 1) (pc' := 42) dX2_readNumber_41 (by decide) rfl ?_
      refine J_iadd (pc' := 43) dX2_readNumber_42 rfl ?_
      refine J_putI (pc' := 46) dX2_readNumber_43 fp_2_28 (ly_46) (l84_46) rfl rfl ?_
      rw [rPut_ad]
      refine J_iinc (pc' := 49) dX2_readNumber_46 rfl (Nat.le_of_ble_eq_true rfl) (jst2 rfl rfl) rfl ?_
      refine J_goto (pc' := 0) 4 dX2_readNumber_49 (by decide) ?_
      have hC := jb_n h_20
      have h2 := ih (j + 1) (by omega) (10 * v + pNx (w.1 7) f z.1 - 48) (pAd z) (pAd_ok hH.2.1 hz (fun e => by rw [e] at hC; exact absurd hC.1 (by decide)))
      rw [show pNum (w.1 7) f (n + 1) v z = pNum (w.1 7) f n (10 * v + pNx (w.1 7) f z.1 - 48) (pAd z) from if_pos hC]
      rw [← z1 j] at h2
      exact h2
set_option maxHeartbeats 4000000 in
set_option maxRecDepth 100000 in
theorem k_rNum {G : jG} {w : jWd} {f : Nat} (hH : rH w f) {z : rS} (hz : rOk z) : jKd G 1 yX2_readNumber cX2_readNumber 3 (some .boolean) [.ref 46] (rPut w z) (some (.int 1)) (rPut w (pDig (w.1 7) f z).2) := by
  refine jK_of (own := RX2) [some (.ref 46), none, none] pn2 rfl (Nat.le_of_ble_eq_true rfl) rfl ?_
  refine J_iconst (v := 0) (pc' := 1) dX2_readNumber_0 (by decide) rfl ?_
  refine J_istore_n (pc' := 2) dX2_readNumber_1 (Nat.le_of_ble_eq_true rfl) (jst1 rfl rfl) rfl ?_
  refine J_iconst (v := 0) (pc' := 3) dX2_readNumber_2 (by decide) rfl ?_
  refine J_istore_n (pc' := 4) dX2_readNumber_3 (Nat.le_of_ble_eq_true rfl) (jst2 rfl rfl) rfl ?_
  exact l_num hH 4 0 rfl 0 z hz
