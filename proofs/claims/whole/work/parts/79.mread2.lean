/-! ===== the reference reads, more ===== -/
/-! ===== the reference reads, more ===== -/
def pMo (sub : rS → Bool × rS) : Prop := ∀ z, z.1 ≤ (sub z).2.1
theorem pLoop_mo {tp : Nat → Int32} {f : Nat} {isS : Int32 → Bool} {sub : rS → Bool × rS} (hs : pMo sub) : ∀ (n : Nat) (r : Bool × rS), r.2.1 ≤ (pLoop tp f isS sub n r).2.1
  | 0, _ => Nat.le_refl _
  | n + 1, r => by
    rw [pLoop]
    by_cases hc : r.1 = true ∧ isS (pNx tp f r.2.1) = true
    · rw [if_pos hc]
      have h1 := pLoop_mo (tp := tp) (f := f) (isS := isS) hs n ((sub (pAd r.2)).1, pWr (-(pNx tp f r.2.1)) (sub (pAd r.2)).2)
      have h2 := hs (pAd r.2)
      have h3 : (pWr (-(pNx tp f r.2.1)) (sub (pAd r.2)).2).1 = (sub (pAd r.2)).2.1 := pWr_at _ _
      have h4 : (pAd r.2).1 = r.2.1 + 1 := rfl
      have h1 : (pWr (-(pNx tp f r.2.1)) (sub (pAd r.2)).2).1 ≤ _ := h1
      omega
    · rw [if_neg hc]; exact Nat.le_refl _
theorem pMul_mo {tp : Nat → Int32} {f : Nat} {part : rS → Bool × rS} (hp : pMo part) : pMo (pMul tp f part) := fun z => Nat.le_trans (hp z) (pLoop_mo hp 60 _)
theorem pAdd_mo {tp : Nat → Int32} {f : Nat} {part : rS → Bool × rS} (hp : pMo part) : pMo (pAdd tp f part) := fun z => Nat.le_trans (pMul_mo hp z) (pLoop_mo (pMul_mo hp) 60 _)
theorem pCmp_mo {tp : Nat → Int32} {f : Nat} {part : rS → Bool × rS} (hp : pMo part) : pMo (pCmp tp f part) := fun z => by
  have h1 := pAdd_mo (tp := tp) (f := f) hp z
  unfold pCmp
  by_cases hc : (pAdd tp f part z).1 = true ∧ pIc (pNx tp f (pAdd tp f part z).2.1) = true
  · rw [if_pos hc]
    have h2 := pAdd_mo (tp := tp) (f := f) hp (pAd (pAdd tp f part z).2)
    have h3 : (pAd (pAdd tp f part z).2).1 = (pAdd tp f part z).2.1 + 1 := rfl
    show z.1 ≤ (pWr _ _).1
    rw [pWr_at]
    omega
  · rw [if_neg hc]; exact h1
theorem pAnd_mo {tp : Nat → Int32} {f : Nat} {part : rS → Bool × rS} (hp : pMo part) : pMo (pAnd tp f part) := fun z => Nat.le_trans (pCmp_mo hp z) (pLoop_mo (pCmp_mo hp) 60 _)
theorem pOr_mo {tp : Nat → Int32} {f : Nat} {part : rS → Bool × rS} (hp : pMo part) : pMo (pOr tp f part) := fun z => Nat.le_trans (pAnd_mo hp z) (pLoop_mo (pAnd_mo hp) 60 _)
theorem pNum_mo {tp : Nat → Int32} {f : Nat} : ∀ (n : Nat) (v : Int32) (z : rS), z.1 ≤ (pNum tp f n v z).2.1
  | 0, _, _ => Nat.le_refl _
  | n + 1, v, z => by
    rw [pNum]
    split
    · exact Nat.le_trans (Nat.le_succ _) (pNum_mo n _ (pAd z))
    · exact Nat.le_refl _
theorem pOpn_mo {tp : Nat → Int32} {f : Nat} {part : rS → Bool × rS} (hp : pMo part) (c : Int32) : pMo (pOpn tp f part c) := fun z => by
  unfold pOpn
  by_cases h3 : c = 33
  · rw [if_pos h3]
    show z.1 ≤ (pWr _ _).1
    rw [pWr_at]
    exact Nat.le_trans (Nat.le_succ _) (hp (pAd z))
  · rw [if_neg h3]
    have h1 := pOr_mo (tp := tp) (f := f) hp (pAd z)
    have h2 : (pAd z).1 = z.1 + 1 := rfl
    split
    · show z.1 ≤ (pOr tp f part (pAd z)).2.1 + 1; omega
    · show z.1 ≤ (pOr tp f part (pAd z)).2.1; omega
theorem pPt_mo {tp : Nat → Int32} {f i : Nat} {op : Int32 → rS → Bool × rS} (ho : ∀ c, pMo (op c)) : pMo (pPt tp f i op) := fun z => by
  unfold pPt
  split
  · show z.1 ≤ (pWr _ _).1; rw [pWr_at]; exact pNum_mo 4 0 z
  · split
    · exact ho _ z
    · unfold pNmd
      split
      · exact Nat.le_refl _
      · show z.1 ≤ (pWr _ _).1; rw [pWr_at]; exact Nat.le_succ _
theorem pPart_mo {tp : Nat → Int32} {f i : Nat} : ∀ n, pMo (pPart tp f i n)
  | 0 => pPt_mo (fun _ _ => Nat.le_refl _)
  | n + 1 => pPt_mo (fun c => pOpn_mo (pPart_mo n) c)
theorem sEnc_sg {s : Int32} (h : sSign (-s)) : sEnc s 0 = -s := by
  rcases sSg_pos h with e | e | e | e | e | e | e | e | e | e <;> rw [e] <;> decide
theorem mRes.ff {w0 w : jWd} {o : Nat} {z z2 : rS} (h : mRes w0 w o (false, z)) (e : z.1 = z2.1) : mRes w0 w o (false, z2) := ⟨h.1, h.2.1, by have := h.2.2.1; rw [show ((false, z2) : Bool × rS).2.1 = ((false, z) : Bool × rS).2.1 from e.symm]; exact this, by have := h.2.2.2.1; rw [show ((false, z2) : Bool × rS).2.1 = ((false, z) : Bool × rS).2.1 from e.symm]; exact this, h.2.2.2.2.1, h.2.2.2.2.2.1, fun q => Bool.noConfusion q⟩
theorem mRes.sm {w0 w : jWd} {o : Nat} {r : Bool × rS} (h : mRes w0 w o r) : mRes w0 (jset w 68 17 (nI r.2.1 + 0)) o r := by
  have e : jset w 68 17 (nI r.2.1 + 0) = w := by
    rw [Int32.add_zero]
    refine Prod.ext (funext fun a => funext fun k => ?_) rfl
    rw [jset_1]
    by_cases ea : a = 68
    · subst ea
      rw [if_pos rfl]
      by_cases ek : k = 17
      · subst ek; rw [if_pos rfl]; exact h.2.2.1.symm
      · rw [if_neg ek]
    · rw [if_neg ea]
  rw [e]; exact h
def mPc (G : jG) (w0 : jWd) (o : Nat) (d : Nat) (y : MethodName) (cc : ByteArray) (nL : Nat) (sp : rS → Bool × rS) : Prop := ∀ w z, mRes w0 w o (true, z) → jKp G d y cc nL none [.ref 68] w none (fun w' => mRes w0 w' o (sp z))
set_option maxHeartbeats 4000000 in
set_option maxRecDepth 100000 in
theorem l_pnu {G : jG} {w0 : jWd} {f i o : Nat} (hG : mGl w0 f i) {z0 : rS} {Q : Option Value → jWd → Prop} (hK : ∀ w j, j ≤ 4 → mRes w0 w o (true, (pNum (mTP w0) f 4 0 z0).2) → (j = 0 ↔ ¬ (48 ≤ pNx (mTP w0) f z0.1 ∧ pNx (mTP w0) f z0.1 ≤ 57)) → J G (jM G 1 RX7 cX7_number 3 none (Q)) w 52 [some (.ref 68), some (.int (pNum (mTP w0) f 4 0 z0).1), some (.int (nI j))] []) : ∀ n j : Nat, j + n = 4 → ∀ (w : jWd) (z : rS) (v : Int32) (_ : mRes w0 w o (true, z)) (_ : (pNum (mTP w0) f 4 0 z0) = pNum (mTP w0) f n v z) (_ : (j = 0 ∧ z = z0) ∨ (0 < j ∧ (48 ≤ pNx (mTP w0) f z0.1 ∧ pNx (mTP w0) f z0.1 ≤ 57))), J G (jM G 1 RX7 cX7_number 3 none (Q)) w 4 [some (.ref 68), some (.int v), some (.int (nI j))] [] := by
  intro n
  induction n with
  | zero =>
    intro j hj w z v h hn hd
    refine J_iload_n (pc' := 5) dX7_number_4 rfl rfl ?_
    refine J_iconst (v := 4) (pc' := 6) dX7_number_5 (by decide) rfl ?_
    refine J_icmp_ge 52 (pc' := 9) dX7_number_6 (by decide) rfl (fun h_6 => ?_) (fun h_6 => absurd (by rw [nIc_4]; exact nI_le (by omega) (by omega)) h_6)
    rw [show v = (pNum (mTP w0) f 4 0 z0).1 from by rw [hn]; rfl]
    exact hK w j (by omega) (by rw [hn]; exact h) ⟨fun q => by omega, fun q => absurd (hd.resolve_left (fun e => by omega)).2 q⟩
  | succ n ih =>
    intro j hj w z v h hn hd
    refine J_iload_n (pc' := 5) dX7_number_4 rfl rfl ?_
    refine J_iconst (v := 4) (pc' := 6) dX7_number_5 (by decide) rfl ?_
    refine J_icmp_ge 52 (pc' := 9) dX7_number_6 (by decide) rfl (fun h_6 => absurd h_6 (by rw [nIc_4]; exact nI_ge (by omega) (by omega))) (fun h_6 => ?_)
    refine J_aload_n (pc' := 10) dX7_number_9 rfl rfl ?_
    refine J_V0v (pc' := 13) dX7_number_10 lk_7_154 cd_X7_look (k_plook hG h) (ly_68) (l84_68) rfl rfl (jroom_of rfl) (Nat.le_of_ble_eq_true rfl) rfl ?_
    refine J_bipush (v := 48) (pc' := 15) dX7_number_13 (by decide) rfl ?_
    refine J_bipush (v := 57) (pc' := 17) dX7_number_15 (by decide) rfl ?_
    refine J_S3v (pc' := 20) dX7_number_17 lk_7_61 cd_X7_in (k_X7_in) (jroom_of rfl) (Nat.le_of_ble_eq_true rfl) rfl ?_
    refine J_if_eq 52 (pc' := 23) dX7_number_20 (by decide) rfl (fun h_20 => ?_) (fun h_20 => ?_)
    · have hno := jb_0.mp h_20
      have hz : pNum (mTP w0) f (n + 1) v z = (v, z) := if_neg hno
      rw [show v = (pNum (mTP w0) f 4 0 z0).1 from by rw [hn, hz]]
      exact hK w j (by omega) (by rw [hn, hz]; exact h) ⟨fun q => by rcases hd with ⟨_, e⟩ | ⟨e, _⟩; rw [← e]; exact hno; omega, fun q => by rcases hd with ⟨e, _⟩ | ⟨_, e⟩; exact e; exact absurd e q⟩
    · refine J_bipush (v := 10) (pc' := 25) dX7_number_23 (by decide) rfl ?_
      refine J_iload_n (pc' := 26) dX7_number_25 rfl rfl ?_
      refine J_imul (pc' := 27) dX7_number_26 rfl ?_
      refine J_aload_n (pc' := 28) dX7_number_27 rfl rfl ?_
      refine J_V0v (pc' := 31) dX7_number_28 lk_7_154 cd_X7_look (k_plook hG h) (ly_68) (l84_68) rfl rfl (jroom_of rfl) (Nat.le_of_ble_eq_true rfl) rfl ?_
      refine J_iadd (pc' := 32) dX7_number_31 rfl ?_
      refine J_bipush (v := 48) (pc' := 34) dX7_number_32 (by decide) rfl ?_
      refine J_isub (pc' := 35) dX7_number_34 rfl ?_
      refine J_istore_n (pc' := 36) dX7_number_35 (Nat.le_of_ble_eq_true rfl) (jst1 rfl rfl) rfl ?_
      refine J_aload_n (pc' := 37) dX7_number_36 rfl rfl ?_
      refine J_dup (pc' := 38) dX7_number_37 rfl rfl ?_
      refine J_getI (pc' := 41) dX7_number_38 fl_7_144 (ly_68) (l84_68) rfl rfl ?_
      rw [show w.1 68 17 = nI z.1 from h.2.2.1]
      refine J_iconst (v := 1) (pc' := 42) dX7_number_41 (by decide) rfl ?_
      refine J_iadd (pc' := 43) dX7_number_42 rfl ?_
      refine J_putI (pc' := 46) dX7_number_43 fp_7_144 (ly_68) (l84_68) rfl rfl ?_
      refine J_iinc (pc' := 49) dX7_number_46 rfl (Nat.le_of_ble_eq_true rfl) (jst2 rfl rfl) rfl ?_
      refine J_goto (pc' := 0) 4 dX7_number_49 (by decide) ?_
      have hC := jb_n h_20
      have hlt := pNx_lt (tp := (mTP w0)) (f := f) (a := z.1) (fun e => by rw [e] at hC; exact absurd hC.1 (by decide))
      have hz60 := hG.2.1
      have h2 := ih (j + 1) (by omega) _ (pAd z) (10 * v + pNx (mTP w0) f z.1 - 48) (h.ad (by omega)) (hn.trans (if_pos hC)) (Or.inr ⟨by omega, by rcases hd with ⟨_, q⟩ | ⟨_, q⟩; rw [← q]; exact hC; exact q⟩)
      rw [← z1 j] at h2
      exact h2
set_option maxHeartbeats 4000000 in
set_option maxRecDepth 100000 in
theorem k_pnum {G : jG} {w0 : jWd} {f i o : Nat} (hG : mGl w0 f i) {w : jWd} {z0 : rS} (h : mRes w0 w o (true, z0)) : jKp G 1 yX7_number cX7_number 3 none [.ref 68] w none (fun w' => mRes w0 w' o (if (48 ≤ pNx (mTP w0) f z0.1 ∧ pNx (mTP w0) f z0.1 ≤ 57) then pDig (mTP w0) f z0 else (false, z0))) := by
  refine jK_of (own := RX7) [some (.ref 68), none, none] pn7 rfl (Nat.le_of_ble_eq_true rfl) rfl ?_
  refine J_iconst (v := 0) (pc' := 1) dX7_number_0 (by decide) rfl ?_
  refine J_istore_n (pc' := 2) dX7_number_1 (Nat.le_of_ble_eq_true rfl) (jst1 rfl rfl) rfl ?_
  refine J_iconst (v := 0) (pc' := 3) dX7_number_2 (by decide) rfl ?_
  refine J_istore_n (pc' := 4) dX7_number_3 (Nat.le_of_ble_eq_true rfl) (jst2 rfl rfl) rfl ?_
  refine l_pnu hG (z0 := z0) (fun w2 j hj h2 hd => ?_) 4 0 rfl w z0 0 h rfl (Or.inl ⟨rfl, rfl⟩)
  refine J_aload_n (pc' := 53) dX7_number_52 rfl rfl ?_
  refine J_iload_n (pc' := 54) dX7_number_53 rfl rfl ?_
  refine J_if_ne 61 (pc' := 57) dX7_number_54 (by decide) rfl (fun h_54 => ?_) (fun h_54 => ?_)
  · refine J_iconst (v := 0) (pc' := 62) dX7_number_61 (by decide) rfl ?_
    refine J_putZ (pc' := 65) dX7_number_62 fp_7_157 (ly_68) (l84_68) rfl (by decide) rfl ?_
    have h3 := h2.good
    have hd2 : (48 ≤ pNx (mTP w0) f z0.1 ∧ pNx (mTP w0) f z0.1 ≤ 57) := Decidable.not_not.mp (fun q => h_54 (by rw [hd.mpr q]; exact nI_0))
    have hv : 0 ≤ (pNum (mTP w0) f 4 0 z0).1 := by
      obtain ⟨-, -, m2, q1, q2⟩ := pNum_g hG.2.1 4 0 z0 0 nIc_0 (by decide) h.2.2.2.1
      rw [q2]; exact nI_pos' (by omega)
    have ht : (true, (pNum (mTP w0) f 4 0 z0).2).1 = true → mTk 1 (pNum (mTP w0) f 4 0 z0).1 := fun _ => Or.inl ⟨rfl, hv⟩
    refine J_aload_n (pc' := 66) dX7_number_65 rfl rfl ?_
    refine J_iconst (v := 1) (pc' := 67) dX7_number_66 (by decide) rfl ?_
    refine J_iload_n (pc' := 68) dX7_number_67 rfl rfl ?_
    refine J_V2w (pc' := 71) dX7_number_68 lk_7_161 cd_X7_lays (k_play h3 ht) (ly_68) (l84_68) rfl rfl (jroom_of rfl) (Nat.le_of_ble_eq_true rfl) rfl (fun w68 hw68 => ?_)
    exact J_vret dX7_number_71  ⟨rfl, by rw [if_pos hd2]; exact hw68⟩
  · refine J_iconst (v := 1) (pc' := 58) dX7_number_57 (by decide) rfl ?_
    refine J_goto (pc' := 0) 62 dX7_number_58 (by decide) ?_
    refine J_putZ (pc' := 65) dX7_number_62 fp_7_157 (ly_68) (l84_68) rfl (by decide) rfl ?_
    have h3 := h2.bad
    have hd2 : ¬ (48 ≤ pNx (mTP w0) f z0.1 ∧ pNx (mTP w0) f z0.1 ≤ 57) := hd.mp (by by_cases e : j = 0; exact e; exact absurd (by first | exact h_54 | exact Decidable.not_not.mp h_54) (nI_ne0 (Nat.pos_of_ne_zero e) (by omega)))
    have ht : (false, (pNum (mTP w0) f 4 0 z0).2).1 = true → mTk 1 (pNum (mTP w0) f 4 0 z0).1 := fun q => Bool.noConfusion q
    refine J_aload_n (pc' := 66) dX7_number_65 rfl rfl ?_
    refine J_iconst (v := 1) (pc' := 67) dX7_number_66 (by decide) rfl ?_
    refine J_iload_n (pc' := 68) dX7_number_67 rfl rfl ?_
    refine J_V2w (pc' := 71) dX7_number_68 lk_7_161 cd_X7_lays (k_play h3 ht) (ly_68) (l84_68) rfl rfl (jroom_of rfl) (Nat.le_of_ble_eq_true rfl) rfl (fun w68 hw68 => ?_)
    exact J_vret dX7_number_71  ⟨rfl, by rw [if_neg hd2]; exact hw68.ff (by rw [pWr_at]; have hz : pNum (mTP w0) f 4 0 z0 = (0, z0) := if_neg hd2; rw [hz])⟩
