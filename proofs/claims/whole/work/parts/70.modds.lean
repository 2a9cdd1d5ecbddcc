/-! ===== the reference: what should have been told, odds ===== -/
/-! ===== the reference: what should have been told, odds ===== -/
theorem lcmpT {x y : Int64} : lg_cmp x y < 0 ↔ x < y := ⟨fun h => Decidable.byContradiction (fun q => absurd h (Int32.not_lt.mpr (lcmpL.mpr q))), fun h => Int32.not_le.mp (fun q => lcmpL.mp q h)⟩
theorem mHol_4 {σ : sg} {k : Nat} {v : Int32} : mHol (sg1 σ 4 k v) ↔ mHol σ := by
  unfold mHol
  rw [sTied_4, sP_sg1 (Or.inl (by decide))]
def mTol (σ : sg) (k : Nat) : Nat → Int32 × Int64
  | 0 => (0, -1)
  | i + 1 => if (mTol σ k i).2 < 0 ∨ sSm (sg1 σ 4 k (tw i)) (mLn (sg1 σ 4 k (tw i))) (mAb (sg1 σ 4 k (tw i))) (sM (sg1 σ 4 k (tw i))) < (mTol σ k i).2 then (tw i, sSm (sg1 σ 4 k (tw i)) (mLn (sg1 σ 4 k (tw i))) (mAb (sg1 σ 4 k (tw i))) (sM (sg1 σ 4 k (tw i)))) else mTol σ k i
def mOd (σ : sg) (k n : Nat) : Nat → Nat
  | 0 => 0
  | i + 1 => mOd σ k n i + (if sGoN (sg1 σ 4 k (tw i)) n 5 k = 1 then 1 else 0)
theorem mOd_le (σ : sg) (k n : Nat) : ∀ i, mOd σ k n i ≤ i
  | 0 => Nat.le_refl _
  | i + 1 => by
    have := mOd_le σ k n i
    rw [mOd]
    split <;> omega
set_option maxHeartbeats 4000000 in
set_option maxRecDepth 100000 in
theorem l_mtf {G : jG} {w0 : jWd} (hI0 : sInv (abM (w0.1 69))) (hT0 : mT (w0.1 69)) (hH : mHol (abM (w0.1 69))) {k : Nat} (hk : k < sM (abM (w0.1 69))) {Q : Option Value → jWd → Prop} (hK : ∀ w2, mTh w0 w2 → J G (jM G 10 RX7 cX7_toldFor 10 (some .int) (Q)) w2 125 [some (.ref 68), some (.int (nI k)), some (.int (mTol (abM (w0.1 69)) k 41).1), none, none, none, none, none, none, none] []) : ∀ n j : Nat, j + n = 41 → ∀ (w2 : jWd) (_ : mTh w0 w2) (_ : ∀ v, sg1 (abM (w2.1 69)) 4 k v = sg1 (abM (w0.1 69)) 4 k v) (_ : mT (w2.1 69)), J G (jM G 10 RX7 cX7_toldFor 10 (some .int) (Q)) w2 43 [some (.ref 68), some (.int (nI k)), some (.int (mTol (abM (w0.1 69)) k j).1), some (.long (mTol (abM (w0.1 69)) k j).2), none, some (.int (tw j)), none, none, none, none] [] := by
  have h8 : k < 8 := Nat.lt_of_lt_of_le hk (sIM hI0).2
  intro n
  induction n with
  | zero =>
    intro j hj w2 t2 e2 mt2
    refine J_iload (pc' := 45) dX7_toldFor_43 rfl rfl ?_
    refine J_bipush (v := 20) (pc' := 47) dX7_toldFor_45 (by decide) rfl ?_
    refine J_icmp_gt 125 (pc' := 50) dX7_toldFor_47 (by decide) rfl (fun h_47 => ?_) (fun h_47 => absurd (by rw [show j = 41 by omega]; exact tw_41) h_47)
    have ej : j = 41 := by omega
    rw [ej]
    exact J_mask [true, true, true, false, false, false, false, false, false, false] (hK w2 t2)
  | succ n ih =>
    intro j hj w2 t2 e2 mt2
    have eσ : abM ((jset w2 69 (8 + 6 * k + 4) (tw j)).1 69) = (sg1 (abM (w0.1 69)) 4 k (tw j)) := by rw [ams4 h8, e2]
    have hIj : sInv (sg1 (abM (w0.1 69)) 4 k (tw j)) := inv_4 hI0 (tw_in j (by omega)).2
    have mt3 : mT ((jset w2 69 (8 + 6 * k + 4) (tw j)).1 69) := ((frG.rf w2).set (by omega)).mt mt2
    refine J_iload (pc' := 45) dX7_toldFor_43 rfl rfl ?_
    refine J_bipush (v := 20) (pc' := 47) dX7_toldFor_45 (by decide) rfl ?_
    refine J_icmp_gt 125 (pc' := 50) dX7_toldFor_47 (by decide) rfl (fun h_47 => absurd h_47 (tw_in j (by omega)).1) (fun h_47 => ?_)
    refine J_aload_n (pc' := 51) dX7_toldFor_50 rfl rfl ?_
    refine J_iload_n (pc' := 52) dX7_toldFor_51 rfl rfl ?_
    refine J_iconst (v := 4) (pc' := 53) dX7_toldFor_52 (by decide) rfl ?_
    refine J_iload (pc' := 55) dX7_toldFor_53 rfl rfl ?_
    refine J_V30 (pc' := 58) dX7_toldFor_55 lk_7_130 cd_X7_puts (k_mputs h8 (c := 4) (by decide) nIc_4) (ly_68) (l84_68) rfl rfl (jroom_of rfl) (Nat.le_of_ble_eq_true rfl) rfl ?_
    refine J_aload_n (pc' := 59) dX7_toldFor_58 rfl rfl ?_
    refine J_V0p (pc' := 62) dX7_toldFor_59 lk_7_205 cd_X7_isSolved (k_msol (by rw [eσ]; exact hIj) mt3) (ly_68) (l84_68) rfl rfl (jroom_of rfl) (Nat.le_of_ble_eq_true rfl) rfl (fun w59 hw59 => ?_)
    rw [jb_t (show _ from (by rw [eσ]; exact mHol_4.mpr hH))]
    have h69 : w59.1 69 = (jset w2 69 (8 + 6 * k + 4) (tw j)).1 69 := by rw [hw59.1.1]
    have t59 : mTh w0 w59 := (t2.set (i := 8 + 6 * k + 4) (v := tw j)).f hw59.1
    have hS9 : mSol w59 (abM (w59.1 69)) := by rw [h69]; exact hw59.2 (by rw [eσ]; exact mHol_4.mpr hH)
    refine J_istore (pc' := 64) dX7_toldFor_62 (Nat.le_of_ble_eq_true rfl) (jst6 rfl rfl) rfl ?_
    refine J_aload_n (pc' := 65) dX7_toldFor_64 rfl rfl ?_
    refine J_V0v (pc' := 68) dX7_toldFor_65 lk_7_235 cd_X7_allMiss ((by have h := k_mam (G := G) (w := w59) (by rw [h69, eσ]; exact hIj) (by rw [h69]; exact mt3) hS9; rw [h69, eσ] at h; exact h)) (ly_68) (l84_68) rfl rfl (jroom_of rfl) (Nat.le_of_ble_eq_true rfl) rfl ?_
    refine J_lstore (pc' := 70) dX7_toldFor_68 (Nat.le_of_ble_eq_true rfl) (jstL7 rfl) rfl ?_
    refine J_iload (pc' := 72) dX7_toldFor_70 rfl rfl ?_
    refine J_if_eq 92 (pc' := 75) dX7_toldFor_72 (by decide) rfl (fun h_72 => absurd h_72 (by decide)) (fun h_72 => ?_)
    refine J_lload_n (pc' := 76) dX7_toldFor_75 rfl rfl ?_
    refine J_lconst (v := 0) (pc' := 77) dX7_toldFor_76 (by decide) rfl ?_
    refine J_lcmp (pc' := 78) dX7_toldFor_77 rfl ?_
    refine J_if_lt 88 (pc' := 81) dX7_toldFor_78 (by decide) rfl (fun h_78 => ?_) (fun h_78 => ?_)
    · refine J_iconst (v := 1) (pc' := 89) dX7_toldFor_88 (by decide) rfl ?_
      refine J_goto (pc' := 0) 93 dX7_toldFor_89 (by decide) ?_
      refine J_istore (pc' := 95) dX7_toldFor_93 (Nat.le_of_ble_eq_true rfl) (jst9 rfl rfl) rfl ?_
      refine J_iload (pc' := 97) dX7_toldFor_95 rfl rfl ?_
      refine J_if_eq 105 (pc' := 100) dX7_toldFor_97 (by decide) rfl (fun h_97 => absurd h_97 (by decide)) (fun h_97 => ?_)
      refine J_iload (pc' := 102) dX7_toldFor_100 rfl rfl ?_
      refine J_goto (pc' := 0) 106 dX7_toldFor_102 (by decide) ?_
      refine J_istore_n (pc' := 107) dX7_toldFor_106 (Nat.le_of_ble_eq_true rfl) (jst2 rfl rfl) rfl ?_
      refine J_iload (pc' := 109) dX7_toldFor_107 rfl rfl ?_
      refine J_if_eq 117 (pc' := 112) dX7_toldFor_109 (by decide) rfl (fun h_109 => absurd h_109 (by decide)) (fun h_109 => ?_)
      refine J_lload (pc' := 114) dX7_toldFor_112 rfl rfl ?_
      refine J_goto (pc' := 0) 118 dX7_toldFor_114 (by decide) ?_
      refine J_lstore_n (pc' := 119) dX7_toldFor_118 (Nat.le_of_ble_eq_true rfl) (jstL3 rfl) rfl ?_
      refine J_iinc (pc' := 122) dX7_toldFor_119 rfl (Nat.le_of_ble_eq_true rfl) (jst5 rfl rfl) rfl ?_
      refine J_goto (pc' := 0) 43 dX7_toldFor_122 (by decide) ?_
      have e : (mTol (abM (w0.1 69)) k (j + 1)) = (tw j, sSm (sg1 (abM (w0.1 69)) 4 k (tw j)) (mLn (sg1 (abM (w0.1 69)) 4 k (tw j))) (mAb (sg1 (abM (w0.1 69)) 4 k (tw j))) (sM (sg1 (abM (w0.1 69)) 4 k (tw j)))) := if_pos (show ((mTol (abM (w0.1 69)) k j)).2 < 0 ∨ sSm (sg1 (abM (w0.1 69)) 4 k (tw j)) (mLn (sg1 (abM (w0.1 69)) 4 k (tw j))) (mAb (sg1 (abM (w0.1 69)) 4 k (tw j))) (sM (sg1 (abM (w0.1 69)) 4 k (tw j))) < ((mTol (abM (w0.1 69)) k j)).2 from by first | exact Or.inl (lcmpT.mp h_78) | exact Or.inr (Decidable.not_not.mp (fun q => h_85 (lcmpL.mpr q))))
      have h2 := ih (j + 1) (by omega) w59 t59 (fun v => by rw [h69, eσ, sg1_2]) (by rw [h69]; exact mt3)
      rw [e, ← tw_s j (by omega)] at h2
      exact J_mask [true, true, true, true, true, true, false, false, false, false] h2
    · refine J_lload (pc' := 83) dX7_toldFor_81 rfl rfl ?_
      refine J_lload_n (pc' := 84) dX7_toldFor_83 rfl rfl ?_
      refine J_lcmp (pc' := 85) dX7_toldFor_84 rfl ?_
      refine J_if_ge 92 (pc' := 88) dX7_toldFor_85 (by decide) rfl (fun h_85 => ?_) (fun h_85 => ?_)
      · refine J_iconst (v := 0) (pc' := 93) dX7_toldFor_92 (by decide) rfl ?_
        refine J_istore (pc' := 95) dX7_toldFor_93 (Nat.le_of_ble_eq_true rfl) (jst9 rfl rfl) rfl ?_
        refine J_iload (pc' := 97) dX7_toldFor_95 rfl rfl ?_
        refine J_if_eq 105 (pc' := 100) dX7_toldFor_97 (by decide) rfl (fun h_97 => ?_) (fun h_97 => absurd rfl h_97)
        refine J_iload_n (pc' := 106) dX7_toldFor_105 rfl rfl ?_
        refine J_istore_n (pc' := 107) dX7_toldFor_106 (Nat.le_of_ble_eq_true rfl) (jst2 rfl rfl) rfl ?_
        refine J_iload (pc' := 109) dX7_toldFor_107 rfl rfl ?_
        refine J_if_eq 117 (pc' := 112) dX7_toldFor_109 (by decide) rfl (fun h_109 => ?_) (fun h_109 => absurd rfl h_109)
        refine J_lload_n (pc' := 118) dX7_toldFor_117 rfl rfl ?_
        refine J_lstore_n (pc' := 119) dX7_toldFor_118 (Nat.le_of_ble_eq_true rfl) (jstL3 rfl) rfl ?_
        refine J_iinc (pc' := 122) dX7_toldFor_119 rfl (Nat.le_of_ble_eq_true rfl) (jst5 rfl rfl) rfl ?_
        refine J_goto (pc' := 0) 43 dX7_toldFor_122 (by decide) ?_
        have e : (mTol (abM (w0.1 69)) k (j + 1)) = (mTol (abM (w0.1 69)) k j) := if_neg (show ¬ (((mTol (abM (w0.1 69)) k j)).2 < 0 ∨ sSm (sg1 (abM (w0.1 69)) 4 k (tw j)) (mLn (sg1 (abM (w0.1 69)) 4 k (tw j))) (mAb (sg1 (abM (w0.1 69)) 4 k (tw j))) (sM (sg1 (abM (w0.1 69)) 4 k (tw j))) < ((mTol (abM (w0.1 69)) k j)).2) from fun q => q.elim (fun r => h_78 (lcmpT.mpr r)) (fun r => (lcmpL.mp h_85) r))
        have h2 := ih (j + 1) (by omega) w59 t59 (fun v => by rw [h69, eσ, sg1_2]) (by rw [h69]; exact mt3)
        rw [e, ← tw_s j (by omega)] at h2
        exact J_mask [true, true, true, true, true, true, false, false, false, false] h2
      · refine J_iconst (v := 1) (pc' := 89) dX7_toldFor_88 (by decide) rfl ?_
        refine J_goto (pc' := 0) 93 dX7_toldFor_89 (by decide) ?_
        refine J_istore (pc' := 95) dX7_toldFor_93 (Nat.le_of_ble_eq_true rfl) (jst9 rfl rfl) rfl ?_
        refine J_iload (pc' := 97) dX7_toldFor_95 rfl rfl ?_
        refine J_if_eq 105 (pc' := 100) dX7_toldFor_97 (by decide) rfl (fun h_97 => absurd h_97 (by decide)) (fun h_97 => ?_)
        refine J_iload (pc' := 102) dX7_toldFor_100 rfl rfl ?_
        refine J_goto (pc' := 0) 106 dX7_toldFor_102 (by decide) ?_
        refine J_istore_n (pc' := 107) dX7_toldFor_106 (Nat.le_of_ble_eq_true rfl) (jst2 rfl rfl) rfl ?_
        refine J_iload (pc' := 109) dX7_toldFor_107 rfl rfl ?_
        refine J_if_eq 117 (pc' := 112) dX7_toldFor_109 (by decide) rfl (fun h_109 => absurd h_109 (by decide)) (fun h_109 => ?_)
        refine J_lload (pc' := 114) dX7_toldFor_112 rfl rfl ?_
        refine J_goto (pc' := 0) 118 dX7_toldFor_114 (by decide) ?_
        refine J_lstore_n (pc' := 119) dX7_toldFor_118 (Nat.le_of_ble_eq_true rfl) (jstL3 rfl) rfl ?_
        refine J_iinc (pc' := 122) dX7_toldFor_119 rfl (Nat.le_of_ble_eq_true rfl) (jst5 rfl rfl) rfl ?_
        refine J_goto (pc' := 0) 43 dX7_toldFor_122 (by decide) ?_
        have e : (mTol (abM (w0.1 69)) k (j + 1)) = (tw j, sSm (sg1 (abM (w0.1 69)) 4 k (tw j)) (mLn (sg1 (abM (w0.1 69)) 4 k (tw j))) (mAb (sg1 (abM (w0.1 69)) 4 k (tw j))) (sM (sg1 (abM (w0.1 69)) 4 k (tw j)))) := if_pos (show ((mTol (abM (w0.1 69)) k j)).2 < 0 ∨ sSm (sg1 (abM (w0.1 69)) 4 k (tw j)) (mLn (sg1 (abM (w0.1 69)) 4 k (tw j))) (mAb (sg1 (abM (w0.1 69)) 4 k (tw j))) (sM (sg1 (abM (w0.1 69)) 4 k (tw j))) < ((mTol (abM (w0.1 69)) k j)).2 from by first | exact Or.inl (lcmpT.mp h_78) | exact Or.inr (Decidable.not_not.mp (fun q => h_85 (lcmpL.mpr q))))
        have h2 := ih (j + 1) (by omega) w59 t59 (fun v => by rw [h69, eσ, sg1_2]) (by rw [h69]; exact mt3)
        rw [e, ← tw_s j (by omega)] at h2
        exact J_mask [true, true, true, true, true, true, false, false, false, false] h2
def sm_toldFor (s k r : sg) (x : Int32) : sQI := if sIsM s x then (if mHol s then ((mTol s (nn x) 41).1, s, k, r) else (sErr 3, s, k, sEr r 3)) else (sErr 1, s, k, sEr r 1)
set_option maxHeartbeats 4000000 in
set_option maxRecDepth 100000 in
theorem b_X7_toldFor {G : jG} {w : jWd} (hV : MInv w) (hI : sInv (abM (w.1 69))) {x : Int32} : jKp G 10 yX7_toldFor cX7_toldFor 10 (some .int) [.ref 68, .int x] w (some (.int (sm_toldFor (abM (w.1 69)) (abM (w.1 70)) (restM w) x).1)) (fun w' => RQ w w' (sm_toldFor (abM (w.1 69)) (abM (w.1 70)) (restM w) x).2) := by
  have hT := hV.1
  refine jK_of (own := RX7) [some (.ref 68), some (.int x), none, none, none, none, none, none, none, none] pn7 rfl (Nat.le_of_ble_eq_true rfl) rfl ?_
  refine J_aload_n (pc' := 1) dX7_toldFor_0 rfl rfl ?_
  refine J_iload_n (pc' := 2) dX7_toldFor_1 rfl rfl ?_
  refine J_V1v (pc' := 5) dX7_toldFor_2 lk_7_134 cd_X7_isMark (k_X7_isMark) (ly_68) (l84_68) rfl rfl (jroom_of rfl) (Nat.le_of_ble_eq_true rfl) rfl ?_
  refine J_if_ne 15 (pc' := 8) dX7_toldFor_5 (by decide) rfl (fun h_5 => ?_) (fun h_5 => ?_)
  · obtain ⟨k, hk, rfl⟩ := sIsM_ex hI (jb_n h_5)
    have h8 : k < 8 := Nat.lt_of_lt_of_le hk (sIM hI).2
    refine J_aload_n (pc' := 16) dX7_toldFor_15 rfl rfl ?_
    refine J_V0p (pc' := 19) dX7_toldFor_16 lk_7_205 cd_X7_isSolved (k_msol hI hT) (ly_68) (l84_68) rfl rfl (jroom_of rfl) (Nat.le_of_ble_eq_true rfl) rfl (fun w16 hw16 => ?_)
    refine J_if_ne 29 (pc' := 22) dX7_toldFor_19 (by decide) rfl (fun h_19 => ?_) (fun h_19 => ?_)
    · have hH := jb_n (p := mHol (abM (w.1 69))) h_19
      refine J_aload_n (pc' := 30) dX7_toldFor_29 rfl rfl ?_
      refine J_V0w (pc' := 33) dX7_toldFor_30 lk_7_242 cd_X7_thinks (k_mthinks) (ly_68) (l84_68) rfl rfl (jroom_of rfl) (Nat.le_of_ble_eq_true rfl) rfl (fun w30 hw30 => ?_)
      obtain ⟨t30, e30⟩ := mTh.start hw30
      have tA : mTh w w30 := ⟨fun a q1 q2 => (t30.1 a q1 q2).trans (by rw [hw16.1.1]), fun a q => (t30.2.1 a q).trans (hw16.1.2 a q), fun j hj => (t30.2.2 j hj).trans (by rw [hw16.1.1])⟩
      refine J_iconst (v := 0) (pc' := 34) dX7_toldFor_33 (by decide) rfl ?_
      refine J_istore_n (pc' := 35) dX7_toldFor_34 (Nat.le_of_ble_eq_true rfl) (jst2 rfl rfl) rfl ?_
      refine J_ldc2 (pc' := 38) dX7_toldFor_35 kc_7_252 rfl ?_
      refine J_lstore_n (pc' := 39) dX7_toldFor_38 (Nat.le_of_ble_eq_true rfl) (jstL3 rfl) rfl ?_
      refine J_bipush (v := (-20)) (pc' := 41) dX7_toldFor_39 (by decide) rfl ?_
      refine J_istore (pc' := 43) dX7_toldFor_41 (Nat.le_of_ble_eq_true rfl) (jst5 rfl rfl) rfl ?_
      have h2 := fun (Q : Option Value → jWd → Prop) hK => l_mtf (G := G) (w0 := w) hI hT hH hk (Q := Q) hK 41 0 rfl w30 tA (fun v => by rw [e30, hw16.1.1]) (by rw [e30, hw16.1.1]; exact hT)
      rw [tw_0] at h2
      refine J_mask [true, true, true, true, true, true, false, false, false, false] (h2 _ (fun w2 t2 => ?_))
      refine J_aload_n (pc' := 126) dX7_toldFor_125 rfl rfl ?_
      refine J_V0w (pc' := 129) dX7_toldFor_126 lk_7_245 cd_X7_putsBack (k_mback) (ly_68) (l84_68) rfl rfl (jroom_of rfl) (Nat.le_of_ble_eq_true rfl) rfl (fun w126 hw126 => ?_)
      refine J_iload_n (pc' := 130) dX7_toldFor_129 rfl rfl ?_
      exact J_iret dX7_toldFor_130  (by unfold sm_toldFor; rw [if_pos (show sIsM (abM (w.1 69)) (nI k) from jb_n h_5), if_pos hH, nn_nI (by omega)]; dsimp only; exact ⟨rfl, mq_bk hV (mTh.back hI hT t2 hw126)⟩)
    · refine J_aload_n (pc' := 23) dX7_toldFor_22 rfl rfl ?_
      refine J_ldc (pc' := 25) dX7_toldFor_23 kc_7_141 rfl ?_
      refine J_V1v (pc' := 28) dX7_toldFor_25 lk_7_126 cd_X7_error (k_merr (k := 3) (by decide) (by decide)) (ly_68) (l84_68) rfl rfl (jroom_of rfl) (Nat.le_of_ble_eq_true rfl) rfl ?_
      exact J_iret dX7_toldFor_28  (by unfold sm_toldFor; rw [if_pos (show sIsM (abM (w.1 69)) (nI k) from jb_n h_5), if_neg (show ¬ mHol (abM (w.1 69)) from jb_0.mp (by first | exact h_19 | exact Decidable.not_not.mp h_19))]; exact ⟨rfl, mq_err2 (mq_F hV hw16.1) (by decide)⟩)
  · refine J_aload_n (pc' := 9) dX7_toldFor_8 rfl rfl ?_
    refine J_ldc (pc' := 11) dX7_toldFor_9 kc_7_125 rfl ?_
    refine J_V1v (pc' := 14) dX7_toldFor_11 lk_7_126 cd_X7_error (k_merr (k := 1) (by decide) (by decide)) (ly_68) (l84_68) rfl rfl (jroom_of rfl) (Nat.le_of_ble_eq_true rfl) rfl ?_
    exact J_iret dX7_toldFor_14  (by unfold sm_toldFor; rw [if_neg (show ¬ (sIsM (abM (w.1 69)) x) from fun q => by first | exact jb_0.mp (by first | exact h_5 | exact Decidable.not_not.mp h_5) q)]; exact ⟨rfl, mq_err hV (by decide)⟩)
