/-! ===== the reference: places ===== -/
/-! ===== the reference: places ===== -/
abbrev mMT : Type := (Nat → Int64) × (Nat → Int64)
def mQ (w : jWd) (q : mMT) : Prop := (∀ k, k < 16 → w.2 76 k = q.1 k) ∧ (∀ j, j < 4 → w.2 77 j = q.2 j)
def mF (w w2 : jWd) : Prop := w2.1 = w.1 ∧ ∀ a, a < 68 → w2.2 a = w.2 a
theorem mF.rf (w : jWd) : mF w w := ⟨rfl, fun _ _ => rfl⟩
theorem mF.tr {a b c : jWd} (h : mF a b) (h2 : mF b c) : mF a c := ⟨h2.1.trans h.1, fun x q => (h2.2 x q).trans (h.2 x q)⟩
theorem jL_same {w : jWd} {a i : Nat} {v : Int64} : (jsetL w a i v).2 a = vp_updL (w.2 a) i v := if_pos rfl
theorem jL_off {w : jWd} {a i b : Nat} {v : Int64} (h : b ≠ a) : (jsetL w a i v).2 b = w.2 b := if_neg h
theorem mF.set {w w2 : jWd} (h : mF w w2) {a i : Nat} {v : Int64} (ha : 68 ≤ a) : mF w (jsetL w2 a i v) := ⟨h.1, fun b q => (jL_off (by omega)).trans (h.2 b q)⟩
theorem uL_at (f : Nat → Int64) (k : Nat) (v : Int64) : vp_updL f k v k = v := if_pos rfl
theorem uL_ne (f : Nat → Int64) {k j : Nat} (v : Int64) (h : j ≠ k) : vp_updL f k v j = f j := if_neg h
theorem mQ.sq {w : jWd} {s r : Nat → Int64} (h : mQ w (s, r)) {i : Nat} (v : Int64) : mQ (jsetL w 76 i v) (vp_updL s i v, r) :=
  ⟨fun k hk => by
    rw [jL_same]
    by_cases e : k = i
    · rw [e, uL_at]; exact (uL_at s i v).symm
    · rw [uL_ne _ _ e]; exact (h.1 k hk).trans (uL_ne s v e).symm, fun j hj => (congrFun (jL_off (by decide)) j).trans (h.2 j hj)⟩
theorem mQ.rt {w : jWd} {s r : Nat → Int64} (h : mQ w (s, r)) {i : Nat} (v : Int64) : mQ (jsetL w 77 i v) (s, vp_updL r i v) :=
  ⟨fun j hj => (congrFun (jL_off (by decide)) j).trans (h.1 j hj), fun k hk => by
    rw [jL_same]
    by_cases e : k = i
    · rw [e, uL_at]; exact (uL_at r i v).symm
    · rw [uL_ne _ _ e]; exact (h.2 k hk).trans (uL_ne r v e).symm⟩
theorem mQ.ad {w : jWd} {s r : Nat → Int64} (h : mQ w (s, r)) {i : Nat} (hi : i < 16) (x : Int64) : mQ (jsetL w 76 i (w.2 76 i + x)) (vp_updL s i (s i + x), r) := by rw [h.1 i hi]; exact h.sq _
theorem mQ.sb {w : jWd} {s r : Nat → Int64} (h : mQ w (s, r)) {i : Nat} (hi : i < 16) (x : Int64) : mQ (jsetL w 76 i (w.2 76 i - x)) (vp_updL s i (s i - x), r) := by rw [h.1 i hi]; exact h.sq _
theorem mQ.ra {w : jWd} {s r : Nat → Int64} (h : mQ w (s, r)) {i : Nat} (hi : i < 4) (x : Int64) : mQ (jsetL w 77 i (w.2 77 i + x)) (s, vp_updL r i (r i + x)) := by rw [h.2 i hi]; exact h.rt _
theorem mQ.rb {w : jWd} {s r : Nat → Int64} (h : mQ w (s, r)) {i : Nat} (hi : i < 4) (x : Int64) : mQ (jsetL w 77 i (w.2 77 i - x)) (s, vp_updL r i (r i - x)) := by rw [h.2 i hi]; exact h.rt _
/-- one mark more in the sums -/
def mAd1 (σ : sg) (k t : Nat) (q : mMT) : mMT := (vp_updL q.1 (5 * t) (q.1 (5 * t) + (sW σ k).toInt64), vp_updL q.2 t (q.2 t + (sW σ k).toInt64 * (sS σ k).toInt64))
def mAd2 (σ : sg) (k t f : Nat) (q : mMT) : mMT :=
  let s2 := vp_updL q.1 (5 * f) (q.1 (5 * f) + (sW σ k).toInt64)
  let s3 := vp_updL s2 (4 * f + t) (s2 (4 * f + t) - (sW σ k).toInt64)
  (vp_updL s3 (4 * t + f) (s3 (4 * t + f) - (sW σ k).toInt64), vp_updL q.2 f (q.2 f - (sW σ k).toInt64 * (sS σ k).toInt64))
def mAdd (σ : sg) (k : Nat) (q : mMT) : mMT := if σ 2 k < 0 then mAd1 σ k (nn (σ 3 k)) q else mAd2 σ k (nn (σ 3 k)) (nn (σ 2 k)) (mAd1 σ k (nn (σ 3 k)) q)
def mMat (σ : sg) : Nat → mMT
  | 0 => (fun _ => 0, fun _ => 0)
  | j + 1 => if σ 5 j = 1 then mAdd σ j (mMat σ j) else mMat σ j
def mLn (σ : sg) : Int64 := mDet (mMat σ (sM σ)).1 (mMat σ (sM σ)).2 (-1) (sP σ) (sP σ) 0
def mAb (σ : sg) (p : Nat) : Int64 := mDet (mMat σ (sM σ)).1 (mMat σ (sM σ)).2 (nI p) (sP σ) (sP σ) 0
def mSol (w : jWd) (σ : sg) : Prop := w.2 68 11 = mLn σ ∧ ∀ p, p < sP σ → w.2 78 p = mAb σ p
theorem k_msyF {G : jG} {w w2 : jWd} (hF : w2.1 = w.1) (hI : sInv (abM (w.1 69))) (hT : mT (w.1 69)) {k : Nat} (hk : k < sM (abM (w.1 69))) : jKd G 4 yX7_saysOf cX7_saysOf 2 (some .int) [.ref 68, .int (nI k)] w2 (some (.int (sS (abM (w.1 69)) k))) w2 := by
  have h := k_msy (G := G) (w := w2) (k := k) (by rw [hF]; exact hI) (by rw [hF]; exact hT) (by rw [hF]; exact hk)
  rw [hF] at h
  exact h
set_option maxHeartbeats 4000000 in
set_option maxRecDepth 100000 in
theorem k_madd {G : jG} {w : jWd} (hI : sInv (abM (w.1 69))) (hT : mT (w.1 69)) {k : Nat} (hk : k < sM (abM (w.1 69))) {q : mMT} (hq : mQ w q) : jKp G 5 yX7_adds cX7_adds 6 none [.ref 68, .int (nI k)] w none (fun w' => mF w w' ∧ mQ w' (mAdd (abM (w.1 69)) k q)) := by
  have h8 : k < 8 := Nat.lt_of_lt_of_le hk (sIM hI).2
  obtain ⟨-, -, q2, q3, -⟩ := sIk hI hk
  have hP4 := (sIP hI).2.2
  obtain ⟨g, hg, eg⟩ := pic_ex hP4 q3
  have hng : nn ((abM (w.1 69)) 3 k) = g := by rw [eg, nn_nI (by omega)]
  refine jK_of (own := RX7) [some (.ref 68), some (.int (nI k)), none, none, none, none] pn7 rfl (Nat.le_of_ble_eq_true rfl) rfl ?_
  refine J_aload_n (pc' := 1) dX7_adds_0 rfl rfl ?_
  refine J_iload_n (pc' := 2) dX7_adds_1 rfl rfl ?_
  refine J_V1v (pc' := 5) dX7_adds_2 lk_7_90 cd_X7_weight (k_mwt hI hT hk) (ly_68) (l84_68) rfl rfl (jroom_of rfl) (Nat.le_of_ble_eq_true rfl) rfl ?_
  refine J_i2l (pc' := 6) dX7_adds_5 rfl ?_
  refine J_lstore_n (pc' := 7) dX7_adds_6 (Nat.le_of_ble_eq_true rfl) (jstL2 rfl) rfl ?_
  refine J_aload_n (pc' := 8) dX7_adds_7 rfl rfl ?_
  refine J_iload_n (pc' := 9) dX7_adds_8 rfl rfl ?_
  refine J_iconst (v := 2) (pc' := 10) dX7_adds_9 (by decide) rfl ?_
  refine J_V2v (pc' := 13) dX7_adds_10 lk_7_65 cd_X7_of (k_mof2 h8) (ly_68) (l84_68) rfl rfl (jroom_of rfl) (Nat.le_of_ble_eq_true rfl) rfl ?_
  refine J_istore (pc' := 15) dX7_adds_13 (Nat.le_of_ble_eq_true rfl) (jst4 rfl rfl) rfl ?_
  refine J_aload_n (pc' := 16) dX7_adds_15 rfl rfl ?_
  refine J_iload_n (pc' := 17) dX7_adds_16 rfl rfl ?_
  refine J_iconst (v := 3) (pc' := 18) dX7_adds_17 (by decide) rfl ?_
  refine J_V2v (pc' := 21) dX7_adds_18 lk_7_65 cd_X7_of (k_mof3 h8) (ly_68) (l84_68) rfl rfl (jroom_of rfl) (Nat.le_of_ble_eq_true rfl) rfl ?_
  refine J_istore (pc' := 23) dX7_adds_21 (Nat.le_of_ble_eq_true rfl) (jst5 rfl rfl) rfl ?_
  refine J_aload_n (pc' := 24) dX7_adds_23 rfl rfl ?_
  refine J_getR (pc' := 27) dX7_adds_24 fl_7_31 (ly_68) (l84_68) rfl rfl ?_
  refine J_iconst (v := 5) (pc' := 28) dX7_adds_27 (by decide) rfl ?_
  refine J_iload (pc' := 30) dX7_adds_28 rfl rfl ?_
  refine J_imul (pc' := 31) dX7_adds_30 rfl ?_
  refine J_dup2 (pc' := 32) dX7_adds_31 rfl rfl rfl ?_
  refine J_lald (5 * g) (pc' := 33) dX7_adds_32 (ly_76) (l84_76) (by rw [eg]; exact jmul nIc_5 rfl) (by omega) (by decide) rfl ?_
  refine J_lload_n (pc' := 34) dX7_adds_33 rfl rfl ?_
  refine J_ladd (pc' := 35) dX7_adds_34 rfl ?_
  refine J_last (5 * g) (pc' := 36) dX7_adds_35 (ly_76) (l84_76) (by rw [eg]; exact jmul nIc_5 rfl) (by omega) (by decide) rfl ?_
  refine J_aload_n (pc' := 37) dX7_adds_36 rfl rfl ?_
  refine J_getR (pc' := 40) dX7_adds_37 fl_7_35 (ly_68) (l84_68) rfl rfl ?_
  refine J_iload (pc' := 42) dX7_adds_40 rfl rfl ?_
  refine J_dup2 (pc' := 43) dX7_adds_42 rfl rfl rfl ?_
  refine J_lald g (pc' := 44) dX7_adds_43 (ly_77) (l84_77) eg hg (by decide) rfl ?_
  refine J_lload_n (pc' := 45) dX7_adds_44 rfl rfl ?_
  refine J_aload_n (pc' := 46) dX7_adds_45 rfl rfl ?_
  refine J_iload_n (pc' := 47) dX7_adds_46 rfl rfl ?_
  refine J_V1v (pc' := 50) dX7_adds_47 lk_7_93 cd_X7_saysOf (k_msyF (w := w) (by rfl) hI hT hk) (ly_68) (l84_68) rfl rfl (jroom_of rfl) (Nat.le_of_ble_eq_true rfl) rfl ?_
  refine J_i2l (pc' := 51) dX7_adds_50 rfl ?_
  refine J_lmul (pc' := 52) dX7_adds_51 rfl ?_
  refine J_ladd (pc' := 53) dX7_adds_52 rfl ?_
  refine J_last g (pc' := 54) dX7_adds_53 (ly_77) (l84_77) eg hg (by decide) rfl ?_
  refine J_iload (pc' := 56) dX7_adds_54 rfl rfl ?_
  refine J_if_lt 122 (pc' := 59) dX7_adds_56 (by decide) rfl (fun h_56 => ?_) (fun h_56 => ?_)
  · exact J_vret dX7_adds_122  ⟨rfl, ((mF.rf w).set (by decide)).set (by decide), by unfold mAdd; rw [hng, if_pos h_56]; exact (hq.ad (by omega) _).ra hg _⟩
  · obtain ⟨f, hf, ef⟩ := pic_ex hP4 ⟨by have := Int32.le_iff_toInt_le.mp (Int32.not_lt.mp h_56); rw [show (0 : Int32).toInt = 0 from by decide] at this; exact this, q2.2⟩
    have hnf : nn ((abM (w.1 69)) 2 k) = f := by rw [ef, nn_nI (by omega)]
    refine J_aload_n (pc' := 60) dX7_adds_59 rfl rfl ?_
    refine J_getR (pc' := 63) dX7_adds_60 fl_7_31 (ly_68) (l84_68) rfl rfl ?_
    refine J_iconst (v := 5) (pc' := 64) dX7_adds_63 (by decide) rfl ?_
    refine J_iload (pc' := 66) dX7_adds_64 rfl rfl ?_
    refine J_imul (pc' := 67) dX7_adds_66 rfl ?_
    refine J_dup2 (pc' := 68) dX7_adds_67 rfl rfl rfl ?_
    refine J_lald (5 * f) (pc' := 69) dX7_adds_68 (ly_76) (l84_76) (by rw [ef]; exact jmul nIc_5 rfl) (by omega) (by decide) rfl ?_
    refine J_lload_n (pc' := 70) dX7_adds_69 rfl rfl ?_
    refine J_ladd (pc' := 71) dX7_adds_70 rfl ?_
    refine J_last (5 * f) (pc' := 72) dX7_adds_71 (ly_76) (l84_76) (by rw [ef]; exact jmul nIc_5 rfl) (by omega) (by decide) rfl ?_
    refine J_aload_n (pc' := 73) dX7_adds_72 rfl rfl ?_
    refine J_getR (pc' := 76) dX7_adds_73 fl_7_31 (ly_68) (l84_68) rfl rfl ?_
    refine J_iconst (v := 4) (pc' := 77) dX7_adds_76 (by decide) rfl ?_
    refine J_iload (pc' := 79) dX7_adds_77 rfl rfl ?_
    refine J_imul (pc' := 80) dX7_adds_79 rfl ?_
    refine J_iload (pc' := 82) dX7_adds_80 rfl rfl ?_
    refine J_iadd (pc' := 83) dX7_adds_82 rfl ?_
    refine J_dup2 (pc' := 84) dX7_adds_83 rfl rfl rfl ?_
    refine J_lald (4 * f + g) (pc' := 85) dX7_adds_84 (ly_76) (l84_76) (by rw [ef, eg]; exact jadd (jmul nIc_4 rfl) rfl) (by omega) (by decide) rfl ?_
    refine J_lload_n (pc' := 86) dX7_adds_85 rfl rfl ?_
    refine J_lsub (pc' := 87) dX7_adds_86 rfl ?_
    refine J_last (4 * f + g) (pc' := 88) dX7_adds_87 (ly_76) (l84_76) (by rw [ef, eg]; exact jadd (jmul nIc_4 rfl) rfl) (by omega) (by decide) rfl ?_
    refine J_aload_n (pc' := 89) dX7_adds_88 rfl rfl ?_
    refine J_getR (pc' := 92) dX7_adds_89 fl_7_31 (ly_68) (l84_68) rfl rfl ?_
    refine J_iconst (v := 4) (pc' := 93) dX7_adds_92 (by decide) rfl ?_
    refine J_iload (pc' := 95) dX7_adds_93 rfl rfl ?_
    refine J_imul (pc' := 96) dX7_adds_95 rfl ?_
    refine J_iload (pc' := 98) dX7_adds_96 rfl rfl ?_
    refine J_iadd (pc' := 99) dX7_adds_98 rfl ?_
    refine J_dup2 (pc' := 100) dX7_adds_99 rfl rfl rfl ?_
    refine J_lald (4 * g + f) (pc' := 101) dX7_adds_100 (ly_76) (l84_76) (by rw [ef, eg]; exact jadd (jmul nIc_4 rfl) rfl) (by omega) (by decide) rfl ?_
    refine J_lload_n (pc' := 102) dX7_adds_101 rfl rfl ?_
    refine J_lsub (pc' := 103) dX7_adds_102 rfl ?_
    refine J_last (4 * g + f) (pc' := 104) dX7_adds_103 (ly_76) (l84_76) (by rw [ef, eg]; exact jadd (jmul nIc_4 rfl) rfl) (by omega) (by decide) rfl ?_
    refine J_aload_n (pc' := 105) dX7_adds_104 rfl rfl ?_
    refine J_getR (pc' := 108) dX7_adds_105 fl_7_35 (ly_68) (l84_68) rfl rfl ?_
    refine J_iload (pc' := 110) dX7_adds_108 rfl rfl ?_
    refine J_dup2 (pc' := 111) dX7_adds_110 rfl rfl rfl ?_
    refine J_lald f (pc' := 112) dX7_adds_111 (ly_77) (l84_77) ef hf (by decide) rfl ?_
    refine J_lload_n (pc' := 113) dX7_adds_112 rfl rfl ?_
    refine J_aload_n (pc' := 114) dX7_adds_113 rfl rfl ?_
    refine J_iload_n (pc' := 115) dX7_adds_114 rfl rfl ?_
    refine J_V1v (pc' := 118) dX7_adds_115 lk_7_93 cd_X7_saysOf (k_msyF (w := w) (by rfl) hI hT hk) (ly_68) (l84_68) rfl rfl (jroom_of rfl) (Nat.le_of_ble_eq_true rfl) rfl ?_
    refine J_i2l (pc' := 119) dX7_adds_118 rfl ?_
    refine J_lmul (pc' := 120) dX7_adds_119 rfl ?_
    refine J_lsub (pc' := 121) dX7_adds_120 rfl ?_
    refine J_last f (pc' := 122) dX7_adds_121 (ly_77) (l84_77) ef hf (by decide) rfl ?_
    exact J_vret dX7_adds_122  ⟨rfl, ((((((mF.rf w).set (by decide)).set (by decide)).set (by decide)).set (by decide)).set (by decide)).set (by decide), by unfold mAdd; rw [hng, hnf, if_neg h_56]; exact ((((((hq.ad (by omega) _).ra hg _).ad (i := 5 * f) (by omega) _).sb (i := 4 * f + g) (by omega) _).sb (i := 4 * g + f) (by omega) _).rb hf _)⟩
