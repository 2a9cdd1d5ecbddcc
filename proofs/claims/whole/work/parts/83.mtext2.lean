/-! ===== the reference: text, the call ===== -/
/-! ===== the reference: text, the call ===== -/
theorem txR_0 {f a v : Nat → Int32} {A n : Nat} : upd f A (nI n) = txR f a v A n 0 := by
  funext i
  unfold upd txR
  by_cases e : i = A
  · rw [if_pos e, if_pos e]
  · rw [if_neg e, if_neg e, if_neg (by omega), if_neg (by omega)]
theorem mT_txt {r a v : Nat → Int32} {n u : Nat} (hu : u < 2) (hn : n ≤ 60) (hI : sInv (abM r)) (hT : mT r) (ha : ∀ j, j < n → mTk (a j) (v j)) : mT (txR (upd r 6 0) a v (140 + 121 * u) n n) := fun x hx j hj => by
  have hc := (hI.2.2.2.2.2.2.2.2.2.1 x hx).2.1
  have e : nn (r (140 + 121 * x)) = sC (abM r) x := by
    obtain rfl | rfl : x = 0 ∨ x = 1 := by omega
    · rfl
    · rfl
  by_cases ex : x = u
  · subst ex
    have e1 : txR (upd r 6 0) a v (140 + 121 * x) n n (140 + 121 * x) = nI n := if_pos rfl
    rw [e1, nn_nI (by omega)] at hj
    have e2 : txR (upd r 6 0) a v (140 + 121 * x) n n (141 + 121 * x + j) = a j := by unfold txR; rw [if_neg (by omega), if_pos (by omega), show 141 + 121 * x + j - (140 + 121 * x + 1) = j by omega]
    have e3 : txR (upd r 6 0) a v (140 + 121 * x) n n (201 + 121 * x + j) = v j := by unfold txR; rw [if_neg (by omega), if_neg (by omega), if_pos (by omega), show 201 + 121 * x + j - (140 + 121 * x + 61) = j by omega]
    rw [e2, e3]
    exact ha j hj
  · have o : ∀ i, 140 ≤ i → (i < 140 + 121 * u ∨ 140 + 121 * u + 120 < i) → txR (upd r 6 0) a v (140 + 121 * u) n n i = r i := fun i h1 h2 => by unfold txR; rw [if_neg (by omega), if_neg (by omega), if_neg (by omega), upd_ne _ _ (by omega)]
    rw [o _ (by omega) (by omega)] at hj
    rw [o _ (by omega) (by omega), o _ (by omega) (by omega)]
    exact hT x hx j hj
theorem mOk.rf (w : jWd) : mOk w w := ⟨fun _ _ _ _ => rfl, fun _ _ => rfl, rfl⟩
theorem mRes_0 {w : jWd} : mRes w (jset (jset (jset (jset w 68 16 0) 68 17 0) 68 18 0) 68 19 0) 0 (true, (0, 0, fun _ => 0)) :=
  ⟨((((mOk.rf w).s68 (by omega)).s68 (by omega)).s68 (by omega)).s68 (by omega), nIc_0, nIc_0, Nat.zero_le _, rfl, ⟨0, Nat.zero_le _, nIc_0⟩, fun _ => ⟨nIc_0, Nat.zero_le _, fun j hj => absurd hj (Nat.not_lt_zero j)⟩⟩
set_option maxHeartbeats 4000000 in
set_option maxRecDepth 100000 in
theorem l_mtx {G : jG} {wb : jWd} {x : Int32} {A n0 : Nat} (hA : A ≤ 261) (hn0 : n0 ≤ 60) (h16 : wb.1 68 16 = nI n0) {Q : Option Value → jWd → Prop} (hQ : ∀ w2, (∀ a, a ≠ 69 → w2.1 a = wb.1 a) → w2.2 = wb.2 → w2.1 69 = txR (wb.1 69) (wb.1 79) (wb.1 80) A n0 n0 → Q (some (.int 1)) w2) : ∀ n j : Nat, j + n = n0 → ∀ (w2 : jWd) (_ : ∀ a, a ≠ 69 → w2.1 a = wb.1 a) (_ : w2.2 = wb.2) (_ : w2.1 69 = txR (wb.1 69) (wb.1 79) (wb.1 80) A n0 j), J G (jM G 45 RX7 cX7_text 4 (some .int) (Q)) w2 119 [some (.ref 68), some (.int x), some (.int (nI A)), some (.int (nI j))] [] := by
  intro n
  induction n with
  | zero =>
    intro j hj w2 fr fL hr
    have h16w : w2.1 68 16 = nI n0 := by rw [fr 68 (by decide)]; exact h16
    refine J_iload_n (pc' := 120) dX7_text_119 rfl rfl ?_
    refine J_aload_n (pc' := 121) dX7_text_120 rfl rfl ?_
    refine J_getI (pc' := 124) dX7_text_121 fl_7_148 (ly_68) (l84_68) rfl rfl ?_
    refine J_icmp_ge 166 (pc' := 127) dX7_text_124 (by decide) rfl (fun h_124 => ?_) (fun h_124 => absurd (by rw [h16w]; exact nI_le (by omega) (by omega)) h_124)
    refine J_iconst (v := 1) (pc' := 167) dX7_text_166 (by decide) rfl ?_
    obtain rfl : j = n0 := by omega
    exact J_iret dX7_text_167  (hQ w2 fr fL hr)
  | succ n ih =>
    intro j hj w2 fr fL hr
    have h16w : w2.1 68 16 = nI n0 := by rw [fr 68 (by decide)]; exact h16
    refine J_iload_n (pc' := 120) dX7_text_119 rfl rfl ?_
    refine J_aload_n (pc' := 121) dX7_text_120 rfl rfl ?_
    refine J_getI (pc' := 124) dX7_text_121 fl_7_148 (ly_68) (l84_68) rfl rfl ?_
    refine J_icmp_ge 166 (pc' := 127) dX7_text_124 (by decide) rfl (fun h_124 => absurd h_124 (by rw [h16w]; exact nI_ge (by omega) (by omega))) (fun h_124 => ?_)
    refine J_aload_n (pc' := 128) dX7_text_127 rfl rfl ?_
    refine J_getR (pc' := 131) dX7_text_128 fl_7_9 (ly_68) (l84_68) rfl rfl ?_
    refine J_iload_n (pc' := 132) dX7_text_131 rfl rfl ?_
    refine J_iconst (v := 1) (pc' := 133) dX7_text_132 (by decide) rfl ?_
    refine J_iadd (pc' := 134) dX7_text_133 rfl ?_
    refine J_iload_n (pc' := 135) dX7_text_134 rfl rfl ?_
    refine J_iadd (pc' := 136) dX7_text_135 rfl ?_
    refine J_aload_n (pc' := 137) dX7_text_136 rfl rfl ?_
    refine J_getR (pc' := 140) dX7_text_137 fl_7_41 (ly_68) (l84_68) rfl rfl ?_
    refine J_iload_n (pc' := 141) dX7_text_140 rfl rfl ?_
    refine J_iald j (pc' := 142) dX7_text_141 (ly_79) (l84_79) rfl (by omega) (by decide) rfl ?_
    refine J_iast (A + 1 + j) (pc' := 143) dX7_text_142 (ly_69) (l84_69) (jadd (jadd rfl nIc_1) rfl) (by omega) (by decide) rfl ?_
    refine J_aload_n (pc' := 144) dX7_text_143 rfl rfl ?_
    refine J_getR (pc' := 147) dX7_text_144 fl_7_9 (ly_68) (l84_68) rfl rfl ?_
    refine J_iload_n (pc' := 148) dX7_text_147 rfl rfl ?_
    refine J_bipush (v := 61) (pc' := 150) dX7_text_148 (by decide) rfl ?_
    refine J_iadd (pc' := 151) dX7_text_150 rfl ?_
    refine J_iload_n (pc' := 152) dX7_text_151 rfl rfl ?_
    refine J_iadd (pc' := 153) dX7_text_152 rfl ?_
    refine J_aload_n (pc' := 154) dX7_text_153 rfl rfl ?_
    refine J_getR (pc' := 157) dX7_text_154 fl_7_44 (ly_68) (l84_68) rfl rfl ?_
    refine J_iload_n (pc' := 158) dX7_text_157 rfl rfl ?_
    refine J_iald j (pc' := 159) dX7_text_158 (ly_80) (l84_80) rfl (by omega) (by decide) rfl ?_
    refine J_iast (A + 61 + j) (pc' := 160) dX7_text_159 (ly_69) (l84_69) (jadd (jadd rfl (show (61 : Int32) = nI 61 by decide)) rfl) (by omega) (by decide) rfl ?_
    refine J_iinc (pc' := 163) dX7_text_160 rfl (Nat.le_of_ble_eq_true rfl) (jst3 rfl rfl) rfl ?_
    refine J_goto (pc' := 0) 119 dX7_text_163 (by decide) ?_
    have e80 : (jset w2 69 (A + 1 + j) (w2.1 79 j)).1 80 j = w2.1 80 j := by rw [jset_off (by decide)]
    rw [e80]
    have h2 := ih (j + 1) (by omega) (jset (jset w2 69 (A + 1 + j) (w2.1 79 j)) 69 (A + 61 + j) (w2.1 80 j)) (fun a q => by rw [jset_off q, jset_off q]; exact fr a q) fL (by
        rw [jset_at, jset_at, hr, fr 79 (by decide), fr 80 (by decide)]
        exact txR_s (by omega))
    rw [← z1 j] at h2
    exact h2
set_option maxHeartbeats 4000000 in
set_option maxRecDepth 100000 in
theorem b_X7_text {G : jG} {w : jWd} (hV : MInv w) (hI : sInv (abM (w.1 69))) {x : Int32} : jKp G 45 yX7_text cX7_text 4 (some .int) [.ref 68, .int x] w (some (.int (sq_text (abM (w.1 69)) (abM (w.1 70)) (restM w) x).1)) (fun w' => RQ w w' (sq_text (abM (w.1 69)) (abM (w.1 70)) (restM w) x).2) := by
  have hf6 := sIF hI
  have hT := hV.1
  refine jK_of (own := RX7) [some (.ref 68), some (.int x), none, none] pn7 rfl (Nat.le_of_ble_eq_true rfl) rfl ?_
  refine J_iload_n (pc' := 1) dX7_text_0 rfl rfl ?_
  refine J_iconst (v := 0) (pc' := 2) dX7_text_1 (by decide) rfl ?_
  refine J_iconst (v := 1) (pc' := 3) dX7_text_2 (by decide) rfl ?_
  refine J_S3v (pc' := 6) dX7_text_3 lk_7_61 cd_X7_in (k_X7_in) (jroom_of rfl) (Nat.le_of_ble_eq_true rfl) rfl ?_
  refine J_if_ne 16 (pc' := 9) dX7_text_6 (by decide) rfl (fun h_6 => ?_) (fun h_6 => ?_)
  · obtain ⟨u, hu0, hu1, rfl⟩ := nI_wi (a := 0) (b := 1) (by decide) (by decide) (jb_n h_6)
    obtain rfl | rfl : u = 0 ∨ u = 1 := by omega
    · refine J_aload_n (pc' := 17) dX7_text_16 rfl rfl ?_
      refine J_iload_n (pc' := 18) dX7_text_17 rfl rfl ?_
      refine J_putI (pc' := 21) dX7_text_18 fp_7_151 (ly_68) (l84_68) rfl rfl ?_
      refine J_aload_n (pc' := 22) dX7_text_21 rfl rfl ?_
      refine J_iconst (v := 0) (pc' := 23) dX7_text_22 (by decide) rfl ?_
      refine J_putI (pc' := 26) dX7_text_23 fp_7_148 (ly_68) (l84_68) rfl rfl ?_
      refine J_aload_n (pc' := 27) dX7_text_26 rfl rfl ?_
      refine J_iconst (v := 0) (pc' := 28) dX7_text_27 (by decide) rfl ?_
      refine J_putI (pc' := 31) dX7_text_28 fp_7_144 (ly_68) (l84_68) rfl rfl ?_
      refine J_aload_n (pc' := 32) dX7_text_31 rfl rfl ?_
      refine J_iconst (v := 0) (pc' := 33) dX7_text_32 (by decide) rfl ?_
      refine J_putI (pc' := 36) dX7_text_33 fp_7_165 (ly_68) (l84_68) rfl rfl ?_
      refine J_aload_n (pc' := 37) dX7_text_36 rfl rfl ?_
      refine J_iconst (v := 0) (pc' := 38) dX7_text_37 (by decide) rfl ?_
      refine J_putZ (pc' := 41) dX7_text_38 fp_7_157 (ly_68) (l84_68) rfl (by decide) rfl ?_
      have hG : mGl (jset w 68 20 (nI 0)) (nn ((abM (w.1 69)) 6 6)) 0 := ⟨by rw [jset_off (by decide)]; exact hf6.1, hf6.2, by rw [jset_1, if_pos rfl, if_pos rfl], by decide⟩
      refine J_aload_n (pc' := 42) dX7_text_41 rfl rfl ?_
      refine J_V0w (pc' := 45) dX7_text_42 lk_7_171 cd_X7_any (mp_all (f := (nn ((abM (w.1 69)) 6 6))) (i := 0) hG _ _ mRes_0) (ly_68) (l84_68) rfl rfl (jroom_of rfl) (Nat.le_of_ble_eq_true rfl) rfl (fun w42 hw42 => ?_)
      have hR : mRes (jset w 68 20 (nI 0)) w42 0 (pAll (mTP w) (nn ((abM (w.1 69)) 6 6)) 0 (fun _ => 0)) := hw42
      have hE := sRead_m hI (u := 0)
      have h69 : w42.1 69 = w.1 69 := (hR.1.1 69 (by decide) (by decide) (by decide)).trans (jset_off (by decide))
      have h17 := hR.2.2.1
      have hat := pAll_up (tp := mTP w) (f := (nn ((abM (w.1 69)) 6 6))) (i := 0) (st := fun _ => 0)
      have hf60 := hf6.2
      have hoff : ∀ a, a ≠ 68 → a ≠ 69 → a ≠ 79 → a ≠ 80 → w42.1 a = w.1 a := fun a q1 q2 q3 q4 => (hR.1.1 a q1 q3 q4).trans (jset_off q1)
      have h68 : ∀ k, k < 16 ∨ 21 ≤ k → w42.1 68 k = w.1 68 k := fun k q => (hR.1.2.1 k (by omega)).trans (by rw [jset_1, if_pos rfl, if_neg (by omega)])
      have hLL : w42.2 = w.2 := hR.1.2.2
      have hge : nI (nn ((abM (w.1 69)) 6 6)) ≤ nI (pAll (mTP w) (nn ((abM (w.1 69)) 6 6)) 0 (fun _ => 0)).2.1 ↔ (nn ((abM (w.1 69)) 6 6)) ≤ (pAll (mTP w) (nn ((abM (w.1 69)) 6 6)) 0 (fun _ => 0)).2.1 := nI_leI (by omega) (by omega)
      have hC : ((pAll (mTP w) (nn ((abM (w.1 69)) 6 6)) 0 (fun _ => 0)).1 = true ∧ (pAll (mTP w) (nn ((abM (w.1 69)) 6 6)) 0 (fun _ => 0)).2.1 = (nn ((abM (w.1 69)) 6 6))) ↔ ((sRead (abM (w.1 69)) 0).1 = true ∧ (sRead (abM (w.1 69)) 0).2.1 = (nn ((abM (w.1 69)) 6 6))) := by rw [hE.1, hE.2.1]
      refine J_aload_n (pc' := 46) dX7_text_45 rfl rfl ?_
      refine J_aload_n (pc' := 47) dX7_text_46 rfl rfl ?_
      refine J_getI (pc' := 50) dX7_text_47 fl_7_157 (ly_68) (l84_68) rfl rfl ?_
      refine J_if_ne 67 (pc' := 53) dX7_text_50 (by decide) rfl (fun h_50 => ?_) (fun h_50 => ?_)
      · refine J_iconst (v := 1) (pc' := 68) dX7_text_67 (by decide) rfl ?_
        refine J_goto (pc' := 0) 72 dX7_text_68 (by decide) ?_
        refine J_putZ (pc' := 75) dX7_text_72 fp_7_157 (ly_68) (l84_68) rfl (by decide) rfl ?_
        have hno : ¬ ((pAll (mTP w) (nn ((abM (w.1 69)) 6 6)) 0 (fun _ => 0)).1 = true ∧ (pAll (mTP w) (nn ((abM (w.1 69)) 6 6)) 0 (fun _ => 0)).2.1 = (nn ((abM (w.1 69)) 6 6))) := fun q => by first | exact h_50 (hR.b0.mpr q.1) | exact h_64 (hge.mpr (by omega))
        refine J_aload_n (pc' := 76) dX7_text_75 rfl rfl ?_
        refine J_getR (pc' := 79) dX7_text_76 fl_7_9 (ly_68) (l84_68) rfl rfl ?_
        refine J_bipush (v := 6) (pc' := 81) dX7_text_79 (by decide) rfl ?_
        refine J_iconst (v := 0) (pc' := 82) dX7_text_81 (by decide) rfl ?_
        refine J_iast 6 (pc' := 83) dX7_text_82 (ly_69) (l84_69) nIc_6 (by decide) (by decide) rfl ?_
        refine J_aload_n (pc' := 84) dX7_text_83 rfl rfl ?_
        refine J_getI (pc' := 87) dX7_text_84 fl_7_157 (ly_68) (l84_68) rfl rfl ?_
        refine J_if_eq 98 (pc' := 90) dX7_text_87 (by decide) rfl (fun h_87 => absurd h_87 (by rw [jset_off (by decide), jset_1, if_pos rfl, if_pos rfl]; decide)) (fun h_87 => ?_)
        refine J_bipush (v := (-10)) (pc' := 92) dX7_text_90 (by decide) rfl ?_
        refine J_aload_n (pc' := 93) dX7_text_92 rfl rfl ?_
        refine J_getI (pc' := 96) dX7_text_93 fl_7_144 (ly_68) (l84_68) rfl rfl ?_
        rw [show (jset (jset w42 68 19 1) 69 6 0).1 68 17 = w42.1 68 17 from by rw [jset_off (by decide), jset_1, if_pos rfl, if_neg (by decide)], h17]
        refine J_isub (pc' := 97) dX7_text_96 rfl ?_
        have hB := mq_read (w2 := (jset (jset w42 68 19 1) 69 6 0)) hV (fun a q1 q2 q3 q4 => by rw [jset_off q2, jset_off q1]; exact hoff a q1 q2 q3 q4) (fun k q => by rw [jset_off (by decide), jset_1, if_pos rfl, if_neg (by omega)]; exact h68 k q) hLL (by rw [jset_at, jset_off (by decide), h69]; exact mT_congr (fun i q => upd_ne _ _ (by omega)) hT) (show abM _ = sg1 (abM (w.1 69)) 6 6 0 from by rw [amc6, jset_off (by decide), h69])
        exact J_iret dX7_text_97  (by unfold sq_text; rw [if_pos (show 0 ≤ nI 0 ∧ nI 0 ≤ 1 from jb_n h_6), nn_nI (by omega), if_neg (fun q => hno (hC.mpr q)), ← hE.2.1]; dsimp only; exact ⟨rfl, hB⟩)
      · refine J_aload_n (pc' := 54) dX7_text_53 rfl rfl ?_
        refine J_getI (pc' := 57) dX7_text_54 fl_7_144 (ly_68) (l84_68) rfl rfl ?_
        rw [h17]
        refine J_aload_n (pc' := 58) dX7_text_57 rfl rfl ?_
        refine J_getR (pc' := 61) dX7_text_58 fl_7_9 (ly_68) (l84_68) rfl rfl ?_
        refine J_bipush (v := 6) (pc' := 63) dX7_text_61 (by decide) rfl ?_
        refine J_iald 6 (pc' := 64) dX7_text_63 (ly_69) (l84_69) nIc_6 (by decide) (by decide) rfl ?_
        rw [show w42.1 69 6 = nI (nn ((abM (w.1 69)) 6 6)) from by rw [h69]; exact hf6.1]
        refine J_icmp_ge 71 (pc' := 67) dX7_text_64 (by decide) rfl (fun h_64 => ?_) (fun h_64 => ?_)
        · refine J_iconst (v := 0) (pc' := 72) dX7_text_71 (by decide) rfl ?_
          refine J_putZ (pc' := 75) dX7_text_72 fp_7_157 (ly_68) (l84_68) rfl (by decide) rfl ?_
          have hr1 := hR.b0.mp (by first | exact h_50 | exact Decidable.not_not.mp h_50)
          have hyes : (pAll (mTP w) (nn ((abM (w.1 69)) 6 6)) 0 (fun _ => 0)).1 = true ∧ (pAll (mTP w) (nn ((abM (w.1 69)) 6 6)) 0 (fun _ => 0)).2.1 = (nn ((abM (w.1 69)) 6 6)) := ⟨hr1, by have := hge.mp h_64; omega⟩
          obtain ⟨g1, g2, g3⟩ := hR.2.2.2.2.2.2 hr1
          refine J_aload_n (pc' := 76) dX7_text_75 rfl rfl ?_
          refine J_getR (pc' := 79) dX7_text_76 fl_7_9 (ly_68) (l84_68) rfl rfl ?_
          refine J_bipush (v := 6) (pc' := 81) dX7_text_79 (by decide) rfl ?_
          refine J_iconst (v := 0) (pc' := 82) dX7_text_81 (by decide) rfl ?_
          refine J_iast 6 (pc' := 83) dX7_text_82 (ly_69) (l84_69) nIc_6 (by decide) (by decide) rfl ?_
          refine J_aload_n (pc' := 84) dX7_text_83 rfl rfl ?_
          refine J_getI (pc' := 87) dX7_text_84 fl_7_157 (ly_68) (l84_68) rfl rfl ?_
          refine J_if_eq 98 (pc' := 90) dX7_text_87 (by decide) rfl (fun h_87 => ?_) (fun h_87 => absurd (by rw [jset_off (by decide), jset_1, if_pos rfl, if_pos rfl]) h_87)
          refine J_sipush (v := 140) (pc' := 101) dX7_text_98 (by decide) rfl ?_
          refine J_bipush (v := 121) (pc' := 103) dX7_text_101 (by decide) rfl ?_
          refine J_iload_n (pc' := 104) dX7_text_103 rfl rfl ?_
          refine J_imul (pc' := 105) dX7_text_104 rfl ?_
          refine J_iadd (pc' := 106) dX7_text_105 rfl ?_
          rw [show (140 : Int32) + 121 * nI 0 = nI 140 from by decide]
          refine J_istore_n (pc' := 107) dX7_text_106 (Nat.le_of_ble_eq_true rfl) (jst2 rfl rfl) rfl ?_
          refine J_aload_n (pc' := 108) dX7_text_107 rfl rfl ?_
          refine J_getR (pc' := 111) dX7_text_108 fl_7_9 (ly_68) (l84_68) rfl rfl ?_
          refine J_iload_n (pc' := 112) dX7_text_111 rfl rfl ?_
          refine J_aload_n (pc' := 113) dX7_text_112 rfl rfl ?_
          refine J_getI (pc' := 116) dX7_text_113 fl_7_148 (ly_68) (l84_68) rfl rfl ?_
          rw [show (jset (jset w42 68 19 0) 69 6 0).1 68 16 = w42.1 68 16 from by rw [jset_off (by decide), jset_1, if_pos rfl, if_neg (by decide)], g1]
          refine J_iast 140 (pc' := 117) dX7_text_116 (ly_69) (l84_69) rfl (by decide) (by decide) rfl ?_
          refine J_iconst (v := 0) (pc' := 118) dX7_text_117 (by decide) rfl ?_
          refine J_istore_n (pc' := 119) dX7_text_118 (Nat.le_of_ble_eq_true rfl) (jst3 rfl rfl) rfl ?_
          have hb69 : (jset (jset w42 68 19 0) 69 6 0).1 69 = upd (w.1 69) 6 0 := by rw [jset_at, jset_off (by decide), h69]
          have hb79 : (jset (jset w42 68 19 0) 69 6 0).1 79 = w42.1 79 := by rw [jset_off (by decide), jset_off (by decide)]
          have hb80 : (jset (jset w42 68 19 0) 69 6 0).1 80 = w42.1 80 := by rw [jset_off (by decide), jset_off (by decide)]
          refine l_mtx (wb := (jset (jset w42 68 19 0) 69 6 0)) (A := 140) (n0 := (pAll (mTP w) (nn ((abM (w.1 69)) 6 6)) 0 (fun _ => 0)).2.2.1) (by decide) g2 (by rw [jset_off (by decide), jset_1, if_pos rfl, if_neg (by decide)]; exact g1) (fun w2 q1 q2 q3 => ?_) (pAll (mTP w) (nn ((abM (w.1 69)) 6 6)) 0 (fun _ => 0)).2.2.1 0 (by omega) _ (fun a q => jset_off q) rfl (by rw [jset_at]; exact txR_0)
          rw [hb69, hb79, hb80] at q3
          have hst : ∀ j, j < (pAll (mTP w) (nn ((abM (w.1 69)) 6 6)) 0 (fun _ => 0)).2.2.1 → sEnc (w42.1 79 j) (w42.1 80 j) = (sRead (abM (w.1 69)) 0).2.2.2 j := fun j hj => (g3 j hj).2.trans (hE.2.2.2 j hj)
          have hA2 : abM (w2.1 69) = sTxt (abM (w.1 69)) 0 (sRead (abM (w.1 69)) 0).2.2.2 (sRead (abM (w.1 69)) 0).2.2.1 := by rw [q3, ← hE.2.2.1]; exact am_txt0 g2 (hI.2.2.2.2.2.2.2.2.2.1 0 (by decide)).2.1 hst
          have hB := mq_read (w2 := w2) hV (fun a e1 e2 e3 e4 => by rw [q1 a e2, jset_off e2, jset_off e1]; exact hoff a e1 e2 e3 e4) (fun k q => by rw [q1 68 (by decide), jset_off (by decide), jset_1, if_pos rfl, if_neg (by omega)]; exact h68 k q) (q2.trans hLL) (by rw [q3]; exact mT_txt (u := 0) (by decide) g2 hI hT (fun j hj => (g3 j hj).1)) hA2
          unfold sq_text
          rw [if_pos (show 0 ≤ nI 0 ∧ nI 0 ≤ 1 from jb_n h_6), nn_nI (by omega), if_pos (hC.mp hyes)]
          dsimp only
          exact ⟨rfl, hB⟩
        · refine J_iconst (v := 1) (pc' := 68) dX7_text_67 (by decide) rfl ?_
          refine J_goto (pc' := 0) 72 dX7_text_68 (by decide) ?_
          refine J_putZ (pc' := 75) dX7_text_72 fp_7_157 (ly_68) (l84_68) rfl (by decide) rfl ?_
          have hno : ¬ ((pAll (mTP w) (nn ((abM (w.1 69)) 6 6)) 0 (fun _ => 0)).1 = true ∧ (pAll (mTP w) (nn ((abM (w.1 69)) 6 6)) 0 (fun _ => 0)).2.1 = (nn ((abM (w.1 69)) 6 6))) := fun q => by first | exact h_50 (hR.b0.mpr q.1) | exact h_64 (hge.mpr (by omega))
          refine J_aload_n (pc' := 76) dX7_text_75 rfl rfl ?_
          refine J_getR (pc' := 79) dX7_text_76 fl_7_9 (ly_68) (l84_68) rfl rfl ?_
          refine J_bipush (v := 6) (pc' := 81) dX7_text_79 (by decide) rfl ?_
          refine J_iconst (v := 0) (pc' := 82) dX7_text_81 (by decide) rfl ?_
          refine J_iast 6 (pc' := 83) dX7_text_82 (ly_69) (l84_69) nIc_6 (by decide) (by decide) rfl ?_
          refine J_aload_n (pc' := 84) dX7_text_83 rfl rfl ?_
          refine J_getI (pc' := 87) dX7_text_84 fl_7_157 (ly_68) (l84_68) rfl rfl ?_
          refine J_if_eq 98 (pc' := 90) dX7_text_87 (by decide) rfl (fun h_87 => absurd h_87 (by rw [jset_off (by decide), jset_1, if_pos rfl, if_pos rfl]; decide)) (fun h_87 => ?_)
          refine J_bipush (v := (-10)) (pc' := 92) dX7_text_90 (by decide) rfl ?_
          refine J_aload_n (pc' := 93) dX7_text_92 rfl rfl ?_
          refine J_getI (pc' := 96) dX7_text_93 fl_7_144 (ly_68) (l84_68) rfl rfl ?_
          rw [show (jset (jset w42 68 19 1) 69 6 0).1 68 17 = w42.1 68 17 from by rw [jset_off (by decide), jset_1, if_pos rfl, if_neg (by decide)], h17]
          refine J_isub (pc' := 97) dX7_text_96 rfl ?_
          have hB := mq_read (w2 := (jset (jset w42 68 19 1) 69 6 0)) hV (fun a q1 q2 q3 q4 => by rw [jset_off q2, jset_off q1]; exact hoff a q1 q2 q3 q4) (fun k q => by rw [jset_off (by decide), jset_1, if_pos rfl, if_neg (by omega)]; exact h68 k q) hLL (by rw [jset_at, jset_off (by decide), h69]; exact mT_congr (fun i q => upd_ne _ _ (by omega)) hT) (show abM _ = sg1 (abM (w.1 69)) 6 6 0 from by rw [amc6, jset_off (by decide), h69])
          exact J_iret dX7_text_97  (by unfold sq_text; rw [if_pos (show 0 ≤ nI 0 ∧ nI 0 ≤ 1 from jb_n h_6), nn_nI (by omega), if_neg (fun q => hno (hC.mpr q)), ← hE.2.1]; dsimp only; exact ⟨rfl, hB⟩)
    · refine J_aload_n (pc' := 17) dX7_text_16 rfl rfl ?_
      refine J_iload_n (pc' := 18) dX7_text_17 rfl rfl ?_
      refine J_putI (pc' := 21) dX7_text_18 fp_7_151 (ly_68) (l84_68) rfl rfl ?_
      refine J_aload_n (pc' := 22) dX7_text_21 rfl rfl ?_
      refine J_iconst (v := 0) (pc' := 23) dX7_text_22 (by decide) rfl ?_
      refine J_putI (pc' := 26) dX7_text_23 fp_7_148 (ly_68) (l84_68) rfl rfl ?_
      refine J_aload_n (pc' := 27) dX7_text_26 rfl rfl ?_
      refine J_iconst (v := 0) (pc' := 28) dX7_text_27 (by decide) rfl ?_
      refine J_putI (pc' := 31) dX7_text_28 fp_7_144 (ly_68) (l84_68) rfl rfl ?_
      refine J_aload_n (pc' := 32) dX7_text_31 rfl rfl ?_
      refine J_iconst (v := 0) (pc' := 33) dX7_text_32 (by decide) rfl ?_
      refine J_putI (pc' := 36) dX7_text_33 fp_7_165 (ly_68) (l84_68) rfl rfl ?_
      refine J_aload_n (pc' := 37) dX7_text_36 rfl rfl ?_
      refine J_iconst (v := 0) (pc' := 38) dX7_text_37 (by decide) rfl ?_
      refine J_putZ (pc' := 41) dX7_text_38 fp_7_157 (ly_68) (l84_68) rfl (by decide) rfl ?_
      have hG : mGl (jset w 68 20 (nI 1)) (nn ((abM (w.1 69)) 6 6)) 1 := ⟨by rw [jset_off (by decide)]; exact hf6.1, hf6.2, by rw [jset_1, if_pos rfl, if_pos rfl], by decide⟩
      refine J_aload_n (pc' := 42) dX7_text_41 rfl rfl ?_
      refine J_V0w (pc' := 45) dX7_text_42 lk_7_171 cd_X7_any (mp_all (f := (nn ((abM (w.1 69)) 6 6))) (i := 1) hG _ _ mRes_0) (ly_68) (l84_68) rfl rfl (jroom_of rfl) (Nat.le_of_ble_eq_true rfl) rfl (fun w42 hw42 => ?_)
      have hR : mRes (jset w 68 20 (nI 1)) w42 0 (pAll (mTP w) (nn ((abM (w.1 69)) 6 6)) 1 (fun _ => 0)) := hw42
      have hE := sRead_m hI (u := 1)
      have h69 : w42.1 69 = w.1 69 := (hR.1.1 69 (by decide) (by decide) (by decide)).trans (jset_off (by decide))
      have h17 := hR.2.2.1
      have hat := pAll_up (tp := mTP w) (f := (nn ((abM (w.1 69)) 6 6))) (i := 1) (st := fun _ => 0)
      have hf60 := hf6.2
      have hoff : ∀ a, a ≠ 68 → a ≠ 69 → a ≠ 79 → a ≠ 80 → w42.1 a = w.1 a := fun a q1 q2 q3 q4 => (hR.1.1 a q1 q3 q4).trans (jset_off q1)
      have h68 : ∀ k, k < 16 ∨ 21 ≤ k → w42.1 68 k = w.1 68 k := fun k q => (hR.1.2.1 k (by omega)).trans (by rw [jset_1, if_pos rfl, if_neg (by omega)])
      have hLL : w42.2 = w.2 := hR.1.2.2
      have hge : nI (nn ((abM (w.1 69)) 6 6)) ≤ nI (pAll (mTP w) (nn ((abM (w.1 69)) 6 6)) 1 (fun _ => 0)).2.1 ↔ (nn ((abM (w.1 69)) 6 6)) ≤ (pAll (mTP w) (nn ((abM (w.1 69)) 6 6)) 1 (fun _ => 0)).2.1 := nI_leI (by omega) (by omega)
      have hC : ((pAll (mTP w) (nn ((abM (w.1 69)) 6 6)) 1 (fun _ => 0)).1 = true ∧ (pAll (mTP w) (nn ((abM (w.1 69)) 6 6)) 1 (fun _ => 0)).2.1 = (nn ((abM (w.1 69)) 6 6))) ↔ ((sRead (abM (w.1 69)) 1).1 = true ∧ (sRead (abM (w.1 69)) 1).2.1 = (nn ((abM (w.1 69)) 6 6))) := by rw [hE.1, hE.2.1]
      refine J_aload_n (pc' := 46) dX7_text_45 rfl rfl ?_
      refine J_aload_n (pc' := 47) dX7_text_46 rfl rfl ?_
      refine J_getI (pc' := 50) dX7_text_47 fl_7_157 (ly_68) (l84_68) rfl rfl ?_
      refine J_if_ne 67 (pc' := 53) dX7_text_50 (by decide) rfl (fun h_50 => ?_) (fun h_50 => ?_)
      · refine J_iconst (v := 1) (pc' := 68) dX7_text_67 (by decide) rfl ?_
        refine J_goto (pc' := 0) 72 dX7_text_68 (by decide) ?_
        refine J_putZ (pc' := 75) dX7_text_72 fp_7_157 (ly_68) (l84_68) rfl (by decide) rfl ?_
        have hno : ¬ ((pAll (mTP w) (nn ((abM (w.1 69)) 6 6)) 1 (fun _ => 0)).1 = true ∧ (pAll (mTP w) (nn ((abM (w.1 69)) 6 6)) 1 (fun _ => 0)).2.1 = (nn ((abM (w.1 69)) 6 6))) := fun q => by first | exact h_50 (hR.b0.mpr q.1) | exact h_64 (hge.mpr (by omega))
        refine J_aload_n (pc' := 76) dX7_text_75 rfl rfl ?_
        refine J_getR (pc' := 79) dX7_text_76 fl_7_9 (ly_68) (l84_68) rfl rfl ?_
        refine J_bipush (v := 6) (pc' := 81) dX7_text_79 (by decide) rfl ?_
        refine J_iconst (v := 0) (pc' := 82) dX7_text_81 (by decide) rfl ?_
        refine J_iast 6 (pc' := 83) dX7_text_82 (ly_69) (l84_69) nIc_6 (by decide) (by decide) rfl ?_
        refine J_aload_n (pc' := 84) dX7_text_83 rfl rfl ?_
        refine J_getI (pc' := 87) dX7_text_84 fl_7_157 (ly_68) (l84_68) rfl rfl ?_
        refine J_if_eq 98 (pc' := 90) dX7_text_87 (by decide) rfl (fun h_87 => absurd h_87 (by rw [jset_off (by decide), jset_1, if_pos rfl, if_pos rfl]; decide)) (fun h_87 => ?_)
        refine J_bipush (v := (-10)) (pc' := 92) dX7_text_90 (by decide) rfl ?_
        refine J_aload_n (pc' := 93) dX7_text_92 rfl rfl ?_
        refine J_getI (pc' := 96) dX7_text_93 fl_7_144 (ly_68) (l84_68) rfl rfl ?_
        rw [show (jset (jset w42 68 19 1) 69 6 0).1 68 17 = w42.1 68 17 from by rw [jset_off (by decide), jset_1, if_pos rfl, if_neg (by decide)], h17]
        refine J_isub (pc' := 97) dX7_text_96 rfl ?_
        have hB := mq_read (w2 := (jset (jset w42 68 19 1) 69 6 0)) hV (fun a q1 q2 q3 q4 => by rw [jset_off q2, jset_off q1]; exact hoff a q1 q2 q3 q4) (fun k q => by rw [jset_off (by decide), jset_1, if_pos rfl, if_neg (by omega)]; exact h68 k q) hLL (by rw [jset_at, jset_off (by decide), h69]; exact mT_congr (fun i q => upd_ne _ _ (by omega)) hT) (show abM _ = sg1 (abM (w.1 69)) 6 6 0 from by rw [amc6, jset_off (by decide), h69])
        exact J_iret dX7_text_97  (by unfold sq_text; rw [if_pos (show 0 ≤ nI 1 ∧ nI 1 ≤ 1 from jb_n h_6), nn_nI (by omega), if_neg (fun q => hno (hC.mpr q)), ← hE.2.1]; dsimp only; exact ⟨rfl, hB⟩)
      · refine J_aload_n (pc' := 54) dX7_text_53 rfl rfl ?_
        refine J_getI (pc' := 57) dX7_text_54 fl_7_144 (ly_68) (l84_68) rfl rfl ?_
        rw [h17]
        refine J_aload_n (pc' := 58) dX7_text_57 rfl rfl ?_
        refine J_getR (pc' := 61) dX7_text_58 fl_7_9 (ly_68) (l84_68) rfl rfl ?_
        refine J_bipush (v := 6) (pc' := 63) dX7_text_61 (by decide) rfl ?_
        refine J_iald 6 (pc' := 64) dX7_text_63 (ly_69) (l84_69) nIc_6 (by decide) (by decide) rfl ?_
        rw [show w42.1 69 6 = nI (nn ((abM (w.1 69)) 6 6)) from by rw [h69]; exact hf6.1]
        refine J_icmp_ge 71 (pc' := 67) dX7_text_64 (by decide) rfl (fun h_64 => ?_) (fun h_64 => ?_)
        · refine J_iconst (v := 0) (pc' := 72) dX7_text_71 (by decide) rfl ?_
          refine J_putZ (pc' := 75) dX7_text_72 fp_7_157 (ly_68) (l84_68) rfl (by decide) rfl ?_
          have hr1 := hR.b0.mp (by first | exact h_50 | exact Decidable.not_not.mp h_50)
          have hyes : (pAll (mTP w) (nn ((abM (w.1 69)) 6 6)) 1 (fun _ => 0)).1 = true ∧ (pAll (mTP w) (nn ((abM (w.1 69)) 6 6)) 1 (fun _ => 0)).2.1 = (nn ((abM (w.1 69)) 6 6)) := ⟨hr1, by have := hge.mp h_64; omega⟩
          obtain ⟨g1, g2, g3⟩ := hR.2.2.2.2.2.2 hr1
          refine J_aload_n (pc' := 76) dX7_text_75 rfl rfl ?_
          refine J_getR (pc' := 79) dX7_text_76 fl_7_9 (ly_68) (l84_68) rfl rfl ?_
          refine J_bipush (v := 6) (pc' := 81) dX7_text_79 (by decide) rfl ?_
          refine J_iconst (v := 0) (pc' := 82) dX7_text_81 (by decide) rfl ?_
          refine J_iast 6 (pc' := 83) dX7_text_82 (ly_69) (l84_69) nIc_6 (by decide) (by decide) rfl ?_
          refine J_aload_n (pc' := 84) dX7_text_83 rfl rfl ?_
          refine J_getI (pc' := 87) dX7_text_84 fl_7_157 (ly_68) (l84_68) rfl rfl ?_
          refine J_if_eq 98 (pc' := 90) dX7_text_87 (by decide) rfl (fun h_87 => ?_) (fun h_87 => absurd (by rw [jset_off (by decide), jset_1, if_pos rfl, if_pos rfl]) h_87)
          refine J_sipush (v := 140) (pc' := 101) dX7_text_98 (by decide) rfl ?_
          refine J_bipush (v := 121) (pc' := 103) dX7_text_101 (by decide) rfl ?_
          refine J_iload_n (pc' := 104) dX7_text_103 rfl rfl ?_
          refine J_imul (pc' := 105) dX7_text_104 rfl ?_
          refine J_iadd (pc' := 106) dX7_text_105 rfl ?_
          rw [show (140 : Int32) + 121 * nI 1 = nI 261 from by decide]
          refine J_istore_n (pc' := 107) dX7_text_106 (Nat.le_of_ble_eq_true rfl) (jst2 rfl rfl) rfl ?_
          refine J_aload_n (pc' := 108) dX7_text_107 rfl rfl ?_
          refine J_getR (pc' := 111) dX7_text_108 fl_7_9 (ly_68) (l84_68) rfl rfl ?_
          refine J_iload_n (pc' := 112) dX7_text_111 rfl rfl ?_
          refine J_aload_n (pc' := 113) dX7_text_112 rfl rfl ?_
          refine J_getI (pc' := 116) dX7_text_113 fl_7_148 (ly_68) (l84_68) rfl rfl ?_
          rw [show (jset (jset w42 68 19 0) 69 6 0).1 68 16 = w42.1 68 16 from by rw [jset_off (by decide), jset_1, if_pos rfl, if_neg (by decide)], g1]
          refine J_iast 261 (pc' := 117) dX7_text_116 (ly_69) (l84_69) rfl (by decide) (by decide) rfl ?_
          refine J_iconst (v := 0) (pc' := 118) dX7_text_117 (by decide) rfl ?_
          refine J_istore_n (pc' := 119) dX7_text_118 (Nat.le_of_ble_eq_true rfl) (jst3 rfl rfl) rfl ?_
          have hb69 : (jset (jset w42 68 19 0) 69 6 0).1 69 = upd (w.1 69) 6 0 := by rw [jset_at, jset_off (by decide), h69]
          have hb79 : (jset (jset w42 68 19 0) 69 6 0).1 79 = w42.1 79 := by rw [jset_off (by decide), jset_off (by decide)]
          have hb80 : (jset (jset w42 68 19 0) 69 6 0).1 80 = w42.1 80 := by rw [jset_off (by decide), jset_off (by decide)]
          refine l_mtx (wb := (jset (jset w42 68 19 0) 69 6 0)) (A := 261) (n0 := (pAll (mTP w) (nn ((abM (w.1 69)) 6 6)) 1 (fun _ => 0)).2.2.1) (by decide) g2 (by rw [jset_off (by decide), jset_1, if_pos rfl, if_neg (by decide)]; exact g1) (fun w2 q1 q2 q3 => ?_) (pAll (mTP w) (nn ((abM (w.1 69)) 6 6)) 1 (fun _ => 0)).2.2.1 0 (by omega) _ (fun a q => jset_off q) rfl (by rw [jset_at]; exact txR_0)
          rw [hb69, hb79, hb80] at q3
          have hst : ∀ j, j < (pAll (mTP w) (nn ((abM (w.1 69)) 6 6)) 1 (fun _ => 0)).2.2.1 → sEnc (w42.1 79 j) (w42.1 80 j) = (sRead (abM (w.1 69)) 1).2.2.2 j := fun j hj => (g3 j hj).2.trans (hE.2.2.2 j hj)
          have hA2 : abM (w2.1 69) = sTxt (abM (w.1 69)) 1 (sRead (abM (w.1 69)) 1).2.2.2 (sRead (abM (w.1 69)) 1).2.2.1 := by rw [q3, ← hE.2.2.1]; exact am_txt1 g2 (hI.2.2.2.2.2.2.2.2.2.1 0 (by decide)).2.1 hst
          have hB := mq_read (w2 := w2) hV (fun a e1 e2 e3 e4 => by rw [q1 a e2, jset_off e2, jset_off e1]; exact hoff a e1 e2 e3 e4) (fun k q => by rw [q1 68 (by decide), jset_off (by decide), jset_1, if_pos rfl, if_neg (by omega)]; exact h68 k q) (q2.trans hLL) (by rw [q3]; exact mT_txt (u := 1) (by decide) g2 hI hT (fun j hj => (g3 j hj).1)) hA2
          unfold sq_text
          rw [if_pos (show 0 ≤ nI 1 ∧ nI 1 ≤ 1 from jb_n h_6), nn_nI (by omega), if_pos (hC.mp hyes)]
          dsimp only
          exact ⟨rfl, hB⟩
        · refine J_iconst (v := 1) (pc' := 68) dX7_text_67 (by decide) rfl ?_
          refine J_goto (pc' := 0) 72 dX7_text_68 (by decide) ?_
          refine J_putZ (pc' := 75) dX7_text_72 fp_7_157 (ly_68) (l84_68) rfl (by decide) rfl ?_
          have hno : ¬ ((pAll (mTP w) (nn ((abM (w.1 69)) 6 6)) 1 (fun _ => 0)).1 = true ∧ (pAll (mTP w) (nn ((abM (w.1 69)) 6 6)) 1 (fun _ => 0)).2.1 = (nn ((abM (w.1 69)) 6 6))) := fun q => by first | exact h_50 (hR.b0.mpr q.1) | exact h_64 (hge.mpr (by omega))
          refine J_aload_n (pc' := 76) dX7_text_75 rfl rfl ?_
          refine J_getR (pc' := 79) dX7_text_76 fl_7_9 (ly_68) (l84_68) rfl rfl ?_
          refine J_bipush (v := 6) (pc' := 81) dX7_text_79 (by decide) rfl ?_
          refine J_iconst (v := 0) (pc' := 82) dX7_text_81 (by decide) rfl ?_
          refine J_iast 6 (pc' := 83) dX7_text_82 (ly_69) (l84_69) nIc_6 (by decide) (by decide) rfl ?_
          refine J_aload_n (pc' := 84) dX7_text_83 rfl rfl ?_
          refine J_getI (pc' := 87) dX7_text_84 fl_7_157 (ly_68) (l84_68) rfl rfl ?_
          refine J_if_eq 98 (pc' := 90) dX7_text_87 (by decide) rfl (fun h_87 => absurd h_87 (by rw [jset_off (by decide), jset_1, if_pos rfl, if_pos rfl]; decide)) (fun h_87 => ?_)
          refine J_bipush (v := (-10)) (pc' := 92) dX7_text_90 (by decide) rfl ?_
          refine J_aload_n (pc' := 93) dX7_text_92 rfl rfl ?_
          refine J_getI (pc' := 96) dX7_text_93 fl_7_144 (ly_68) (l84_68) rfl rfl ?_
          rw [show (jset (jset w42 68 19 1) 69 6 0).1 68 17 = w42.1 68 17 from by rw [jset_off (by decide), jset_1, if_pos rfl, if_neg (by decide)], h17]
          refine J_isub (pc' := 97) dX7_text_96 rfl ?_
          have hB := mq_read (w2 := (jset (jset w42 68 19 1) 69 6 0)) hV (fun a q1 q2 q3 q4 => by rw [jset_off q2, jset_off q1]; exact hoff a q1 q2 q3 q4) (fun k q => by rw [jset_off (by decide), jset_1, if_pos rfl, if_neg (by omega)]; exact h68 k q) hLL (by rw [jset_at, jset_off (by decide), h69]; exact mT_congr (fun i q => upd_ne _ _ (by omega)) hT) (show abM _ = sg1 (abM (w.1 69)) 6 6 0 from by rw [amc6, jset_off (by decide), h69])
          exact J_iret dX7_text_97  (by unfold sq_text; rw [if_pos (show 0 ≤ nI 1 ∧ nI 1 ≤ 1 from jb_n h_6), nn_nI (by omega), if_neg (fun q => hno (hC.mpr q)), ← hE.2.1]; dsimp only; exact ⟨rfl, hB⟩)
  · refine J_aload_n (pc' := 10) dX7_text_9 rfl rfl ?_
    refine J_ldc (pc' := 12) dX7_text_10 kc_7_125 rfl ?_
    refine J_V1v (pc' := 15) dX7_text_12 lk_7_126 cd_X7_error (k_merr (k := 1) (by decide) (by decide)) (ly_68) (l84_68) rfl rfl (jroom_of rfl) (Nat.le_of_ble_eq_true rfl) rfl ?_
    exact J_iret dX7_text_15  (by unfold sq_text; rw [if_neg (show ¬ (0 ≤ x ∧ x ≤ 1) from fun q => by first | exact jb_0.mp (by first | exact h_6 | exact Decidable.not_not.mp h_6) q)]; exact ⟨rfl, mq_err hV (by decide)⟩)
