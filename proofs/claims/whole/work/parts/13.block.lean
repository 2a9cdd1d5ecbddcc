/-! ===== blocks: what one asks ===== -/
theorem z1 (a : Nat) : nI a + Int32.ofInt 1 = nI (a + 1) := nI_1 a
theorem zneI {x c : Int32} {k : Int} (h : ¬ x = c) (hk : c.toInt = k) : ¬ x.toInt = k := fun q => h (Int32.toInt_inj.mp (q.trans hk.symm))
theorem zneJ {x c : Int32} {k : Int} (h : ¬ x = c) (hk : c.toInt = k) : ¬ k = x.toInt := fun q => zneI h hk q.symm
theorem ax0 {w : jWd} {b k : Nat} (h : k < 8) : abX w b 0 k = w.1 (b + 1) k := if_pos h
theorem ax1 {w : jWd} {b k : Nat} (h : k < 8) : abX w b 1 k = w.1 (b + 2) k := if_pos h
theorem ax2 {w : jWd} {b k : Nat} (h : k < 8) : abX w b 2 k = w.1 (b + 3) k := if_pos h
theorem ax3 {w : jWd} {b k : Nat} (h : k < 8) : abX w b 3 k = w.1 (b + 4) k := if_pos h
theorem ax4 {w : jWd} {b k : Nat} (h : k < 8) : abX w b 4 k = w.1 (b + 5) k := if_pos h
theorem ax5 {w : jWd} {b k : Nat} (h : k < 8) : abX w b 5 k = (w.1 b 9 >>> (nI k &&& 31)) &&& 1 := if_pos h
theorem zrem {a b : Nat} (ha : a < 2 ^ 31) (hb : b < 2 ^ 31) (h0 : 0 < b) : nI a - nI a / nI b * nI b = nI (a % b) := by
  have hd : nI a / nI b = nI (a / b) := by
    apply Int32.toInt_inj.mp
    rw [Int32.toInt_div_of_ne_right (nI a) (nI b) (fun q => by have h := congrArg Int32.toInt q; rw [nI_toInt hb, show (-1 : Int32).toInt = -1 from by decide] at h; omega)]
    have : a / b ≤ a := Nat.div_le_self _ _
    rw [nI_toInt ha, nI_toInt hb, nI_toInt (by omega)]
    exact Int.ofNat_tdiv a b
  rw [hd]
  have e : nI (a / b) * nI b = nI (a / b * b) := jmul rfl rfl
  rw [e]
  have h1 := Nat.div_add_mod a b
  have h2 : a / b * b ≤ a := Nat.div_mul_le_self a b
  rw [jsub (a := a) (b := a / b * b) rfl rfl h2]
  congr 1
  rw [Nat.mul_comm] at h1
  omega
theorem sIM {σ : sg} (h : sInv σ) : σ 6 0 = nI (sM σ) ∧ sM σ ≤ 8 := h.1
theorem sIP {σ : sg} (h : sInv σ) : σ 6 1 = nI (sP σ) ∧ 1 ≤ sP σ ∧ sP σ ≤ 4 := h.2.1
theorem sIR {σ : sg} (h : sInv σ) : σ 6 2 = nI (sR σ) ∧ sR σ ≤ 1000000 := h.2.2.1
theorem sIk {σ : sg} (h : sInv σ) {k : Nat} (hk : k < sM σ) : sMk σ k := h.2.2.2.2.2.2.2.1 k hk
set_option maxHeartbeats 4000000 in
set_option maxRecDepth 100000 in
theorem k_X0_isOn {G : jG} {w : jWd} {b : Nat} (hb : jB b) {k : Nat} (hk : k < 8) : jKd G 0 yX0_isOn cX0_isOn 2 (some .boolean) [.ref b, .int (nI k)] w (some (.int (jb (abX w b 5 k = 1)))) w := by
  refine jK_of (own := RX0) [some (.ref b), some (.int (nI k))] pn0 rfl (Nat.le_of_ble_eq_true rfl) rfl ?_
  refine J_aload_n (pc' := 1) dX0_isOn_0 rfl rfl ?_
  refine J_getI (pc' := 4) dX0_isOn_1 fl_0_75 (lyb_0 hb) (l84b_0 hb) rfl rfl ?_
  refine J_iload_n (pc' := 5) dX0_isOn_4 rfl rfl ?_
  refine J_ishr (pc' := 6) dX0_isOn_5 rfl ?_
  refine J_iconst (v := 1) (pc' := 7) dX0_isOn_6 (by decide) rfl ?_
  refine J_iand (pc' := 8) dX0_isOn_7 rfl ?_
  refine J_iconst (v := 1) (pc' := 9) dX0_isOn_8 (by decide) rfl ?_
  refine J_icmp_ne 16 (pc' := 12) dX0_isOn_9 (by decide) rfl (fun h_9 => ?_) (fun h_9 => ?_)
  · refine J_iconst (v := 0) (pc' := 17) dX0_isOn_16 (by decide) rfl ?_
    exact J_zret dX0_isOn_17 (Or.inl rfl) ⟨jv (jb_f (by rw [ax5 hk]; exact h_9)).symm, rfl⟩
  · refine J_iconst (v := 1) (pc' := 13) dX0_isOn_12 (by decide) rfl ?_
    refine J_goto (pc' := 0) 17 dX0_isOn_13 (by decide) ?_
    exact J_zret dX0_isOn_17 (Or.inr rfl) ⟨jv (jb_t (by rw [ax5 hk]; exact h_9)).symm, rfl⟩
set_option maxHeartbeats 4000000 in
set_option maxRecDepth 100000 in
theorem k_X0_turn {G : jG} {w : jWd} {b : Nat} (hb : jB b) {k : Nat} {z : Int32} : jKd G 0 yX0_turn cX0_turn 3 none [.ref b, .int (nI k), .int z] w none (jset w b 9 (if z = 0 then w.1 b 9 &&& ((1 <<< (nI k &&& 31)) ^^^ (-1)) else w.1 b 9 ||| 1 <<< (nI k &&& 31))) := by
  refine jK_of (own := RX0) [some (.ref b), some (.int (nI k)), some (.int z)] pn0 rfl (Nat.le_of_ble_eq_true rfl) rfl ?_
  refine J_aload_n (pc' := 1) dX0_turn_0 rfl rfl ?_
  refine J_iload_n (pc' := 2) dX0_turn_1 rfl rfl ?_
  refine J_if_eq 16 (pc' := 5) dX0_turn_2 (by decide) rfl (fun h_2 => ?_) (fun h_2 => ?_)
  · refine J_aload_n (pc' := 17) dX0_turn_16 rfl rfl ?_
    refine J_getI (pc' := 20) dX0_turn_17 fl_0_75 (lyb_0 hb) (l84b_0 hb) rfl rfl ?_
    refine J_iconst (v := 1) (pc' := 21) dX0_turn_20 (by decide) rfl ?_
    refine J_iload_n (pc' := 22) dX0_turn_21 rfl rfl ?_
    refine J_ishl (pc' := 23) dX0_turn_22 rfl ?_
    refine J_iconst (v := -1) (pc' := 24) dX0_turn_23 (by decide) rfl ?_
    refine J_ixor (pc' := 25) dX0_turn_24 rfl ?_
    refine J_iand (pc' := 26) dX0_turn_25 rfl ?_
    refine J_putI (pc' := 29) dX0_turn_26 fp_0_75 (lyb_0 hb) (l84b_0 hb) rfl rfl ?_
    first | (rw [if_pos h_2]; exact J_vret dX0_turn_29  ⟨rfl, rfl⟩) | (rw [if_neg h_2]; exact J_vret dX0_turn_29  ⟨rfl, rfl⟩)
  · refine J_aload_n (pc' := 6) dX0_turn_5 rfl rfl ?_
    refine J_getI (pc' := 9) dX0_turn_6 fl_0_75 (lyb_0 hb) (l84b_0 hb) rfl rfl ?_
    refine J_iconst (v := 1) (pc' := 10) dX0_turn_9 (by decide) rfl ?_
    refine J_iload_n (pc' := 11) dX0_turn_10 rfl rfl ?_
    refine J_ishl (pc' := 12) dX0_turn_11 rfl ?_
    refine J_ior (pc' := 13) dX0_turn_12 rfl ?_
    refine J_goto (pc' := 0) 26 dX0_turn_13 (by decide) ?_
    refine J_putI (pc' := 29) dX0_turn_26 fp_0_75 (lyb_0 hb) (l84b_0 hb) rfl rfl ?_
    first | (rw [if_pos h_2]; exact J_vret dX0_turn_29  ⟨rfl, rfl⟩) | (rw [if_neg h_2]; exact J_vret dX0_turn_29  ⟨rfl, rfl⟩)
set_option maxHeartbeats 4000000 in
set_option maxRecDepth 100000 in
theorem k_X0_starWeighed {G : jG} {w : jWd} {t : Int32} : jKd G 0 yX0_starWeighed cX0_starWeighed 1 (some .int) [.int t] w (some (.int (sStar t))) w := by
  refine jK_of (own := RX0) [some (.int t)] pn0 rfl (Nat.le_of_ble_eq_true rfl) rfl ?_
  refine J_iload_n (pc' := 1) dX0_starWeighed_0 rfl rfl ?_
  refine J_iconst (v := 3) (pc' := 2) dX0_starWeighed_1 (by decide) rfl ?_
  refine J_icmp_le 9 (pc' := 5) dX0_starWeighed_2 (by decide) rfl (fun h_2 => ?_) (fun h_2 => ?_)
  · refine J_iconst (v := 3) (pc' := 10) dX0_starWeighed_9 (by decide) rfl ?_
    exact J_iret dX0_starWeighed_10  ⟨jv (by unfold sStar; rw [if_neg (Int32.not_lt.mpr h_2)]), rfl⟩
  · refine J_iconst (v := 1) (pc' := 6) dX0_starWeighed_5 (by decide) rfl ?_
    refine J_goto (pc' := 0) 10 dX0_starWeighed_6 (by decide) ?_
    exact J_iret dX0_starWeighed_10  ⟨jv (by unfold sStar; rw [if_pos (Int32.not_le.mp h_2)]), rfl⟩
set_option maxHeartbeats 4000000 in
set_option maxRecDepth 100000 in
theorem k_X0_weighed {G : jG} {w : jWd} {b : Nat} (hb : jB b) (hI : sInv (abX w b)) {k : Nat} (hk : k < 8) {t : Int32} : jKd G 1 yX0_weighed cX0_weighed 3 (some .int) [.ref b, .int (nI k), .int t] w (some (.int (sWd (abX w b) k t))) w := by
  have hR : w.1 b 11 = nI (sR (abX w b)) := (sIR hI).1
  have hR2 := (sIR hI).2
  have hq : nI (sR (abX w b)) - nI (sR (abX w b)) / 2 * 2 = nI (sR (abX w b) % 2) := zrem (by omega) (by decide) (by decide)
  refine jK_of (own := RX0) [some (.ref b), some (.int (nI k)), some (.int t)] pn0 rfl (Nat.le_of_ble_eq_true rfl) rfl ?_
  refine J_aload_n (pc' := 1) dX0_weighed_0 rfl rfl ?_
  refine J_getR (pc' := 4) dX0_weighed_1 fl_0_9 (lyb_0 hb) (l84b_0 hb) rfl rfl ?_
  refine J_iload_n (pc' := 5) dX0_weighed_4 rfl rfl ?_
  refine J_iald k (pc' := 6) dX0_weighed_5 (lyb_1 hb) (l84b_1 hb) rfl (by omega) (by decide) rfl ?_
  by_cases e6_1 : w.1 (b + 1) k = 1
  · refine J_tabIn (pc' := 0) (off := 38) 44 dX0_weighed_6 (by rw [e6_1]; decide) (by rw [e6_1]; decide) (by rw [e6_1]; decide) (by decide) ?_
    refine J_iconst (v := 3) (pc' := 45) dX0_weighed_44 (by decide) rfl ?_
    exact J_iret dX0_weighed_45  ⟨jv (by simp [sWd, ax0 hk, ax1 hk, *]), rfl⟩
  by_cases e6_2 : w.1 (b + 1) k = 2
  · refine J_tabIn (pc' := 0) (off := 40) 46 dX0_weighed_6 (by rw [e6_2]; decide) (by rw [e6_2]; decide) (by rw [e6_2]; decide) (by decide) ?_
    refine J_iload_n (pc' := 47) dX0_weighed_46 rfl rfl ?_
    refine J_S1v (pc' := 50) dX0_weighed_47 lk_0_124 cd_X0_starWeighed (k_X0_starWeighed) (jroom_of rfl) (Nat.le_of_ble_eq_true rfl) rfl ?_
    exact J_iret dX0_weighed_50  ⟨jv (by simp [sWd, ax0 hk, ax1 hk, *]), rfl⟩
  by_cases e6_3 : w.1 (b + 1) k = 3
  · refine J_tabIn (pc' := 0) (off := 45) 51 dX0_weighed_6 (by rw [e6_3]; decide) (by rw [e6_3]; decide) (by rw [e6_3]; decide) (by decide) ?_
    refine J_aload_n (pc' := 52) dX0_weighed_51 rfl rfl ?_
    refine J_getR (pc' := 55) dX0_weighed_52 fl_0_15 (lyb_0 hb) (l84b_0 hb) rfl rfl ?_
    refine J_iload_n (pc' := 56) dX0_weighed_55 rfl rfl ?_
    refine J_iald k (pc' := 57) dX0_weighed_56 (lyb_2 hb) (l84b_2 hb) rfl (by omega) (by decide) rfl ?_
    refine J_iconst (v := 4) (pc' := 58) dX0_weighed_57 (by decide) rfl ?_
    refine J_icmp_le 65 (pc' := 61) dX0_weighed_58 (by decide) rfl (fun h_58 => ?_) (fun h_58 => ?_)
    · refine J_iconst (v := 2) (pc' := 66) dX0_weighed_65 (by decide) rfl ?_
      exact J_iret dX0_weighed_66  ⟨jv (by simp [sWd, ax0 hk, ax1 hk, *]), rfl⟩
    · refine J_iconst (v := 4) (pc' := 62) dX0_weighed_61 (by decide) rfl ?_
      refine J_goto (pc' := 0) 66 dX0_weighed_62 (by decide) ?_
      exact J_iret dX0_weighed_66  ⟨jv (by simp [sWd, ax0 hk, ax1 hk, *]), rfl⟩
  by_cases e6_4 : w.1 (b + 1) k = 4
  · refine J_tabIn (pc' := 0) (off := 61) 67 dX0_weighed_6 (by rw [e6_4]; decide) (by rw [e6_4]; decide) (by rw [e6_4]; decide) (by decide) ?_
    refine J_aload_n (pc' := 68) dX0_weighed_67 rfl rfl ?_
    refine J_getI (pc' := 71) dX0_weighed_68 fl_0_78 (lyb_0 hb) (l84b_0 hb) rfl rfl ?_
    rw [hR]
    refine J_iconst (v := 2) (pc' := 72) dX0_weighed_71 (by decide) rfl ?_
    refine J_irem (pc' := 73) dX0_weighed_72 (by decide) rfl ?_
    rw [hq]
    refine J_if_ne 80 (pc' := 76) dX0_weighed_73 (by decide) rfl (fun h_73 => ?_) (fun h_73 => ?_)
    · refine J_iconst (v := 1) (pc' := 81) dX0_weighed_80 (by decide) rfl ?_
      exact J_iret dX0_weighed_81  ⟨jv (by rcases Nat.mod_two_eq_zero_or_one (sR (abX w b)) with hm | hm <;> rw [hm] at h_73 <;> first | exact absurd h_73 (by decide) | simp [sWd, ax0 hk, *]), rfl⟩
    · refine J_iconst (v := 3) (pc' := 77) dX0_weighed_76 (by decide) rfl ?_
      refine J_goto (pc' := 0) 81 dX0_weighed_77 (by decide) ?_
      exact J_iret dX0_weighed_81  ⟨jv (by rcases Nat.mod_two_eq_zero_or_one (sR (abX w b)) with hm | hm <;> rw [hm] at h_73 <;> first | exact absurd h_73 (by decide) | simp [sWd, ax0 hk, *]), rfl⟩
  by_cases e6_5 : w.1 (b + 1) k = 5
  · refine J_tabIn (pc' := 0) (off := 76) 82 dX0_weighed_6 (by rw [e6_5]; decide) (by rw [e6_5]; decide) (by rw [e6_5]; decide) (by decide) ?_
    refine J_iload_n (pc' := 83) dX0_weighed_82 rfl rfl ?_
    refine J_S1v (pc' := 86) dX0_weighed_83 lk_0_124 cd_X0_starWeighed (k_X0_starWeighed) (jroom_of rfl) (Nat.le_of_ble_eq_true rfl) rfl ?_
    refine J_iconst (v := 1) (pc' := 87) dX0_weighed_86 (by decide) rfl ?_
    refine J_isub (pc' := 88) dX0_weighed_87 rfl ?_
    exact J_iret dX0_weighed_88  ⟨jv (by simp [sWd, ax0 hk, ax1 hk, *]), rfl⟩
  by_cases e6_6 : w.1 (b + 1) k = 6
  · refine J_tabIn (pc' := 0) (off := 83) 89 dX0_weighed_6 (by rw [e6_6]; decide) (by rw [e6_6]; decide) (by rw [e6_6]; decide) (by decide) ?_
    refine J_iconst (v := 4) (pc' := 90) dX0_weighed_89 (by decide) rfl ?_
    exact J_iret dX0_weighed_90  ⟨jv (by simp [sWd, ax0 hk, ax1 hk, *]), rfl⟩
  refine J_tabOut (pc' := 0) 91 dX0_weighed_6 (by have q0 := zneI e6_1 (k := 1) (by decide); have q1 := zneI e6_2 (k := 2) (by decide); have q2 := zneI e6_3 (k := 3) (by decide); have q3 := zneI e6_4 (k := 4) (by decide); have q4 := zneI e6_5 (k := 5) (by decide); have q5 := zneI e6_6 (k := 6) (by decide); omega) (by decide) ?_
  refine J_iconst (v := 2) (pc' := 92) dX0_weighed_91 (by decide) rfl ?_
  exact J_iret dX0_weighed_92  ⟨jv (by simp [sWd, ax0 hk, ax1 hk, *]), rfl⟩
