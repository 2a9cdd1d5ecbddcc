/-! ===== the reference: voice ===== -/
/-! ===== the reference: voice ===== -/
theorem rm_np {w : jWd} {z z' : vS} (h : vEq z z') : restM (nPut w z) = rT (restM w) z' := by
  funext f j
  match f with
  | 0 => rfl
  | 1 => rfl
  | 2 => rfl
  | 3 => rfl
  | 4 => rfl
  | 5 => rfl
  | 6 => rfl
  | 7 => rfl
  | 8 =>
    show (if j < nn z.2.1 then z.1 j else 0) = (if j < nn z'.2.1 then z'.1 j else 0)
    by_cases e : j < nn z.2.1
    · rw [if_pos e, if_pos (by rw [← h.1]; exact e)]; exact h.2 j e
    · rw [if_neg e, if_neg (by rw [← h.1]; exact e)]
  | 9 =>
    show (if j = 0 then z.2.1 else 0) = (if j = 0 then z'.2.1 else 0)
    rw [h.1]
  | n + 10 => rfl
theorem np_off {w : jWd} {z : vS} {a : Nat} (h7 : a ≠ 83) (h8 : a ≠ 68) : (nPut w z).1 a = w.1 a := by
  show (if a = 83 then _ else if a = 68 then _ else _) = _
  rw [if_neg h7, if_neg h8]
set_option maxHeartbeats 4000000 in
set_option maxRecDepth 100000 in
theorem b_X7_voice {G : jG} {w : jWd} (hV : MInv w) (hI : sInv (abM (w.1 69))) {x : Int32} {u : Int32} {v : Int32} : jKp G 9 yX7_voice cX7_voice 5 (some .int) [.ref 68, .int x, .int u, .int v] w (some (.int (sq_voice (abM (w.1 69)) (abM (w.1 70)) (restM w) x u v).1)) (fun w' => RQ w w' (sq_voice (abM (w.1 69)) (abM (w.1 70)) (restM w) x u v).2) := by
  have hT := hV.1
  refine jK_of (own := RX7) [some (.ref 68), some (.int x), some (.int u), some (.int v), none] pn7 rfl (Nat.le_of_ble_eq_true rfl) rfl ?_
  refine J_aload_n (pc' := 1) dX7_voice_0 rfl rfl ?_
  refine J_iload_n (pc' := 2) dX7_voice_1 rfl rfl ?_
  refine J_V1v (pc' := 5) dX7_voice_2 lk_7_134 cd_X7_isMark (k_X7_isMark) (ly_68) (l84_68) rfl rfl (jroom_of rfl) (Nat.le_of_ble_eq_true rfl) rfl ?_
  refine J_if_eq 17 (pc' := 8) dX7_voice_5 (by decide) rfl (fun h_5 => ?_) (fun h_5 => ?_)
  · refine J_aload_n (pc' := 18) dX7_voice_17 rfl rfl ?_
    refine J_ldc (pc' := 20) dX7_voice_18 kc_7_125 rfl ?_
    refine J_V1v (pc' := 23) dX7_voice_20 lk_7_126 cd_X7_error (k_merr (k := 1) (by decide) (by decide)) (ly_68) (l84_68) rfl rfl (jroom_of rfl) (Nat.le_of_ble_eq_true rfl) rfl ?_
    exact J_iret dX7_voice_23  (by unfold sq_voice; rw [if_neg (show ¬ (sIsM (abM (w.1 69)) x ∧ (0 ≤ u ∧ u ≤ 3)) from fun q => by first | exact jb_0.mp h_5 q.1 | exact jb_0.mp (by first | exact h_14 | exact Decidable.not_not.mp h_14) q.2)]; exact ⟨rfl, mq_err hV (by decide)⟩)
  · refine J_iload_n (pc' := 9) dX7_voice_8 rfl rfl ?_
    refine J_iconst (v := 0) (pc' := 10) dX7_voice_9 (by decide) rfl ?_
    refine J_iconst (v := 3) (pc' := 11) dX7_voice_10 (by decide) rfl ?_
    refine J_S3v (pc' := 14) dX7_voice_11 lk_7_61 cd_X7_in (k_X7_in) (jroom_of rfl) (Nat.le_of_ble_eq_true rfl) rfl ?_
    refine J_if_ne 24 (pc' := 17) dX7_voice_14 (by decide) rfl (fun h_14 => ?_) (fun h_14 => ?_)
    · obtain ⟨k, hk, rfl⟩ := sIsM_ex hI (jb_n h_5)
      have h8 : k < 8 := Nat.lt_of_lt_of_le hk (sIM hI).2
      obtain ⟨d, hd, rfl⟩ := rng0_ex (n := 3) (by omega) (show 0 ≤ u ∧ u ≤ nI 3 from jb_n h_14)
      have hz0 : vOk ((w.1 83, 0, 0) : vS) := ⟨0, by omega, nIc_0⟩
      obtain ⟨c, hc, ec⟩ : ∃ c, c ≤ 6 ∧ ((abM (w.1 69)) 0 k) = nI c := ⟨(((abM (w.1 69)) 0 k)).toInt.toNat, by have := (sIk hI hk).1; omega, Int32.toInt_inj.mp (by have := (sIk hI hk).1; rw [nI_toInt (by omega)]; omega)⟩
      have hE : vEq2 (nV ((abM (w.1 69)) 0 k) (nI k) ((abM (w.1 69)) 1 k) (nI d) v (w.1 83, 0, 0)) (vAn (abM (w.1 69)) (restM w) (nI k) (nI d) v) := by
        unfold vAn
        rw [nn_nI (by omega), ec, nV_vSp hc hd rfl]
        exact vSp_eq 21 _ _ _ _ _ hz0 ⟨rfl, fun j hj => absurd hj (by show ¬ j < nn 0; rw [show nn 0 = 0 from by decide]; omega)⟩
      have hE6 : (nV ((abM (w.1 69)) 0 k) (nI k) ((abM (w.1 69)) 1 k) (nI d) v (w.1 83, 0, 0)).2.2.2 = (vAn (abM (w.1 69)) (restM w) (nI k) (nI d) v).2.2.2 := by rw [hE.2.1]
      have hB : RQ w (nPut w (nV ((abM (w.1 69)) 0 k) (nI k) ((abM (w.1 69)) 1 k) (nI d) v (w.1 83, 0, 0)).2) (abM (w.1 69), abM (w.1 70), rT (restM w) (vAn (abM (w.1 69)) (restM w) (nI k) (nI d) v).2) := mq_any hV (np_off (by decide) (by decide)) (np_off (by decide) (by decide)) (fun a q => ⟨np_off (by omega) (by omega), rfl⟩) (rm_np hE.2)
      refine J_aload_n (pc' := 25) dX7_voice_24 rfl rfl ?_
      refine J_iconst (v := 0) (pc' := 26) dX7_voice_25 (by decide) rfl ?_
      refine J_putI (pc' := 29) dX7_voice_26 fp_7_262 (ly_68) (l84_68) rfl rfl ?_
      refine J_aload_n (pc' := 30) dX7_voice_29 rfl rfl ?_
      refine J_iconst (v := 0) (pc' := 31) dX7_voice_30 (by decide) rfl ?_
      refine J_putZ (pc' := 34) dX7_voice_31 fp_7_289 (ly_68) (l84_68) rfl (by decide) rfl ?_
      rw [nPut_0]
      refine J_iload_n (pc' := 35) dX7_voice_34 rfl rfl ?_
      refine J_if_ne 47 (pc' := 38) dX7_voice_35 (by decide) rfl (fun h_35 => ?_) (fun h_35 => ?_)
      · refine J_iload_n (pc' := 48) dX7_voice_47 rfl rfl ?_
        refine J_iconst (v := 1) (pc' := 49) dX7_voice_48 (by decide) rfl ?_
        refine J_icmp_ne 61 (pc' := 52) dX7_voice_49 (by decide) rfl (fun h_49 => ?_) (fun h_49 => ?_)
        · refine J_iload_n (pc' := 62) dX7_voice_61 rfl rfl ?_
          refine J_iconst (v := 2) (pc' := 63) dX7_voice_62 (by decide) rfl ?_
          refine J_icmp_ne 75 (pc' := 66) dX7_voice_63 (by decide) rfl (fun h_63 => ?_) (fun h_63 => ?_)
          · refine J_aload_n (pc' := 76) dX7_voice_75 rfl rfl ?_
            refine J_iload_n (pc' := 77) dX7_voice_76 rfl rfl ?_
            refine J_iload_n (pc' := 78) dX7_voice_77 rfl rfl ?_
            refine J_V2v (pc' := 81) dX7_voice_78 lk_7_298 cd_X7_partsBy (k_np hz0 h8) (ly_68) (l84_68) rfl rfl (jroom_of rfl) (Nat.le_of_ble_eq_true rfl) rfl ?_
            have eV : nP ((abM (w.1 69)) 0 k) (nI k) ((abM (w.1 69)) 1 k) v (w.1 83, 0, 0) = (nV ((abM (w.1 69)) 0 k) (nI k) ((abM (w.1 69)) 1 k) (nI d) v (w.1 83, 0, 0)) := (show (nV ((abM (w.1 69)) 0 k) (nI k) ((abM (w.1 69)) 1 k) (nI d) v (w.1 83, 0, 0)) = _ from (if_neg h_35).trans ((if_neg h_49).trans (if_neg h_63))).symm
            rw [eV]
            refine J_istore (pc' := 83) dX7_voice_81 (Nat.le_of_ble_eq_true rfl) (jst4 rfl rfl) rfl ?_
            refine J_aload_n (pc' := 84) dX7_voice_83 rfl rfl ?_
            refine J_getI (pc' := 87) dX7_voice_84 fl_7_289 (ly_68) (l84_68) rfl rfl ?_
            refine J_if_eq 100 (pc' := 90) dX7_voice_87 (by decide) rfl (fun h_87 => ?_) (fun h_87 => ?_)
            · refine J_iload (pc' := 102) dX7_voice_100 rfl rfl ?_
              first | exact J_iret dX7_voice_102  (by unfold sq_voice; rw [if_pos (show sIsM (abM (w.1 69)) (nI k) ∧ (0 ≤ nI d ∧ nI d ≤ 3) from ⟨jb_n h_5, jb_n h_14⟩), if_pos (hE6 ▸ h_87)]; exact ⟨congrArg (fun q => some (Value.int q)) hE.1, hB⟩) | exact J_iret dX7_voice_102  (by unfold sq_voice; rw [if_pos (show sIsM (abM (w.1 69)) (nI k) ∧ (0 ≤ nI d ∧ nI d ≤ 3) from ⟨jb_n h_5, jb_n h_14⟩), if_neg (fun q => h_87 (hE6.trans q))]; exact ⟨rfl, mq_err2 hB (by decide)⟩)
            · refine J_aload_n (pc' := 91) dX7_voice_90 rfl rfl ?_
              refine J_ldcw (pc' := 94) dX7_voice_91 kc_7_301 rfl ?_
              refine J_V1v (pc' := 97) dX7_voice_94 lk_7_126 cd_X7_error (k_merr (k := 6) (by decide) (by decide)) (ly_68) (l84_68) rfl rfl (jroom_of rfl) (Nat.le_of_ble_eq_true rfl) rfl ?_
              refine J_goto (pc' := 0) 102 dX7_voice_97 (by decide) ?_
              first | exact J_iret dX7_voice_102  (by unfold sq_voice; rw [if_pos (show sIsM (abM (w.1 69)) (nI k) ∧ (0 ≤ nI d ∧ nI d ≤ 3) from ⟨jb_n h_5, jb_n h_14⟩), if_pos (hE6 ▸ h_87)]; exact ⟨congrArg (fun q => some (Value.int q)) hE.1, hB⟩) | exact J_iret dX7_voice_102  (by unfold sq_voice; rw [if_pos (show sIsM (abM (w.1 69)) (nI k) ∧ (0 ≤ nI d ∧ nI d ≤ 3) from ⟨jb_n h_5, jb_n h_14⟩), if_neg (fun q => h_87 (hE6.trans q))]; exact ⟨rfl, mq_err2 hB (by decide)⟩)
          · refine J_aload_n (pc' := 67) dX7_voice_66 rfl rfl ?_
            refine J_iload_n (pc' := 68) dX7_voice_67 rfl rfl ?_
            refine J_iload_n (pc' := 69) dX7_voice_68 rfl rfl ?_
            refine J_V2v (pc' := 72) dX7_voice_69 lk_7_295 cd_X7_ties (k_nt hz0 h8) (ly_68) (l84_68) rfl rfl (jroom_of rfl) (Nat.le_of_ble_eq_true rfl) rfl ?_
            refine J_goto (pc' := 0) 81 dX7_voice_72 (by decide) ?_
            have eV : nT ((abM (w.1 69)) 0 k) (nI k) ((abM (w.1 69)) 1 k) v (w.1 83, 0, 0) = (nV ((abM (w.1 69)) 0 k) (nI k) ((abM (w.1 69)) 1 k) (nI d) v (w.1 83, 0, 0)) := (show (nV ((abM (w.1 69)) 0 k) (nI k) ((abM (w.1 69)) 1 k) (nI d) v (w.1 83, 0, 0)) = _ from (if_neg h_35).trans ((if_neg h_49).trans (if_pos (by first | exact h_63 | exact Decidable.not_not.mp h_63)))).symm
            rw [eV]
            refine J_istore (pc' := 83) dX7_voice_81 (Nat.le_of_ble_eq_true rfl) (jst4 rfl rfl) rfl ?_
            refine J_aload_n (pc' := 84) dX7_voice_83 rfl rfl ?_
            refine J_getI (pc' := 87) dX7_voice_84 fl_7_289 (ly_68) (l84_68) rfl rfl ?_
            refine J_if_eq 100 (pc' := 90) dX7_voice_87 (by decide) rfl (fun h_87 => ?_) (fun h_87 => ?_)
            · refine J_iload (pc' := 102) dX7_voice_100 rfl rfl ?_
              first | exact J_iret dX7_voice_102  (by unfold sq_voice; rw [if_pos (show sIsM (abM (w.1 69)) (nI k) ∧ (0 ≤ nI d ∧ nI d ≤ 3) from ⟨jb_n h_5, jb_n h_14⟩), if_pos (hE6 ▸ h_87)]; exact ⟨congrArg (fun q => some (Value.int q)) hE.1, hB⟩) | exact J_iret dX7_voice_102  (by unfold sq_voice; rw [if_pos (show sIsM (abM (w.1 69)) (nI k) ∧ (0 ≤ nI d ∧ nI d ≤ 3) from ⟨jb_n h_5, jb_n h_14⟩), if_neg (fun q => h_87 (hE6.trans q))]; exact ⟨rfl, mq_err2 hB (by decide)⟩)
            · refine J_aload_n (pc' := 91) dX7_voice_90 rfl rfl ?_
              refine J_ldcw (pc' := 94) dX7_voice_91 kc_7_301 rfl ?_
              refine J_V1v (pc' := 97) dX7_voice_94 lk_7_126 cd_X7_error (k_merr (k := 6) (by decide) (by decide)) (ly_68) (l84_68) rfl rfl (jroom_of rfl) (Nat.le_of_ble_eq_true rfl) rfl ?_
              refine J_goto (pc' := 0) 102 dX7_voice_97 (by decide) ?_
              first | exact J_iret dX7_voice_102  (by unfold sq_voice; rw [if_pos (show sIsM (abM (w.1 69)) (nI k) ∧ (0 ≤ nI d ∧ nI d ≤ 3) from ⟨jb_n h_5, jb_n h_14⟩), if_pos (hE6 ▸ h_87)]; exact ⟨congrArg (fun q => some (Value.int q)) hE.1, hB⟩) | exact J_iret dX7_voice_102  (by unfold sq_voice; rw [if_pos (show sIsM (abM (w.1 69)) (nI k) ∧ (0 ≤ nI d ∧ nI d ≤ 3) from ⟨jb_n h_5, jb_n h_14⟩), if_neg (fun q => h_87 (hE6.trans q))]; exact ⟨rfl, mq_err2 hB (by decide)⟩)
        · refine J_aload_n (pc' := 53) dX7_voice_52 rfl rfl ?_
          refine J_iload_n (pc' := 54) dX7_voice_53 rfl rfl ?_
          refine J_iload_n (pc' := 55) dX7_voice_54 rfl rfl ?_
          refine J_V2v (pc' := 58) dX7_voice_55 lk_7_283 cd_X7_says (k_ns hz0 h8) (ly_68) (l84_68) rfl rfl (jroom_of rfl) (Nat.le_of_ble_eq_true rfl) rfl ?_
          refine J_goto (pc' := 0) 81 dX7_voice_58 (by decide) ?_
          have eV : nS ((abM (w.1 69)) 0 k) (nI k) ((abM (w.1 69)) 1 k) v (w.1 83, 0, 0) = (nV ((abM (w.1 69)) 0 k) (nI k) ((abM (w.1 69)) 1 k) (nI d) v (w.1 83, 0, 0)) := (show (nV ((abM (w.1 69)) 0 k) (nI k) ((abM (w.1 69)) 1 k) (nI d) v (w.1 83, 0, 0)) = _ from (if_neg h_35).trans (if_pos (by first | exact h_49 | exact Decidable.not_not.mp h_49))).symm
          rw [eV]
          refine J_istore (pc' := 83) dX7_voice_81 (Nat.le_of_ble_eq_true rfl) (jst4 rfl rfl) rfl ?_
          refine J_aload_n (pc' := 84) dX7_voice_83 rfl rfl ?_
          refine J_getI (pc' := 87) dX7_voice_84 fl_7_289 (ly_68) (l84_68) rfl rfl ?_
          refine J_if_eq 100 (pc' := 90) dX7_voice_87 (by decide) rfl (fun h_87 => ?_) (fun h_87 => ?_)
          · refine J_iload (pc' := 102) dX7_voice_100 rfl rfl ?_
            first | exact J_iret dX7_voice_102  (by unfold sq_voice; rw [if_pos (show sIsM (abM (w.1 69)) (nI k) ∧ (0 ≤ nI d ∧ nI d ≤ 3) from ⟨jb_n h_5, jb_n h_14⟩), if_pos (hE6 ▸ h_87)]; exact ⟨congrArg (fun q => some (Value.int q)) hE.1, hB⟩) | exact J_iret dX7_voice_102  (by unfold sq_voice; rw [if_pos (show sIsM (abM (w.1 69)) (nI k) ∧ (0 ≤ nI d ∧ nI d ≤ 3) from ⟨jb_n h_5, jb_n h_14⟩), if_neg (fun q => h_87 (hE6.trans q))]; exact ⟨rfl, mq_err2 hB (by decide)⟩)
          · refine J_aload_n (pc' := 91) dX7_voice_90 rfl rfl ?_
            refine J_ldcw (pc' := 94) dX7_voice_91 kc_7_301 rfl ?_
            refine J_V1v (pc' := 97) dX7_voice_94 lk_7_126 cd_X7_error (k_merr (k := 6) (by decide) (by decide)) (ly_68) (l84_68) rfl rfl (jroom_of rfl) (Nat.le_of_ble_eq_true rfl) rfl ?_
            refine J_goto (pc' := 0) 102 dX7_voice_97 (by decide) ?_
            first | exact J_iret dX7_voice_102  (by unfold sq_voice; rw [if_pos (show sIsM (abM (w.1 69)) (nI k) ∧ (0 ≤ nI d ∧ nI d ≤ 3) from ⟨jb_n h_5, jb_n h_14⟩), if_pos (hE6 ▸ h_87)]; exact ⟨congrArg (fun q => some (Value.int q)) hE.1, hB⟩) | exact J_iret dX7_voice_102  (by unfold sq_voice; rw [if_pos (show sIsM (abM (w.1 69)) (nI k) ∧ (0 ≤ nI d ∧ nI d ≤ 3) from ⟨jb_n h_5, jb_n h_14⟩), if_neg (fun q => h_87 (hE6.trans q))]; exact ⟨rfl, mq_err2 hB (by decide)⟩)
      · refine J_aload_n (pc' := 39) dX7_voice_38 rfl rfl ?_
        refine J_iload_n (pc' := 40) dX7_voice_39 rfl rfl ?_
        refine J_iload_n (pc' := 41) dX7_voice_40 rfl rfl ?_
        refine J_V2v (pc' := 44) dX7_voice_41 lk_7_274 cd_X7_weighs (k_nw hz0 h8) (ly_68) (l84_68) rfl rfl (jroom_of rfl) (Nat.le_of_ble_eq_true rfl) rfl ?_
        refine J_goto (pc' := 0) 81 dX7_voice_44 (by decide) ?_
        have eV : nW ((abM (w.1 69)) 0 k) (nI k) v (w.1 83, 0, 0) = (nV ((abM (w.1 69)) 0 k) (nI k) ((abM (w.1 69)) 1 k) (nI d) v (w.1 83, 0, 0)) := (show (nV ((abM (w.1 69)) 0 k) (nI k) ((abM (w.1 69)) 1 k) (nI d) v (w.1 83, 0, 0)) = _ from if_pos (by first | exact h_35 | exact Decidable.not_not.mp h_35)).symm
        rw [eV]
        refine J_istore (pc' := 83) dX7_voice_81 (Nat.le_of_ble_eq_true rfl) (jst4 rfl rfl) rfl ?_
        refine J_aload_n (pc' := 84) dX7_voice_83 rfl rfl ?_
        refine J_getI (pc' := 87) dX7_voice_84 fl_7_289 (ly_68) (l84_68) rfl rfl ?_
        refine J_if_eq 100 (pc' := 90) dX7_voice_87 (by decide) rfl (fun h_87 => ?_) (fun h_87 => ?_)
        · refine J_iload (pc' := 102) dX7_voice_100 rfl rfl ?_
          first | exact J_iret dX7_voice_102  (by unfold sq_voice; rw [if_pos (show sIsM (abM (w.1 69)) (nI k) ∧ (0 ≤ nI d ∧ nI d ≤ 3) from ⟨jb_n h_5, jb_n h_14⟩), if_pos (hE6 ▸ h_87)]; exact ⟨congrArg (fun q => some (Value.int q)) hE.1, hB⟩) | exact J_iret dX7_voice_102  (by unfold sq_voice; rw [if_pos (show sIsM (abM (w.1 69)) (nI k) ∧ (0 ≤ nI d ∧ nI d ≤ 3) from ⟨jb_n h_5, jb_n h_14⟩), if_neg (fun q => h_87 (hE6.trans q))]; exact ⟨rfl, mq_err2 hB (by decide)⟩)
        · refine J_aload_n (pc' := 91) dX7_voice_90 rfl rfl ?_
          refine J_ldcw (pc' := 94) dX7_voice_91 kc_7_301 rfl ?_
          refine J_V1v (pc' := 97) dX7_voice_94 lk_7_126 cd_X7_error (k_merr (k := 6) (by decide) (by decide)) (ly_68) (l84_68) rfl rfl (jroom_of rfl) (Nat.le_of_ble_eq_true rfl) rfl ?_
          refine J_goto (pc' := 0) 102 dX7_voice_97 (by decide) ?_
          first | exact J_iret dX7_voice_102  (by unfold sq_voice; rw [if_pos (show sIsM (abM (w.1 69)) (nI k) ∧ (0 ≤ nI d ∧ nI d ≤ 3) from ⟨jb_n h_5, jb_n h_14⟩), if_pos (hE6 ▸ h_87)]; exact ⟨congrArg (fun q => some (Value.int q)) hE.1, hB⟩) | exact J_iret dX7_voice_102  (by unfold sq_voice; rw [if_pos (show sIsM (abM (w.1 69)) (nI k) ∧ (0 ≤ nI d ∧ nI d ≤ 3) from ⟨jb_n h_5, jb_n h_14⟩), if_neg (fun q => h_87 (hE6.trans q))]; exact ⟨rfl, mq_err2 hB (by decide)⟩)
    · refine J_aload_n (pc' := 18) dX7_voice_17 rfl rfl ?_
      refine J_ldc (pc' := 20) dX7_voice_18 kc_7_125 rfl ?_
      refine J_V1v (pc' := 23) dX7_voice_20 lk_7_126 cd_X7_error (k_merr (k := 1) (by decide) (by decide)) (ly_68) (l84_68) rfl rfl (jroom_of rfl) (Nat.le_of_ble_eq_true rfl) rfl ?_
      exact J_iret dX7_voice_23  (by unfold sq_voice; rw [if_neg (show ¬ (sIsM (abM (w.1 69)) x ∧ (0 ≤ u ∧ u ≤ 3)) from fun q => by first | exact jb_0.mp h_5 q.1 | exact jb_0.mp (by first | exact h_14 | exact Decidable.not_not.mp h_14) q.2)]; exact ⟨rfl, mq_err hV (by decide)⟩)
