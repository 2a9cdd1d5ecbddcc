/-! ===== the reference: voices ===== -/
/-! ===== the reference: voices ===== -/
def nPut (w : jWd) (z : vS) : jWd := (fun c => if c = 83 then z.1 else if c = 68 then (fun j => if j = 22 then z.2.1 else if j = 23 then z.2.2 else w.1 68 j) else w.1 c, w.2)
theorem nPut_tr {w : jWd} {z : vS} {t : Nat} {b : Int32} (h : t ≤ 30) (ht : z.2.1 = nI t) (hc : ¬ 30 ≤ z.2.1) : jset (jset (nPut w z) 83 t b) 68 22 (z.2.1 + 1) = nPut w (vTr b z) := by
  unfold vTr
  rw [if_pos (Int32.not_le.mp hc)]
  refine Prod.ext (funext fun c => funext fun j => ?_) rfl
  by_cases e : c = 68
  · subst e
    by_cases e1 : j = 22
    · subst e1; simp [nPut, jset, jsetA, upd]
    · simp [nPut, jset, jsetA, upd, e1]
  · by_cases e8 : c = 83
    · subst e8
      by_cases e1 : j = t
      · subst e1
        rw [ht]
        simp [nPut, jset, jsetA, upd, nn_nI (show j < 2 ^ 31 by omega)]
      · rw [ht]
        simp [nPut, jset, jsetA, upd, e1, nn_nI (show t < 2 ^ 31 by omega)]
    · simp [nPut, jset, jsetA, upd, e, e8]
theorem nPut_pt {w : jWd} {z : vS} {t : Int32} : jset (nPut w z) 68 23 t = nPut w (z.1, z.2.1, t) := by
  refine Prod.ext (funext fun c => funext fun j => ?_) rfl
  by_cases e : c = 68
  · subst e
    by_cases e1 : j = 23
    · subst e1; simp [nPut, jset, jsetA, upd]
    · simp [nPut, jset, jsetA, upd, e1]
  · simp [nPut, jset, jsetA, upd, e]
theorem nPut_0 {w : jWd} : jset (jset w 68 22 0) 68 23 0 = nPut w (w.1 83, 0, 0) := by
  refine Prod.ext (funext fun c => funext fun j => ?_) rfl
  by_cases e : c = 68
  · subst e
    by_cases e1 : j = 23
    · subst e1; simp [nPut, jset, jsetA, upd]
    · by_cases e2 : j = 22
      · subst e2; simp [nPut, jset, jsetA, upd]
      · simp [nPut, jset, jsetA, upd, e1, e2]
  · by_cases e8 : c = 83
    · subst e8; simp [nPut, jset, jsetA]
    · simp [nPut, jset, jsetA, e, e8]
abbrev vR : Type := Int32 × vS
def nPW (t x : Int32) (z : vS) : vR := (x + t, vTr 10 z)
def nFW (t x : Int32) (z : vS) : vR := ((nPW t x (vTr 20 z)).1 - 4, (nPW t x (vTr 20 z)).2)
def nW (kd t x : Int32) (z : vS) : vR := if kd = 1 then nFW t x z else if kd = 4 then ((nFW t x (vTr 50 z)).1 * 3, (nFW t x (vTr 50 z)).2) else if kd = 6 then (9, vTr 70 z) else nPW t x z
def nPS (kd t x : Int32) (z : vS) : vR := ((nW kd t x (vTr 11 z)).1 * 2, (nW kd t x (vTr 11 z)).2)
def nSS (kd t x : Int32) (z : vS) : vR := (-(nPS kd t x (vTr 30 z)).1, (nPS kd t x (vTr 30 z)).2)
def nS (kd t m x : Int32) (z : vS) : vR := if kd = 2 then nSS kd t x z else if kd = 5 then nSS kd t (x + 1) (vTr 60 z) else if kd = 6 then ((nPS kd t x (vTr 71 z)).1 + m, (nPS kd t x (vTr 71 z)).2) else nPS kd t x z
def nPT (kd t m x : Int32) (z : vS) : vR := ((nS kd t m x (vTr 12 z)).1 - m, (nS kd t m x (vTr 12 z)).2)
def nT (kd t m x : Int32) (z : vS) : vR := if kd = 3 then nPT kd t m (x / 2) (vTr 40 z) else if kd = 4 then ((nPT kd t m x (vTr 51 z)).1 ^^^ t, (nPT kd t m x (vTr 51 z)).2) else nPT kd t m x z
def nPP (t m x : Int32) (z : vS) : vR := (if m - t = 0 then 0 else x / (m - t), ((vTr 13 z).1, (vTr 13 z).2.1, if m - t = 0 then 1 else 0))
def nP (kd t m x : Int32) (z : vS) : vR := if kd = 1 ∨ kd = 4 then (if m - t = 0 then (0, (nPP t m x (vTr 21 z)).2) else ((nPP t m x (vTr 21 z)).1 + (nS kd t m 1 (nPP t m x (vTr 21 z)).2).1, (nS kd t m 1 (nPP t m x (vTr 21 z)).2).2)) else nPP t m x z
theorem nPW_ok {t x : Int32} {z : vS} (h : vOk z) : vOk (nPW t x z).2 := vTr_ok h
theorem nFW_ok {t x : Int32} {z : vS} (h : vOk z) : vOk (nFW t x z).2 := nPW_ok (t := t) (x := x) (vTr_ok h)
theorem nW_ok {kd t x : Int32} {z : vS} (h : vOk z) : vOk (nW kd t x z).2 := by
  unfold nW
  split
  · exact nFW_ok (t := t) (x := x) h
  · split
    · exact nFW_ok (t := t) (x := x) (vTr_ok h)
    · split
      · exact vTr_ok h
      · exact nPW_ok (t := t) (x := x) h
theorem nPS_ok {kd t x : Int32} {z : vS} (h : vOk z) : vOk (nPS kd t x z).2 := nW_ok (kd := kd) (t := t) (x := x) (vTr_ok h)
theorem nSS_ok {kd t x : Int32} {z : vS} (h : vOk z) : vOk (nSS kd t x z).2 := nPS_ok (kd := kd) (t := t) (x := x) (vTr_ok h)
theorem nS_ok {kd t m x : Int32} {z : vS} (h : vOk z) : vOk (nS kd t m x z).2 := by
  unfold nS
  split
  · exact nSS_ok (kd := kd) (t := t) (x := x) h
  · split
    · exact nSS_ok (kd := kd) (t := t) (x := x + 1) (vTr_ok h)
    · split
      · exact nPS_ok (kd := kd) (t := t) (x := x) (vTr_ok h)
      · exact nPS_ok (kd := kd) (t := t) (x := x) h
theorem nPP_ok {t m x : Int32} {z : vS} (h : vOk z) : vOk (nPP t m x z).2 := vTr_ok (b := 13) h
theorem k_nof0 {G : jG} {w : jWd} {z : vS} {k : Nat} (hk : k < 8) : jKd G 0 yX7_of cX7_of 3 (some .int) [.ref 68, .int (nI k), .int 0] (nPut w z) (some (.int (abM (w.1 69) 0 k))) (nPut w z) := k_mof0 hk
theorem k_nof1 {G : jG} {w : jWd} {z : vS} {k : Nat} (hk : k < 8) : jKd G 0 yX7_of cX7_of 3 (some .int) [.ref 68, .int (nI k), .int 1] (nPut w z) (some (.int (abM (w.1 69) 1 k))) (nPut w z) := k_mof1 hk
set_option maxHeartbeats 4000000 in
set_option maxRecDepth 100000 in
theorem k_nbeg {G : jG} {w : jWd} {z : vS} (hz : vOk z) {b : Int32} : jKd G 0 yX7_begins cX7_begins 2 none [.ref 68, .int b] (nPut w z) none (nPut w (vTr b z)) := by
  obtain ⟨t, ht1, ht2⟩ := id hz
  refine jK_of (own := RX7) [some (.ref 68), some (.int b)] pn7 rfl (Nat.le_of_ble_eq_true rfl) rfl ?_
  refine J_aload_n (pc' := 1) dX7_begins_0 rfl rfl ?_
  refine J_getI (pc' := 4) dX7_begins_1 fl_7_262 (ly_68) (l84_68) rfl rfl ?_
  rw [show (nPut w z).1 68 22 = z.2.1 from rfl]
  refine J_bipush (v := 30) (pc' := 6) dX7_begins_4 (by decide) rfl ?_
  refine J_icmp_ge 29 (pc' := 9) dX7_begins_6 (by decide) rfl (fun h_6 => ?_) (fun h_6 => ?_)
  · first | exact J_vret dX7_begins_29  ⟨rfl, nPut_tr ht1 ht2 h_6⟩ | exact J_vret dX7_begins_29  ⟨rfl, by rw [show vTr b z = z from if_neg (Int32.not_lt.mpr h_6)]⟩
  · refine J_aload_n (pc' := 10) dX7_begins_9 rfl rfl ?_
    refine J_getR (pc' := 13) dX7_begins_10 fl_7_53 (ly_68) (l84_68) rfl rfl ?_
    refine J_aload_n (pc' := 14) dX7_begins_13 rfl rfl ?_
    refine J_getI (pc' := 17) dX7_begins_14 fl_7_262 (ly_68) (l84_68) rfl rfl ?_
    refine J_iload_n (pc' := 18) dX7_begins_17 rfl rfl ?_
    refine J_iast t (pc' := 19) dX7_begins_18 (ly_83) (l84_83) ht2 (by have h6 := h_6; rw [ht2, show (30 : Int32) = nI 30 from by decide, nI_leI (by omega) (by omega)] at h6; omega) (by decide) rfl ?_
    refine J_aload_n (pc' := 20) dX7_begins_19 rfl rfl ?_
    refine J_dup (pc' := 21) dX7_begins_20 rfl rfl ?_
    refine J_getI (pc' := 24) dX7_begins_21 fl_7_262 (ly_68) (l84_68) rfl rfl ?_
    rw [show (jset (nPut w z) 83 t b).1 68 22 = z.2.1 from rfl]
    refine J_iconst (v := 1) (pc' := 25) dX7_begins_24 (by decide) rfl ?_
    refine J_iadd (pc' := 26) dX7_begins_25 rfl ?_
    refine J_putI (pc' := 29) dX7_begins_26 fp_7_262 (ly_68) (l84_68) rfl rfl ?_
    first | exact J_vret dX7_begins_29  ⟨rfl, nPut_tr ht1 ht2 h_6⟩ | exact J_vret dX7_begins_29  ⟨rfl, by rw [show vTr b z = z from if_neg (Int32.not_lt.mpr h_6)]⟩
set_option maxHeartbeats 4000000 in
set_option maxRecDepth 100000 in
theorem k_npw {G : jG} {w : jWd} {z : vS} (hz : vOk z) {k : Nat} (h8 : k < 8) {x : Int32} : jKd G 1 yX7_plainWeighs cX7_plainWeighs 3 (some .int) [.ref 68, .int (nI k), .int x] (nPut w z) (some (.int (nPW (nI k) x z).1)) (nPut w (nPW (nI k) x z).2) := by
  refine jK_of (own := RX7) [some (.ref 68), some (.int (nI k)), some (.int x)] pn7 rfl (Nat.le_of_ble_eq_true rfl) rfl ?_
  refine J_aload_n (pc' := 1) dX7_plainWeighs_0 rfl rfl ?_
  refine J_bipush (v := 10) (pc' := 3) dX7_plainWeighs_1 (by decide) rfl ?_
  refine J_V10 (pc' := 6) dX7_plainWeighs_3 lk_7_265 cd_X7_begins (k_nbeg hz) (ly_68) (l84_68) rfl rfl (jroom_of rfl) (Nat.le_of_ble_eq_true rfl) rfl ?_
  refine J_iload_n (pc' := 7) dX7_plainWeighs_6 rfl rfl ?_
  refine J_iload_n (pc' := 8) dX7_plainWeighs_7 rfl rfl ?_
  refine J_iadd (pc' := 9) dX7_plainWeighs_8 rfl ?_
  exact J_iret dX7_plainWeighs_9  ⟨rfl, rfl⟩
set_option maxHeartbeats 4000000 in
set_option maxRecDepth 100000 in
theorem k_nfw {G : jG} {w : jWd} {z : vS} (hz : vOk z) {k : Nat} (h8 : k < 8) {x : Int32} : jKd G 2 yX7_flatWeighs cX7_flatWeighs 3 (some .int) [.ref 68, .int (nI k), .int x] (nPut w z) (some (.int (nFW (nI k) x z).1)) (nPut w (nFW (nI k) x z).2) := by
  refine jK_of (own := RX7) [some (.ref 68), some (.int (nI k)), some (.int x)] pn7 rfl (Nat.le_of_ble_eq_true rfl) rfl ?_
  refine J_aload_n (pc' := 1) dX7_flatWeighs_0 rfl rfl ?_
  refine J_bipush (v := 20) (pc' := 3) dX7_flatWeighs_1 (by decide) rfl ?_
  refine J_V10 (pc' := 6) dX7_flatWeighs_3 lk_7_265 cd_X7_begins (k_nbeg hz) (ly_68) (l84_68) rfl rfl (jroom_of rfl) (Nat.le_of_ble_eq_true rfl) rfl ?_
  refine J_aload_n (pc' := 7) dX7_flatWeighs_6 rfl rfl ?_
  refine J_iload_n (pc' := 8) dX7_flatWeighs_7 rfl rfl ?_
  refine J_iload_n (pc' := 9) dX7_flatWeighs_8 rfl rfl ?_
  refine J_V2v (pc' := 12) dX7_flatWeighs_9 lk_7_268 cd_X7_plainWeighs (k_npw (vTr_ok hz) h8) (ly_68) (l84_68) rfl rfl (jroom_of rfl) (Nat.le_of_ble_eq_true rfl) rfl ?_
  refine J_iconst (v := 4) (pc' := 13) dX7_flatWeighs_12 (by decide) rfl ?_
  refine J_isub (pc' := 14) dX7_flatWeighs_13 rfl ?_
  exact J_iret dX7_flatWeighs_14  ⟨rfl, rfl⟩
set_option maxHeartbeats 4000000 in
set_option maxRecDepth 100000 in
theorem k_nw {G : jG} {w : jWd} {z : vS} (hz : vOk z) {k : Nat} (h8 : k < 8) {x : Int32} : jKd G 3 yX7_weighs cX7_weighs 3 (some .int) [.ref 68, .int (nI k), .int x] (nPut w z) (some (.int (nW ((abM (w.1 69)) 0 k) (nI k) x z).1)) (nPut w (nW ((abM (w.1 69)) 0 k) (nI k) x z).2) := by
  refine jK_of (own := RX7) [some (.ref 68), some (.int (nI k)), some (.int x)] pn7 rfl (Nat.le_of_ble_eq_true rfl) rfl ?_
  refine J_aload_n (pc' := 1) dX7_weighs_0 rfl rfl ?_
  refine J_iload_n (pc' := 2) dX7_weighs_1 rfl rfl ?_
  refine J_iconst (v := 0) (pc' := 3) dX7_weighs_2 (by decide) rfl ?_
  refine J_V2v (pc' := 6) dX7_weighs_3 lk_7_65 cd_X7_of (k_nof0 h8) (ly_68) (l84_68) rfl rfl (jroom_of rfl) (Nat.le_of_ble_eq_true rfl) rfl ?_
  by_cases e6_1 : ((abM (w.1 69)) 0 k) = 1
  · refine J_look (pc' := 0) (off := 34) 40 dX7_weighs_6 (by decide) (by rw [e6_1]; decide) (by decide) ?_
    refine J_aload_n (pc' := 41) dX7_weighs_40 rfl rfl ?_
    refine J_iload_n (pc' := 42) dX7_weighs_41 rfl rfl ?_
    refine J_iload_n (pc' := 43) dX7_weighs_42 rfl rfl ?_
    refine J_V2v (pc' := 46) dX7_weighs_43 lk_7_271 cd_X7_flatWeighs (k_nfw hz h8) (ly_68) (l84_68) rfl rfl (jroom_of rfl) (Nat.le_of_ble_eq_true rfl) rfl ?_
    exact J_iret dX7_weighs_46  (by unfold nW; rw [if_pos e6_1]; exact ⟨rfl, rfl⟩)
  by_cases e6_4 : ((abM (w.1 69)) 0 k) = 4
  · refine J_look (pc' := 0) (off := 41) 47 dX7_weighs_6 (by decide) (by rw [e6_4]; decide) (by decide) ?_
    refine J_aload_n (pc' := 48) dX7_weighs_47 rfl rfl ?_
    refine J_bipush (v := 50) (pc' := 50) dX7_weighs_48 (by decide) rfl ?_
    refine J_V10 (pc' := 53) dX7_weighs_50 lk_7_265 cd_X7_begins (k_nbeg hz) (ly_68) (l84_68) rfl rfl (jroom_of rfl) (Nat.le_of_ble_eq_true rfl) rfl ?_
    refine J_aload_n (pc' := 54) dX7_weighs_53 rfl rfl ?_
    refine J_iload_n (pc' := 55) dX7_weighs_54 rfl rfl ?_
    refine J_iload_n (pc' := 56) dX7_weighs_55 rfl rfl ?_
    refine J_V2v (pc' := 59) dX7_weighs_56 lk_7_271 cd_X7_flatWeighs (k_nfw (vTr_ok hz) h8) (ly_68) (l84_68) rfl rfl (jroom_of rfl) (Nat.le_of_ble_eq_true rfl) rfl ?_
    refine J_iconst (v := 3) (pc' := 60) dX7_weighs_59 (by decide) rfl ?_
    refine J_imul (pc' := 61) dX7_weighs_60 rfl ?_
    exact J_iret dX7_weighs_61  (by unfold nW; rw [if_neg e6_1, if_pos e6_4]; exact ⟨rfl, rfl⟩)
  by_cases e6_6 : ((abM (w.1 69)) 0 k) = 6
  · refine J_look (pc' := 0) (off := 56) 62 dX7_weighs_6 (by decide) (by rw [e6_6]; decide) (by decide) ?_
    refine J_aload_n (pc' := 63) dX7_weighs_62 rfl rfl ?_
    refine J_bipush (v := 70) (pc' := 65) dX7_weighs_63 (by decide) rfl ?_
    refine J_V10 (pc' := 68) dX7_weighs_65 lk_7_265 cd_X7_begins (k_nbeg hz) (ly_68) (l84_68) rfl rfl (jroom_of rfl) (Nat.le_of_ble_eq_true rfl) rfl ?_
    refine J_bipush (v := 9) (pc' := 70) dX7_weighs_68 (by decide) rfl ?_
    exact J_iret dX7_weighs_70  (by unfold nW; rw [if_neg e6_1, if_neg e6_4, if_pos e6_6]; exact ⟨rfl, rfl⟩)
  refine J_look (pc' := 0) (off := 65) 71 dX7_weighs_6 (by decide) (by simp [Op.lookupswitch.offset, zneJ e6_1 (k := 1) (by decide), zneJ e6_4 (k := 4) (by decide), zneJ e6_6 (k := 6) (by decide)]) (by decide) ?_
  refine J_aload_n (pc' := 72) dX7_weighs_71 rfl rfl ?_
  refine J_iload_n (pc' := 73) dX7_weighs_72 rfl rfl ?_
  refine J_iload_n (pc' := 74) dX7_weighs_73 rfl rfl ?_
  refine J_V2v (pc' := 77) dX7_weighs_74 lk_7_268 cd_X7_plainWeighs (k_npw hz h8) (ly_68) (l84_68) rfl rfl (jroom_of rfl) (Nat.le_of_ble_eq_true rfl) rfl ?_
  exact J_iret dX7_weighs_77  (by unfold nW; rw [if_neg e6_1, if_neg e6_4, if_neg e6_6]; exact ⟨rfl, rfl⟩)
set_option maxHeartbeats 4000000 in
set_option maxRecDepth 100000 in
theorem k_nps {G : jG} {w : jWd} {z : vS} (hz : vOk z) {k : Nat} (h8 : k < 8) {x : Int32} : jKd G 4 yX7_plainSays cX7_plainSays 3 (some .int) [.ref 68, .int (nI k), .int x] (nPut w z) (some (.int (nPS ((abM (w.1 69)) 0 k) (nI k) x z).1)) (nPut w (nPS ((abM (w.1 69)) 0 k) (nI k) x z).2) := by
  refine jK_of (own := RX7) [some (.ref 68), some (.int (nI k)), some (.int x)] pn7 rfl (Nat.le_of_ble_eq_true rfl) rfl ?_
  refine J_aload_n (pc' := 1) dX7_plainSays_0 rfl rfl ?_
  refine J_bipush (v := 11) (pc' := 3) dX7_plainSays_1 (by decide) rfl ?_
  refine J_V10 (pc' := 6) dX7_plainSays_3 lk_7_265 cd_X7_begins (k_nbeg hz) (ly_68) (l84_68) rfl rfl (jroom_of rfl) (Nat.le_of_ble_eq_true rfl) rfl ?_
  refine J_aload_n (pc' := 7) dX7_plainSays_6 rfl rfl ?_
  refine J_iload_n (pc' := 8) dX7_plainSays_7 rfl rfl ?_
  refine J_iload_n (pc' := 9) dX7_plainSays_8 rfl rfl ?_
  refine J_V2v (pc' := 12) dX7_plainSays_9 lk_7_274 cd_X7_weighs (k_nw (vTr_ok hz) h8) (ly_68) (l84_68) rfl rfl (jroom_of rfl) (Nat.le_of_ble_eq_true rfl) rfl ?_
  refine J_iconst (v := 2) (pc' := 13) dX7_plainSays_12 (by decide) rfl ?_
  refine J_imul (pc' := 14) dX7_plainSays_13 rfl ?_
  exact J_iret dX7_plainSays_14  ⟨rfl, rfl⟩
set_option maxHeartbeats 4000000 in
set_option maxRecDepth 100000 in
theorem k_nss {G : jG} {w : jWd} {z : vS} (hz : vOk z) {k : Nat} (h8 : k < 8) {x : Int32} : jKd G 5 yX7_starSays cX7_starSays 3 (some .int) [.ref 68, .int (nI k), .int x] (nPut w z) (some (.int (nSS ((abM (w.1 69)) 0 k) (nI k) x z).1)) (nPut w (nSS ((abM (w.1 69)) 0 k) (nI k) x z).2) := by
  refine jK_of (own := RX7) [some (.ref 68), some (.int (nI k)), some (.int x)] pn7 rfl (Nat.le_of_ble_eq_true rfl) rfl ?_
  refine J_aload_n (pc' := 1) dX7_starSays_0 rfl rfl ?_
  refine J_bipush (v := 30) (pc' := 3) dX7_starSays_1 (by decide) rfl ?_
  refine J_V10 (pc' := 6) dX7_starSays_3 lk_7_265 cd_X7_begins (k_nbeg hz) (ly_68) (l84_68) rfl rfl (jroom_of rfl) (Nat.le_of_ble_eq_true rfl) rfl ?_
  refine J_aload_n (pc' := 7) dX7_starSays_6 rfl rfl ?_
  refine J_iload_n (pc' := 8) dX7_starSays_7 rfl rfl ?_
  refine J_iload_n (pc' := 9) dX7_starSays_8 rfl rfl ?_
  refine J_V2v (pc' := 12) dX7_starSays_9 lk_7_277 cd_X7_plainSays (k_nps (vTr_ok hz) h8) (ly_68) (l84_68) rfl rfl (jroom_of rfl) (Nat.le_of_ble_eq_true rfl) rfl ?_
  refine J_ineg (pc' := 13) dX7_starSays_12 rfl ?_
  exact J_iret dX7_starSays_13  ⟨rfl, rfl⟩
set_option maxHeartbeats 4000000 in
set_option maxRecDepth 100000 in
theorem k_ns {G : jG} {w : jWd} {z : vS} (hz : vOk z) {k : Nat} (h8 : k < 8) {x : Int32} : jKd G 6 yX7_says cX7_says 3 (some .int) [.ref 68, .int (nI k), .int x] (nPut w z) (some (.int (nS ((abM (w.1 69)) 0 k) (nI k) ((abM (w.1 69)) 1 k) x z).1)) (nPut w (nS ((abM (w.1 69)) 0 k) (nI k) ((abM (w.1 69)) 1 k) x z).2) := by
  refine jK_of (own := RX7) [some (.ref 68), some (.int (nI k)), some (.int x)] pn7 rfl (Nat.le_of_ble_eq_true rfl) rfl ?_
  refine J_aload_n (pc' := 1) dX7_says_0 rfl rfl ?_
  refine J_iload_n (pc' := 2) dX7_says_1 rfl rfl ?_
  refine J_iconst (v := 0) (pc' := 3) dX7_says_2 (by decide) rfl ?_
  refine J_V2v (pc' := 6) dX7_says_3 lk_7_65 cd_X7_of (k_nof0 h8) (ly_68) (l84_68) rfl rfl (jroom_of rfl) (Nat.le_of_ble_eq_true rfl) rfl ?_
  by_cases e6_2 : ((abM (w.1 69)) 0 k) = 2
  · refine J_tabIn (pc' := 0) (off := 34) 40 dX7_says_6 (by rw [e6_2]; decide) (by rw [e6_2]; decide) (by rw [e6_2]; decide) (by decide) ?_
    refine J_aload_n (pc' := 41) dX7_says_40 rfl rfl ?_
    refine J_iload_n (pc' := 42) dX7_says_41 rfl rfl ?_
    refine J_iload_n (pc' := 43) dX7_says_42 rfl rfl ?_
    refine J_V2v (pc' := 46) dX7_says_43 lk_7_280 cd_X7_starSays (k_nss hz h8) (ly_68) (l84_68) rfl rfl (jroom_of rfl) (Nat.le_of_ble_eq_true rfl) rfl ?_
    exact J_iret dX7_says_46  (by unfold nS; rw [if_pos e6_2]; exact ⟨rfl, rfl⟩)
  by_cases e6_3 : ((abM (w.1 69)) 0 k) = 3
  · refine J_tabIn (pc' := 0) (off := 76) 82 dX7_says_6 (by rw [e6_3]; decide) (by rw [e6_3]; decide) (by rw [e6_3]; decide) (by decide) ?_
    refine J_aload_n (pc' := 83) dX7_says_82 rfl rfl ?_
    refine J_iload_n (pc' := 84) dX7_says_83 rfl rfl ?_
    refine J_iload_n (pc' := 85) dX7_says_84 rfl rfl ?_
    refine J_V2v (pc' := 88) dX7_says_85 lk_7_277 cd_X7_plainSays (k_nps hz h8) (ly_68) (l84_68) rfl rfl (jroom_of rfl) (Nat.le_of_ble_eq_true rfl) rfl ?_
    exact J_iret dX7_says_88  (by unfold nS; rw [if_neg (by first | exact e6_2 | (rw [e6_3]; decide) | (rw [e6_4]; decide)), if_neg (by first | exact e6_5 | (rw [e6_3]; decide) | (rw [e6_4]; decide)), if_neg (by first | exact e6_6 | (rw [e6_3]; decide) | (rw [e6_4]; decide))]; exact ⟨rfl, rfl⟩)
  by_cases e6_4 : ((abM (w.1 69)) 0 k) = 4
  · refine J_tabIn (pc' := 0) (off := 76) 82 dX7_says_6 (by rw [e6_4]; decide) (by rw [e6_4]; decide) (by rw [e6_4]; decide) (by decide) ?_
    refine J_aload_n (pc' := 83) dX7_says_82 rfl rfl ?_
    refine J_iload_n (pc' := 84) dX7_says_83 rfl rfl ?_
    refine J_iload_n (pc' := 85) dX7_says_84 rfl rfl ?_
    refine J_V2v (pc' := 88) dX7_says_85 lk_7_277 cd_X7_plainSays (k_nps hz h8) (ly_68) (l84_68) rfl rfl (jroom_of rfl) (Nat.le_of_ble_eq_true rfl) rfl ?_
    exact J_iret dX7_says_88  (by unfold nS; rw [if_neg (by first | exact e6_2 | (rw [e6_3]; decide) | (rw [e6_4]; decide)), if_neg (by first | exact e6_5 | (rw [e6_3]; decide) | (rw [e6_4]; decide)), if_neg (by first | exact e6_6 | (rw [e6_3]; decide) | (rw [e6_4]; decide))]; exact ⟨rfl, rfl⟩)
  by_cases e6_5 : ((abM (w.1 69)) 0 k) = 5
  · refine J_tabIn (pc' := 0) (off := 41) 47 dX7_says_6 (by rw [e6_5]; decide) (by rw [e6_5]; decide) (by rw [e6_5]; decide) (by decide) ?_
    refine J_aload_n (pc' := 48) dX7_says_47 rfl rfl ?_
    refine J_bipush (v := 60) (pc' := 50) dX7_says_48 (by decide) rfl ?_
    refine J_V10 (pc' := 53) dX7_says_50 lk_7_265 cd_X7_begins (k_nbeg hz) (ly_68) (l84_68) rfl rfl (jroom_of rfl) (Nat.le_of_ble_eq_true rfl) rfl ?_
    refine J_aload_n (pc' := 54) dX7_says_53 rfl rfl ?_
    refine J_iload_n (pc' := 55) dX7_says_54 rfl rfl ?_
    refine J_iload_n (pc' := 56) dX7_says_55 rfl rfl ?_
    refine J_iconst (v := 1) (pc' := 57) dX7_says_56 (by decide) rfl ?_
    refine J_iadd (pc' := 58) dX7_says_57 rfl ?_
    refine J_V2v (pc' := 61) dX7_says_58 lk_7_280 cd_X7_starSays (k_nss (vTr_ok hz) h8) (ly_68) (l84_68) rfl rfl (jroom_of rfl) (Nat.le_of_ble_eq_true rfl) rfl ?_
    exact J_iret dX7_says_61  (by unfold nS; rw [if_neg e6_2, if_pos e6_5]; exact ⟨rfl, rfl⟩)
  by_cases e6_6 : ((abM (w.1 69)) 0 k) = 6
  · refine J_tabIn (pc' := 0) (off := 56) 62 dX7_says_6 (by rw [e6_6]; decide) (by rw [e6_6]; decide) (by rw [e6_6]; decide) (by decide) ?_
    refine J_aload_n (pc' := 63) dX7_says_62 rfl rfl ?_
    refine J_bipush (v := 71) (pc' := 65) dX7_says_63 (by decide) rfl ?_
    refine J_V10 (pc' := 68) dX7_says_65 lk_7_265 cd_X7_begins (k_nbeg hz) (ly_68) (l84_68) rfl rfl (jroom_of rfl) (Nat.le_of_ble_eq_true rfl) rfl ?_
    refine J_aload_n (pc' := 69) dX7_says_68 rfl rfl ?_
    refine J_iload_n (pc' := 70) dX7_says_69 rfl rfl ?_
    refine J_iload_n (pc' := 71) dX7_says_70 rfl rfl ?_
    refine J_V2v (pc' := 74) dX7_says_71 lk_7_277 cd_X7_plainSays (k_nps (vTr_ok hz) h8) (ly_68) (l84_68) rfl rfl (jroom_of rfl) (Nat.le_of_ble_eq_true rfl) rfl ?_
    refine J_aload_n (pc' := 75) dX7_says_74 rfl rfl ?_
    refine J_iload_n (pc' := 76) dX7_says_75 rfl rfl ?_
    refine J_iconst (v := 1) (pc' := 77) dX7_says_76 (by decide) rfl ?_
    refine J_V2v (pc' := 80) dX7_says_77 lk_7_65 cd_X7_of (k_nof1 h8) (ly_68) (l84_68) rfl rfl (jroom_of rfl) (Nat.le_of_ble_eq_true rfl) rfl ?_
    refine J_iadd (pc' := 81) dX7_says_80 rfl ?_
    exact J_iret dX7_says_81  (by unfold nS; rw [if_neg e6_2, if_neg e6_5, if_pos e6_6]; exact ⟨rfl, rfl⟩)
  refine J_tabOut (pc' := 0) 82 dX7_says_6 (by have q0 := zneI e6_2 (k := 2) (by decide); have q1 := zneI e6_3 (k := 3) (by decide); have q2 := zneI e6_4 (k := 4) (by decide); have q3 := zneI e6_5 (k := 5) (by decide); have q4 := zneI e6_6 (k := 6) (by decide); omega) (by decide) ?_
  refine J_aload_n (pc' := 83) dX7_says_82 rfl rfl ?_
  refine J_iload_n (pc' := 84) dX7_says_83 rfl rfl ?_
  refine J_iload_n (pc' := 85) dX7_says_84 rfl rfl ?_
  refine J_V2v (pc' := 88) dX7_says_85 lk_7_277 cd_X7_plainSays (k_nps hz h8) (ly_68) (l84_68) rfl rfl (jroom_of rfl) (Nat.le_of_ble_eq_true rfl) rfl ?_
  exact J_iret dX7_says_88  (by unfold nS; rw [if_neg (by first | exact e6_2 | (rw [e6_3]; decide) | (rw [e6_4]; decide)), if_neg (by first | exact e6_5 | (rw [e6_3]; decide) | (rw [e6_4]; decide)), if_neg (by first | exact e6_6 | (rw [e6_3]; decide) | (rw [e6_4]; decide))]; exact ⟨rfl, rfl⟩)
set_option maxHeartbeats 4000000 in
set_option maxRecDepth 100000 in
theorem k_npt {G : jG} {w : jWd} {z : vS} (hz : vOk z) {k : Nat} (h8 : k < 8) {x : Int32} : jKd G 7 yX7_plainTies cX7_plainTies 3 (some .int) [.ref 68, .int (nI k), .int x] (nPut w z) (some (.int (nPT ((abM (w.1 69)) 0 k) (nI k) ((abM (w.1 69)) 1 k) x z).1)) (nPut w (nPT ((abM (w.1 69)) 0 k) (nI k) ((abM (w.1 69)) 1 k) x z).2) := by
  refine jK_of (own := RX7) [some (.ref 68), some (.int (nI k)), some (.int x)] pn7 rfl (Nat.le_of_ble_eq_true rfl) rfl ?_
  refine J_aload_n (pc' := 1) dX7_plainTies_0 rfl rfl ?_
  refine J_bipush (v := 12) (pc' := 3) dX7_plainTies_1 (by decide) rfl ?_
  refine J_V10 (pc' := 6) dX7_plainTies_3 lk_7_265 cd_X7_begins (k_nbeg hz) (ly_68) (l84_68) rfl rfl (jroom_of rfl) (Nat.le_of_ble_eq_true rfl) rfl ?_
  refine J_aload_n (pc' := 7) dX7_plainTies_6 rfl rfl ?_
  refine J_iload_n (pc' := 8) dX7_plainTies_7 rfl rfl ?_
  refine J_iload_n (pc' := 9) dX7_plainTies_8 rfl rfl ?_
  refine J_V2v (pc' := 12) dX7_plainTies_9 lk_7_283 cd_X7_says (k_ns (vTr_ok hz) h8) (ly_68) (l84_68) rfl rfl (jroom_of rfl) (Nat.le_of_ble_eq_true rfl) rfl ?_
  refine J_aload_n (pc' := 13) dX7_plainTies_12 rfl rfl ?_
  refine J_iload_n (pc' := 14) dX7_plainTies_13 rfl rfl ?_
  refine J_iconst (v := 1) (pc' := 15) dX7_plainTies_14 (by decide) rfl ?_
  refine J_V2v (pc' := 18) dX7_plainTies_15 lk_7_65 cd_X7_of (k_nof1 h8) (ly_68) (l84_68) rfl rfl (jroom_of rfl) (Nat.le_of_ble_eq_true rfl) rfl ?_
  refine J_isub (pc' := 19) dX7_plainTies_18 rfl ?_
  exact J_iret dX7_plainTies_19  ⟨rfl, rfl⟩
set_option maxHeartbeats 4000000 in
set_option maxRecDepth 100000 in
theorem k_nt {G : jG} {w : jWd} {z : vS} (hz : vOk z) {k : Nat} (h8 : k < 8) {x : Int32} : jKd G 8 yX7_ties cX7_ties 3 (some .int) [.ref 68, .int (nI k), .int x] (nPut w z) (some (.int (nT ((abM (w.1 69)) 0 k) (nI k) ((abM (w.1 69)) 1 k) x z).1)) (nPut w (nT ((abM (w.1 69)) 0 k) (nI k) ((abM (w.1 69)) 1 k) x z).2) := by
  refine jK_of (own := RX7) [some (.ref 68), some (.int (nI k)), some (.int x)] pn7 rfl (Nat.le_of_ble_eq_true rfl) rfl ?_
  refine J_aload_n (pc' := 1) dX7_ties_0 rfl rfl ?_
  refine J_iload_n (pc' := 2) dX7_ties_1 rfl rfl ?_
  refine J_iconst (v := 0) (pc' := 3) dX7_ties_2 (by decide) rfl ?_
  refine J_V2v (pc' := 6) dX7_ties_3 lk_7_65 cd_X7_of (k_nof0 h8) (ly_68) (l84_68) rfl rfl (jroom_of rfl) (Nat.le_of_ble_eq_true rfl) rfl ?_
  by_cases e6_3 : ((abM (w.1 69)) 0 k) = 3
  · refine J_look (pc' := 0) (off := 26) 32 dX7_ties_6 (by decide) (by rw [e6_3]; decide) (by decide) ?_
    refine J_aload_n (pc' := 33) dX7_ties_32 rfl rfl ?_
    refine J_bipush (v := 40) (pc' := 35) dX7_ties_33 (by decide) rfl ?_
    refine J_V10 (pc' := 38) dX7_ties_35 lk_7_265 cd_X7_begins (k_nbeg hz) (ly_68) (l84_68) rfl rfl (jroom_of rfl) (Nat.le_of_ble_eq_true rfl) rfl ?_
    refine J_aload_n (pc' := 39) dX7_ties_38 rfl rfl ?_
    refine J_iload_n (pc' := 40) dX7_ties_39 rfl rfl ?_
    refine J_iload_n (pc' := 41) dX7_ties_40 rfl rfl ?_
    refine J_iconst (v := 2) (pc' := 42) dX7_ties_41 (by decide) rfl ?_
    refine J_idiv (pc' := 43) dX7_ties_42 (by decide) rfl ?_
    refine J_V2v (pc' := 46) dX7_ties_43 lk_7_286 cd_X7_plainTies (k_npt (vTr_ok hz) h8) (ly_68) (l84_68) rfl rfl (jroom_of rfl) (Nat.le_of_ble_eq_true rfl) rfl ?_
    exact J_iret dX7_ties_46  (by unfold nT; rw [if_pos e6_3]; exact ⟨rfl, rfl⟩)
  by_cases e6_4 : ((abM (w.1 69)) 0 k) = 4
  · refine J_look (pc' := 0) (off := 41) 47 dX7_ties_6 (by decide) (by rw [e6_4]; decide) (by decide) ?_
    refine J_aload_n (pc' := 48) dX7_ties_47 rfl rfl ?_
    refine J_bipush (v := 51) (pc' := 50) dX7_ties_48 (by decide) rfl ?_
    refine J_V10 (pc' := 53) dX7_ties_50 lk_7_265 cd_X7_begins (k_nbeg hz) (ly_68) (l84_68) rfl rfl (jroom_of rfl) (Nat.le_of_ble_eq_true rfl) rfl ?_
    refine J_aload_n (pc' := 54) dX7_ties_53 rfl rfl ?_
    refine J_iload_n (pc' := 55) dX7_ties_54 rfl rfl ?_
    refine J_iload_n (pc' := 56) dX7_ties_55 rfl rfl ?_
    refine J_V2v (pc' := 59) dX7_ties_56 lk_7_286 cd_X7_plainTies (k_npt (vTr_ok hz) h8) (ly_68) (l84_68) rfl rfl (jroom_of rfl) (Nat.le_of_ble_eq_true rfl) rfl ?_
    refine J_iload_n (pc' := 60) dX7_ties_59 rfl rfl ?_
    refine J_ixor (pc' := 61) dX7_ties_60 rfl ?_
    exact J_iret dX7_ties_61  (by unfold nT; rw [if_neg e6_3, if_pos e6_4]; exact ⟨rfl, rfl⟩)
  refine J_look (pc' := 0) (off := 56) 62 dX7_ties_6 (by decide) (by simp [Op.lookupswitch.offset, zneJ e6_3 (k := 3) (by decide), zneJ e6_4 (k := 4) (by decide)]) (by decide) ?_
  refine J_aload_n (pc' := 63) dX7_ties_62 rfl rfl ?_
  refine J_iload_n (pc' := 64) dX7_ties_63 rfl rfl ?_
  refine J_iload_n (pc' := 65) dX7_ties_64 rfl rfl ?_
  refine J_V2v (pc' := 68) dX7_ties_65 lk_7_286 cd_X7_plainTies (k_npt hz h8) (ly_68) (l84_68) rfl rfl (jroom_of rfl) (Nat.le_of_ble_eq_true rfl) rfl ?_
  exact J_iret dX7_ties_68  (by unfold nT; rw [if_neg e6_3, if_neg e6_4]; exact ⟨rfl, rfl⟩)
set_option maxHeartbeats 4000000 in
set_option maxRecDepth 100000 in
theorem k_npp {G : jG} {w : jWd} {z : vS} (hz : vOk z) {k : Nat} (h8 : k < 8) {x : Int32} : jKd G 1 yX7_plainParts cX7_plainParts 4 (some .int) [.ref 68, .int (nI k), .int x] (nPut w z) (some (.int (nPP (nI k) ((abM (w.1 69)) 1 k) x z).1)) (nPut w (nPP (nI k) ((abM (w.1 69)) 1 k) x z).2) := by
  refine jK_of (own := RX7) [some (.ref 68), some (.int (nI k)), some (.int x), none] pn7 rfl (Nat.le_of_ble_eq_true rfl) rfl ?_
  refine J_aload_n (pc' := 1) dX7_plainParts_0 rfl rfl ?_
  refine J_bipush (v := 13) (pc' := 3) dX7_plainParts_1 (by decide) rfl ?_
  refine J_V10 (pc' := 6) dX7_plainParts_3 lk_7_265 cd_X7_begins (k_nbeg hz) (ly_68) (l84_68) rfl rfl (jroom_of rfl) (Nat.le_of_ble_eq_true rfl) rfl ?_
  refine J_aload_n (pc' := 7) dX7_plainParts_6 rfl rfl ?_
  refine J_iload_n (pc' := 8) dX7_plainParts_7 rfl rfl ?_
  refine J_iconst (v := 1) (pc' := 9) dX7_plainParts_8 (by decide) rfl ?_
  refine J_V2v (pc' := 12) dX7_plainParts_9 lk_7_65 cd_X7_of (k_nof1 h8) (ly_68) (l84_68) rfl rfl (jroom_of rfl) (Nat.le_of_ble_eq_true rfl) rfl ?_
  refine J_iload_n (pc' := 13) dX7_plainParts_12 rfl rfl ?_
  refine J_isub (pc' := 14) dX7_plainParts_13 rfl ?_
  refine J_istore_n (pc' := 15) dX7_plainParts_14 (Nat.le_of_ble_eq_true rfl) (jst3 rfl rfl) rfl ?_
  refine J_aload_n (pc' := 16) dX7_plainParts_15 rfl rfl ?_
  refine J_iload_n (pc' := 17) dX7_plainParts_16 rfl rfl ?_
  refine J_if_ne 24 (pc' := 20) dX7_plainParts_17 (by decide) rfl (fun h_17 => ?_) (fun h_17 => ?_)
  · refine J_iconst (v := 0) (pc' := 25) dX7_plainParts_24 (by decide) rfl ?_
    refine J_putZ (pc' := 28) dX7_plainParts_25 fp_7_289 (ly_68) (l84_68) rfl (by decide) rfl ?_
    refine J_aload_n (pc' := 29) dX7_plainParts_28 rfl rfl ?_
    refine J_getI (pc' := 32) dX7_plainParts_29 fl_7_289 (ly_68) (l84_68) rfl rfl ?_
    refine J_if_eq 39 (pc' := 35) dX7_plainParts_32 (by decide) rfl (fun h_32 => ?_) (fun h_32 => absurd (by rw [jset_1, if_pos rfl, if_pos rfl]) h_32)
    refine J_iload_n (pc' := 40) dX7_plainParts_39 rfl rfl ?_
    refine J_iload_n (pc' := 41) dX7_plainParts_40 rfl rfl ?_
    refine J_idiv (pc' := 42) dX7_plainParts_41 h_17 rfl ?_
    exact J_iret dX7_plainParts_42  ⟨by simp only [nPP]; rw [if_neg h_17], by rw [nPut_pt]; simp only [nPP]; rw [if_neg h_17]⟩
  · refine J_iconst (v := 1) (pc' := 21) dX7_plainParts_20 (by decide) rfl ?_
    refine J_goto (pc' := 0) 25 dX7_plainParts_21 (by decide) ?_
    refine J_putZ (pc' := 28) dX7_plainParts_25 fp_7_289 (ly_68) (l84_68) rfl (by decide) rfl ?_
    refine J_aload_n (pc' := 29) dX7_plainParts_28 rfl rfl ?_
    refine J_getI (pc' := 32) dX7_plainParts_29 fl_7_289 (ly_68) (l84_68) rfl rfl ?_
    refine J_if_eq 39 (pc' := 35) dX7_plainParts_32 (by decide) rfl (fun h_32 => absurd h_32 (by rw [jset_1, if_pos rfl, if_pos rfl]; decide)) (fun h_32 => ?_)
    refine J_iconst (v := 0) (pc' := 36) dX7_plainParts_35 (by decide) rfl ?_
    refine J_goto (pc' := 0) 42 dX7_plainParts_36 (by decide) ?_
    exact J_iret dX7_plainParts_42  ⟨by simp only [nPP]; rw [if_pos (by first | exact h_17 | exact Decidable.not_not.mp h_17)], by rw [nPut_pt]; simp only [nPP]; rw [if_pos (by first | exact h_17 | exact Decidable.not_not.mp h_17)]⟩
set_option maxHeartbeats 4000000 in
set_option maxRecDepth 100000 in
theorem k_np {G : jG} {w : jWd} {z : vS} (hz : vOk z) {k : Nat} (h8 : k < 8) {x : Int32} : jKd G 7 yX7_partsBy cX7_partsBy 4 (some .int) [.ref 68, .int (nI k), .int x] (nPut w z) (some (.int (nP ((abM (w.1 69)) 0 k) (nI k) ((abM (w.1 69)) 1 k) x z).1)) (nPut w (nP ((abM (w.1 69)) 0 k) (nI k) ((abM (w.1 69)) 1 k) x z).2) := by
  refine jK_of (own := RX7) [some (.ref 68), some (.int (nI k)), some (.int x), none] pn7 rfl (Nat.le_of_ble_eq_true rfl) rfl ?_
  refine J_aload_n (pc' := 1) dX7_partsBy_0 rfl rfl ?_
  refine J_iload_n (pc' := 2) dX7_partsBy_1 rfl rfl ?_
  refine J_iconst (v := 0) (pc' := 3) dX7_partsBy_2 (by decide) rfl ?_
  refine J_V2v (pc' := 6) dX7_partsBy_3 lk_7_65 cd_X7_of (k_nof0 h8) (ly_68) (l84_68) rfl rfl (jroom_of rfl) (Nat.le_of_ble_eq_true rfl) rfl ?_
  refine J_iconst (v := 1) (pc' := 7) dX7_partsBy_6 (by decide) rfl ?_
  refine J_icmp_eq 20 (pc' := 10) dX7_partsBy_7 (by decide) rfl (fun h_7 => ?_) (fun h_7 => ?_)
  · refine J_aload_n (pc' := 21) dX7_partsBy_20 rfl rfl ?_
    refine J_bipush (v := 21) (pc' := 23) dX7_partsBy_21 (by decide) rfl ?_
    refine J_V10 (pc' := 26) dX7_partsBy_23 lk_7_265 cd_X7_begins (k_nbeg hz) (ly_68) (l84_68) rfl rfl (jroom_of rfl) (Nat.le_of_ble_eq_true rfl) rfl ?_
    refine J_aload_n (pc' := 27) dX7_partsBy_26 rfl rfl ?_
    refine J_iload_n (pc' := 28) dX7_partsBy_27 rfl rfl ?_
    refine J_iload_n (pc' := 29) dX7_partsBy_28 rfl rfl ?_
    refine J_V2v (pc' := 32) dX7_partsBy_29 lk_7_292 cd_X7_plainParts (k_npp (vTr_ok hz) h8) (ly_68) (l84_68) rfl rfl (jroom_of rfl) (Nat.le_of_ble_eq_true rfl) rfl ?_
    refine J_istore_n (pc' := 33) dX7_partsBy_32 (Nat.le_of_ble_eq_true rfl) (jst3 rfl rfl) rfl ?_
    have hv : (nPut w (nPP (nI k) ((abM (w.1 69)) 1 k) x (vTr 21 z)).2).1 68 23 = (if ((abM (w.1 69)) 1 k) - nI k = 0 then 1 else 0) := rfl
    have hpp : (nPut w (nPP (nI k) ((abM (w.1 69)) 1 k) x (vTr 21 z)).2).1 68 23 ≠ 0 ↔ ((abM (w.1 69)) 1 k) - nI k = 0 := by
      rw [hv]
      by_cases e : ((abM (w.1 69)) 1 k) - nI k = 0
      · rw [if_pos e]; exact ⟨fun _ => e, fun _ => by decide⟩
      · rw [if_neg e]; exact ⟨fun q => absurd rfl q, fun q => absurd q e⟩
    refine J_aload_n (pc' := 34) dX7_partsBy_33 rfl rfl ?_
    refine J_getI (pc' := 37) dX7_partsBy_34 fl_7_289 (ly_68) (l84_68) rfl rfl ?_
    refine J_if_eq 44 (pc' := 40) dX7_partsBy_37 (by decide) rfl (fun h_37 => ?_) (fun h_37 => ?_)
    · refine J_iload_n (pc' := 45) dX7_partsBy_44 rfl rfl ?_
      refine J_aload_n (pc' := 46) dX7_partsBy_45 rfl rfl ?_
      refine J_iload_n (pc' := 47) dX7_partsBy_46 rfl rfl ?_
      refine J_iconst (v := 1) (pc' := 48) dX7_partsBy_47 (by decide) rfl ?_
      refine J_V2v (pc' := 51) dX7_partsBy_48 lk_7_283 cd_X7_says (k_ns (nPP_ok (t := nI k) (m := ((abM (w.1 69)) 1 k)) (x := x) (vTr_ok hz)) h8) (ly_68) (l84_68) rfl rfl (jroom_of rfl) (Nat.le_of_ble_eq_true rfl) rfl ?_
      refine J_iadd (pc' := 52) dX7_partsBy_51 rfl ?_
      exact J_iret dX7_partsBy_52  (by unfold nP; rw [if_pos (show ((abM (w.1 69)) 0 k) = 1 ∨ ((abM (w.1 69)) 0 k) = 4 from by first | exact Or.inl h_7 | exact Or.inr h_17 | exact Or.inr (Decidable.not_not.mp h_17)), if_neg (fun q => (hpp.mpr q) h_37)]; exact ⟨rfl, rfl⟩)
    · refine J_iconst (v := 0) (pc' := 41) dX7_partsBy_40 (by decide) rfl ?_
      refine J_goto (pc' := 0) 52 dX7_partsBy_41 (by decide) ?_
      exact J_iret dX7_partsBy_52  (by unfold nP; rw [if_pos (show ((abM (w.1 69)) 0 k) = 1 ∨ ((abM (w.1 69)) 0 k) = 4 from by first | exact Or.inl h_7 | exact Or.inr h_17 | exact Or.inr (Decidable.not_not.mp h_17)), if_pos (hpp.mp h_37)]; exact ⟨rfl, rfl⟩)
  · refine J_aload_n (pc' := 11) dX7_partsBy_10 rfl rfl ?_
    refine J_iload_n (pc' := 12) dX7_partsBy_11 rfl rfl ?_
    refine J_iconst (v := 0) (pc' := 13) dX7_partsBy_12 (by decide) rfl ?_
    refine J_V2v (pc' := 16) dX7_partsBy_13 lk_7_65 cd_X7_of (k_nof0 h8) (ly_68) (l84_68) rfl rfl (jroom_of rfl) (Nat.le_of_ble_eq_true rfl) rfl ?_
    refine J_iconst (v := 4) (pc' := 17) dX7_partsBy_16 (by decide) rfl ?_
    refine J_icmp_ne 53 (pc' := 20) dX7_partsBy_17 (by decide) rfl (fun h_17 => ?_) (fun h_17 => ?_)
    · refine J_aload_n (pc' := 54) dX7_partsBy_53 rfl rfl ?_
      refine J_iload_n (pc' := 55) dX7_partsBy_54 rfl rfl ?_
      refine J_iload_n (pc' := 56) dX7_partsBy_55 rfl rfl ?_
      refine J_V2v (pc' := 59) dX7_partsBy_56 lk_7_292 cd_X7_plainParts (k_npp hz h8) (ly_68) (l84_68) rfl rfl (jroom_of rfl) (Nat.le_of_ble_eq_true rfl) rfl ?_
      exact J_iret dX7_partsBy_59  (by unfold nP; rw [if_neg (show ¬ (((abM (w.1 69)) 0 k) = 1 ∨ ((abM (w.1 69)) 0 k) = 4) from fun q => q.elim h_7 h_17)]; exact ⟨rfl, rfl⟩)
    · refine J_aload_n (pc' := 21) dX7_partsBy_20 rfl rfl ?_
      refine J_bipush (v := 21) (pc' := 23) dX7_partsBy_21 (by decide) rfl ?_
      refine J_V10 (pc' := 26) dX7_partsBy_23 lk_7_265 cd_X7_begins (k_nbeg hz) (ly_68) (l84_68) rfl rfl (jroom_of rfl) (Nat.le_of_ble_eq_true rfl) rfl ?_
      refine J_aload_n (pc' := 27) dX7_partsBy_26 rfl rfl ?_
      refine J_iload_n (pc' := 28) dX7_partsBy_27 rfl rfl ?_
      refine J_iload_n (pc' := 29) dX7_partsBy_28 rfl rfl ?_
      refine J_V2v (pc' := 32) dX7_partsBy_29 lk_7_292 cd_X7_plainParts (k_npp (vTr_ok hz) h8) (ly_68) (l84_68) rfl rfl (jroom_of rfl) (Nat.le_of_ble_eq_true rfl) rfl ?_
      refine J_istore_n (pc' := 33) dX7_partsBy_32 (Nat.le_of_ble_eq_true rfl) (jst3 rfl rfl) rfl ?_
      have hv : (nPut w (nPP (nI k) ((abM (w.1 69)) 1 k) x (vTr 21 z)).2).1 68 23 = (if ((abM (w.1 69)) 1 k) - nI k = 0 then 1 else 0) := rfl
      have hpp : (nPut w (nPP (nI k) ((abM (w.1 69)) 1 k) x (vTr 21 z)).2).1 68 23 ≠ 0 ↔ ((abM (w.1 69)) 1 k) - nI k = 0 := by
        rw [hv]
        by_cases e : ((abM (w.1 69)) 1 k) - nI k = 0
        · rw [if_pos e]; exact ⟨fun _ => e, fun _ => by decide⟩
        · rw [if_neg e]; exact ⟨fun q => absurd rfl q, fun q => absurd q e⟩
      refine J_aload_n (pc' := 34) dX7_partsBy_33 rfl rfl ?_
      refine J_getI (pc' := 37) dX7_partsBy_34 fl_7_289 (ly_68) (l84_68) rfl rfl ?_
      refine J_if_eq 44 (pc' := 40) dX7_partsBy_37 (by decide) rfl (fun h_37 => ?_) (fun h_37 => ?_)
      · refine J_iload_n (pc' := 45) dX7_partsBy_44 rfl rfl ?_
        refine J_aload_n (pc' := 46) dX7_partsBy_45 rfl rfl ?_
        refine J_iload_n (pc' := 47) dX7_partsBy_46 rfl rfl ?_
        refine J_iconst (v := 1) (pc' := 48) dX7_partsBy_47 (by decide) rfl ?_
        refine J_V2v (pc' := 51) dX7_partsBy_48 lk_7_283 cd_X7_says (k_ns (nPP_ok (t := nI k) (m := ((abM (w.1 69)) 1 k)) (x := x) (vTr_ok hz)) h8) (ly_68) (l84_68) rfl rfl (jroom_of rfl) (Nat.le_of_ble_eq_true rfl) rfl ?_
        refine J_iadd (pc' := 52) dX7_partsBy_51 rfl ?_
        exact J_iret dX7_partsBy_52  (by unfold nP; rw [if_pos (show ((abM (w.1 69)) 0 k) = 1 ∨ ((abM (w.1 69)) 0 k) = 4 from by first | exact Or.inl h_7 | exact Or.inr h_17 | exact Or.inr (Decidable.not_not.mp h_17)), if_neg (fun q => (hpp.mpr q) h_37)]; exact ⟨rfl, rfl⟩)
      · refine J_iconst (v := 0) (pc' := 41) dX7_partsBy_40 (by decide) rfl ?_
        refine J_goto (pc' := 0) 52 dX7_partsBy_41 (by decide) ?_
        exact J_iret dX7_partsBy_52  (by unfold nP; rw [if_pos (show ((abM (w.1 69)) 0 k) = 1 ∨ ((abM (w.1 69)) 0 k) = 4 from by first | exact Or.inl h_7 | exact Or.inr h_17 | exact Or.inr (Decidable.not_not.mp h_17)), if_pos (hpp.mp h_37)]; exact ⟨rfl, rfl⟩)
