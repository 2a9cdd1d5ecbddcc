/-! ===== the reference reads ===== -/
/-! ===== the reference reads ===== -/
theorem pWr_ok2 {s : Int32} {z : rS} (h : z.2.1 ≤ 60) : (pWr s z).2.1 ≤ 60 := by
  unfold pWr
  split
  · show z.2.1 + 1 ≤ 60; omega
  · exact h
def mGl (w0 : jWd) (f i : Nat) : Prop := w0.1 69 6 = nI f ∧ f ≤ 60 ∧ w0.1 68 20 = nI i ∧ i < 2
abbrev mTP (w0 : jWd) : Nat → Int32 := fun a => w0.1 69 (56 + a)
def mOk (w0 w : jWd) : Prop := (∀ a, a ≠ 68 → a ≠ 79 → a ≠ 80 → w.1 a = w0.1 a) ∧ (∀ k, k < 16 ∨ 20 ≤ k → w.1 68 k = w0.1 68 k) ∧ w.2 = w0.2
def mRd (w : jWd) (z : rS) : Prop := w.1 68 16 = nI z.2.1 ∧ z.2.1 ≤ 60 ∧ ∀ j, j < z.2.1 → mTk (w.1 79 j) (w.1 80 j) ∧ sEnc (w.1 79 j) (w.1 80 j) = z.2.2 j
def mRes (w0 w : jWd) (o : Nat) (r : Bool × rS) : Prop := mOk w0 w ∧ w.1 68 18 = nI o ∧ w.1 68 17 = nI r.2.1 ∧ r.2.1 ≤ 60 ∧ w.1 68 19 = (if r.1 = true then 0 else 1) ∧ (∃ c, c ≤ 60 ∧ w.1 68 16 = nI c) ∧ (r.1 = true → mRd w r.2)
theorem mOk.s68 {w0 w : jWd} (h : mOk w0 w) {k : Nat} {v : Int32} (hk : 16 ≤ k ∧ k < 20) : mOk w0 (jset w 68 k v) := ⟨fun a q1 q2 q3 => by rw [jset_off q1]; exact h.1 a q1 q2 q3, fun j q => by rw [jset_1, if_pos rfl, if_neg (by omega)]; exact h.2.1 j q, h.2.2⟩
theorem mRd.s68 {w : jWd} {z : rS} (h : mRd w z) {k : Nat} {v : Int32} (hk : k ≠ 16) : mRd (jset w 68 k v) z := ⟨by rw [jset_1, if_pos rfl, if_neg (by omega)]; exact h.1, h.2.1, fun j hj => by rw [jset_off (by decide), jset_off (by decide)]; exact h.2.2 j hj⟩
theorem mRes.ad {w0 w : jWd} {o : Nat} {z : rS} (h : mRes w0 w o (true, z)) (hz : z.1 < 60) : mRes w0 (jset w 68 17 (nI z.1 + 1)) o (true, pAd z) := by
  obtain ⟨h1, h2, h3, h4, h5, ⟨c, hc, h6⟩, h7⟩ := h
  refine ⟨h1.s68 (by omega), by rw [jset_1, if_pos rfl, if_neg (by decide)]; exact h2, by rw [jset_1, if_pos rfl, if_pos rfl, nI_1]; rfl, by show z.1 + 1 ≤ 60; omega, by rw [jset_1, if_pos rfl, if_neg (by decide)]; exact h5, ⟨c, hc, by rw [jset_1, if_pos rfl, if_neg (by decide)]; exact h6⟩, fun _ => ?_⟩
  exact (h7 rfl).s68 (by decide)
theorem mRes.op {w0 w : jWd} {o o2 : Nat} {r : Bool × rS} (h : mRes w0 w o r) {v : Int32} (hv : v = nI o2) : mRes w0 (jset w 68 18 v) o2 r := by
  obtain ⟨h1, h2, h3, h4, h5, ⟨c, hc, h6⟩, h7⟩ := h
  exact ⟨h1.s68 (by omega), by rw [jset_1, if_pos rfl, if_pos rfl]; exact hv, by rw [jset_1, if_pos rfl, if_neg (by decide)]; exact h3, h4, by rw [jset_1, if_pos rfl, if_neg (by decide)]; exact h5, ⟨c, hc, by rw [jset_1, if_pos rfl, if_neg (by decide)]; exact h6⟩, fun q => (h7 q).s68 (by decide)⟩
theorem mRes.bad {w0 w : jWd} {o : Nat} {r : Bool × rS} (h : mRes w0 w o r) : mRes w0 (jset w 68 19 1) o (false, r.2) := by
  obtain ⟨h1, h2, h3, h4, h5, ⟨c, hc, h6⟩, h7⟩ := h
  exact ⟨h1.s68 (by omega), by rw [jset_1, if_pos rfl, if_neg (by decide)]; exact h2, by rw [jset_1, if_pos rfl, if_neg (by decide)]; exact h3, h4, by rw [jset_1, if_pos rfl, if_pos rfl]; rfl, ⟨c, hc, by rw [jset_1, if_pos rfl, if_neg (by decide)]; exact h6⟩, fun q => Bool.noConfusion q⟩
theorem mRes.good {w0 w : jWd} {o : Nat} {z : rS} (h : mRes w0 w o (true, z)) : mRes w0 (jset w 68 19 0) o (true, z) := by
  obtain ⟨h1, h2, h3, h4, h5, ⟨c, hc, h6⟩, h7⟩ := h
  exact ⟨h1.s68 (by omega), by rw [jset_1, if_pos rfl, if_neg (by decide)]; exact h2, by rw [jset_1, if_pos rfl, if_neg (by decide)]; exact h3, h4, by rw [jset_1, if_pos rfl, if_pos rfl]; rfl, ⟨c, hc, by rw [jset_1, if_pos rfl, if_neg (by decide)]; exact h6⟩, fun q => (h7 q).s68 (by decide)⟩
theorem mRes.b0 {w0 w : jWd} {o : Nat} {r : Bool × rS} (h : mRes w0 w o r) : w.1 68 19 = 0 ↔ r.1 = true := by
  rw [h.2.2.2.2.1]
  by_cases e : r.1 = true
  · rw [if_pos e]; exact ⟨fun _ => e, fun _ => rfl⟩
  · rw [if_neg e]; exact ⟨fun q => absurd q (by decide), fun q => absurd q e⟩
theorem mRes.tt {w0 w : jWd} {o : Nat} {r : Bool × rS} (h : mRes w0 w o r) (e : r.1 = true) : mRes w0 w o (true, r.2) := by rw [show (true, r.2) = r from by rw [← e]]; exact h
theorem mRes.lay {w0 w : jWd} {o c : Nat} {r : Bool × rS} {a v : Int32} (h : mRes w0 w o r) (hc : c < 60) (ec : w.1 68 16 = nI c) (ht : r.1 = true → mTk a v) : mRes w0 (jset (jset (jset w 79 c a) 80 c v) 68 16 (nI c + 1)) o (r.1, pWr (sEnc a v) r.2) := by
  obtain ⟨h1, h2, h3, h4, h5, -, h7⟩ := h
  have o68 : ∀ k, (jset (jset w 79 c a) 80 c v).1 68 k = w.1 68 k := fun k => by rw [jset_off (by decide), jset_off (by decide)]
  refine ⟨⟨fun x q1 q2 q3 => by rw [jset_off q1, jset_off q3, jset_off q2]; exact h1.1 x q1 q2 q3, fun k q => by rw [jset_1, if_pos rfl, if_neg (by omega), o68]; exact h1.2.1 k q, h1.2.2⟩, by rw [jset_1, if_pos rfl, if_neg (by decide), o68]; exact h2, by rw [jset_1, if_pos rfl, if_neg (by decide), o68, pWr_at]; exact h3, by rw [pWr_at]; exact h4, by rw [jset_1, if_pos rfl, if_neg (by decide), o68]; exact h5, ⟨c + 1, by omega, by rw [jset_1, if_pos rfl, if_pos rfl, nI_1]⟩, fun q => ?_⟩
  obtain ⟨g1, g2, g3⟩ := h7 q
  have en : c = r.2.2.1 := (nI_eq (by omega) (by omega)).mp (ec.symm.trans g1)
  subst en
  rw [pWr_eq hc]
  refine ⟨by rw [jset_1, if_pos rfl, if_pos rfl, nI_1], by show r.2.2.1 + 1 ≤ 60; omega, fun j hj => ?_⟩
  have hj : j < r.2.2.1 + 1 := hj
  rw [jset_off (by decide), jset_off (by decide)]
  show mTk ((jset (jset w 79 r.2.2.1 a) 80 r.2.2.1 v).1 79 j) ((jset (jset w 79 r.2.2.1 a) 80 r.2.2.1 v).1 80 j) ∧ sEnc ((jset (jset w 79 r.2.2.1 a) 80 r.2.2.1 v).1 79 j) ((jset (jset w 79 r.2.2.1 a) 80 r.2.2.1 v).1 80 j) = upd r.2.2.2 r.2.2.1 (sEnc a v) j
  rw [jset_off (by decide), jset_1, if_pos rfl, jset_1, if_pos rfl, jset_off (by decide)]
  by_cases e : j = r.2.2.1
  · rw [if_pos e, if_pos e, e, upd_at]; exact ⟨ht q, rfl⟩
  · rw [if_neg e, if_neg e, upd_ne _ _ e]; exact g3 j (by omega)
theorem mRes.full {w0 w : jWd} {o c : Nat} {r : Bool × rS} {s : Int32} (h : mRes w0 w o r) (hc : 60 ≤ c) (hc2 : c ≤ 60) (ec : w.1 68 16 = nI c) : mRes w0 w o (r.1, pWr s r.2) := by
  obtain ⟨h1, h2, h3, h4, h5, h6, h7⟩ := h
  refine ⟨h1, h2, by rw [pWr_at]; exact h3, by rw [pWr_at]; exact h4, h5, h6, fun q => ?_⟩
  obtain ⟨g1, g2, g3⟩ := h7 q
  have en : c = r.2.2.1 := (nI_eq (by omega) (by omega)).mp (ec.symm.trans g1)
  show mRd w (pWr s r.2)
  rw [show pWr s r.2 = r.2 from if_neg (by omega)]
  exact ⟨g1, g2, g3⟩
set_option maxHeartbeats 4000000 in
set_option maxRecDepth 100000 in
theorem k_plook {G : jG} {w0 w : jWd} {f i o : Nat} (hG : mGl w0 f i) {r : Bool × rS} (h : mRes w0 w o r) : jKd G 0 yX7_look cX7_look 1 (some .int) [.ref 68] w (some (.int (pNx (mTP w0) f r.2.1))) w := by
  have hf := hG.2.1
  have ha := h.2.2.2.1
  have h69 : w.1 69 = w0.1 69 := h.1.1 69 (by decide) (by decide) (by decide)
  have h17 := h.2.2.1
  have h6 : w.1 69 6 = nI f := by rw [h69]; exact hG.1
  have hq : nI f ≤ nI r.2.1 ↔ f ≤ r.2.1 := nI_leI (by omega) (by omega)
  refine jK_of (own := RX7) [some (.ref 68)] pn7 rfl (Nat.le_of_ble_eq_true rfl) rfl ?_
  refine J_aload_n (pc' := 1) dX7_look_0 rfl rfl ?_
  refine J_getI (pc' := 4) dX7_look_1 fl_7_144 (ly_68) (l84_68) rfl rfl ?_
  rw [h17]
  refine J_aload_n (pc' := 5) dX7_look_4 rfl rfl ?_
  refine J_getR (pc' := 8) dX7_look_5 fl_7_9 (ly_68) (l84_68) rfl rfl ?_
  refine J_bipush (v := 6) (pc' := 10) dX7_look_8 (by decide) rfl ?_
  refine J_iald 6 (pc' := 11) dX7_look_10 (ly_69) (l84_69) nIc_6 (by decide) (by decide) rfl ?_
  rw [h6]
  refine J_icmp_ge 29 (pc' := 14) dX7_look_11 (by decide) rfl (fun h_11 => ?_) (fun h_11 => ?_)
  · refine J_iconst (v := -1) (pc' := 30) dX7_look_29 (by decide) rfl ?_
    first | exact J_iret dX7_look_30  (by rw [show pNx (mTP w0) f r.2.1 = -1 from if_neg (by have := hq.mp h_11; omega)]; exact ⟨rfl, rfl⟩) | exact J_iret dX7_look_30  (by rw [show pNx (mTP w0) f r.2.1 = w0.1 69 (56 + r.2.1) from if_pos (by have := mt hq.mpr h_11; omega), ← h69]; exact ⟨rfl, rfl⟩)
  · refine J_aload_n (pc' := 15) dX7_look_14 rfl rfl ?_
    refine J_getR (pc' := 18) dX7_look_15 fl_7_9 (ly_68) (l84_68) rfl rfl ?_
    refine J_bipush (v := 56) (pc' := 20) dX7_look_18 (by decide) rfl ?_
    refine J_aload_n (pc' := 21) dX7_look_20 rfl rfl ?_
    refine J_getI (pc' := 24) dX7_look_21 fl_7_144 (ly_68) (l84_68) rfl rfl ?_
    rw [h17]
    refine J_iadd (pc' := 25) dX7_look_24 rfl ?_
    refine J_iald (56 + r.2.1) (pc' := 26) dX7_look_25 (ly_69) (l84_69) (jadd (by decide) rfl) (by omega) (by decide) rfl ?_
    refine J_goto (pc' := 0) 30 dX7_look_26 (by decide) ?_
    first | exact J_iret dX7_look_30  (by rw [show pNx (mTP w0) f r.2.1 = -1 from if_neg (by have := hq.mp h_11; omega)]; exact ⟨rfl, rfl⟩) | exact J_iret dX7_look_30  (by rw [show pNx (mTP w0) f r.2.1 = w0.1 69 (56 + r.2.1) from if_pos (by have := mt hq.mpr h_11; omega), ← h69]; exact ⟨rfl, rfl⟩)
set_option maxHeartbeats 4000000 in
set_option maxRecDepth 100000 in
theorem k_play {G : jG} {w0 w : jWd} {o : Nat} {r : Bool × rS} (h : mRes w0 w o r) {a v : Int32} (ht : r.1 = true → mTk a v) : jKp G 0 yX7_lays cX7_lays 3 none [.ref 68, .int a, .int v] w none (fun w' => mRes w0 w' o (r.1, pWr (sEnc a v) r.2)) := by
  obtain ⟨c, hc, ec⟩ := h.2.2.2.2.2.1
  have hq : nI 60 ≤ nI c ↔ 60 ≤ c := nI_leI (by omega) (by omega)
  refine jK_of (own := RX7) [some (.ref 68), some (.int a), some (.int v)] pn7 rfl (Nat.le_of_ble_eq_true rfl) rfl ?_
  refine J_aload_n (pc' := 1) dX7_lays_0 rfl rfl ?_
  refine J_getI (pc' := 4) dX7_lays_1 fl_7_148 (ly_68) (l84_68) rfl rfl ?_
  rw [ec]
  refine J_aload_n (pc' := 5) dX7_lays_4 rfl rfl ?_
  refine J_getR (pc' := 8) dX7_lays_5 fl_7_41 (ly_68) (l84_68) rfl rfl ?_
  refine J_alen (pc' := 9) dX7_lays_8 (ly_79) (l84_79) rfl ?_
  refine J_icmp_ge 42 (pc' := 12) dX7_lays_9 (by decide) rfl (fun h_9 => ?_) (fun h_9 => ?_)
  · first | exact J_vret dX7_lays_42  ⟨rfl, h.lay (by have := mt hq.mpr h_9; omega) ec ht⟩ | exact J_vret dX7_lays_42  ⟨rfl, h.full (hq.mp h_9) hc ec⟩
  · refine J_aload_n (pc' := 13) dX7_lays_12 rfl rfl ?_
    refine J_getR (pc' := 16) dX7_lays_13 fl_7_41 (ly_68) (l84_68) rfl rfl ?_
    refine J_aload_n (pc' := 17) dX7_lays_16 rfl rfl ?_
    refine J_getI (pc' := 20) dX7_lays_17 fl_7_148 (ly_68) (l84_68) rfl rfl ?_
    refine J_iload_n (pc' := 21) dX7_lays_20 rfl rfl ?_
    refine J_iast c (pc' := 22) dX7_lays_21 (ly_79) (l84_79) ec (by have := mt hq.mpr h_9; omega) (by decide) rfl ?_
    refine J_aload_n (pc' := 23) dX7_lays_22 rfl rfl ?_
    refine J_getR (pc' := 26) dX7_lays_23 fl_7_44 (ly_68) (l84_68) rfl rfl ?_
    refine J_aload_n (pc' := 27) dX7_lays_26 rfl rfl ?_
    refine J_getI (pc' := 30) dX7_lays_27 fl_7_148 (ly_68) (l84_68) rfl rfl ?_
    refine J_iload_n (pc' := 31) dX7_lays_30 rfl rfl ?_
    refine J_iast c (pc' := 32) dX7_lays_31 (ly_80) (l84_80) (by rw [jset_off (by decide)]; exact ec) (by have := mt hq.mpr h_9; omega) (by decide) rfl ?_
    refine J_aload_n (pc' := 33) dX7_lays_32 rfl rfl ?_
    refine J_dup (pc' := 34) dX7_lays_33 rfl rfl ?_
    refine J_getI (pc' := 37) dX7_lays_34 fl_7_148 (ly_68) (l84_68) rfl rfl ?_
    rw [show (jset (jset w 79 c a) 80 c v).1 68 16 = nI c from by rw [jset_off (by decide), jset_off (by decide)]; exact ec]
    refine J_iconst (v := 1) (pc' := 38) dX7_lays_37 (by decide) rfl ?_
    refine J_iadd (pc' := 39) dX7_lays_38 rfl ?_
    refine J_putI (pc' := 42) dX7_lays_39 fp_7_148 (ly_68) (l84_68) rfl rfl ?_
    first | exact J_vret dX7_lays_42  ⟨rfl, h.lay (by have := mt hq.mpr h_9; omega) ec ht⟩ | exact J_vret dX7_lays_42  ⟨rfl, h.full (hq.mp h_9) hc ec⟩
theorem sIx_w (c : Int32) : sIx 0 c 3 0 = if c = 119 then 0 else if c = 107 then 1 else if c = 110 then 2 else -1 := by
  unfold sIx sIx sIx sIx
  show (if (119 : Int32) = c then nI 0 else if (107 : Int32) = c then nI 1 else if (110 : Int32) = c then nI 2 else -1) = _
  rw [show nI 0 = (0 : Int32) from rfl, show nI 1 = (1 : Int32) from rfl, show nI 2 = (2 : Int32) from rfl]
  by_cases e : c = 119
  · rw [if_pos e.symm, if_pos e]
  · rw [if_neg (fun q => e q.symm), if_neg e]
    by_cases e2 : c = 107
    · rw [if_pos e2.symm, if_pos e2]
    · rw [if_neg (fun q => e2 q.symm), if_neg e2]
      by_cases e3 : c = 110
      · rw [if_pos e3.symm, if_pos e3]
      · rw [if_neg (fun q => e3 q.symm), if_neg e3]
theorem sIx_s (c : Int32) : sIx 1 c 3 0 = if c = 115 then 0 else if c = 116 then 1 else if c = 110 then 2 else -1 := by
  unfold sIx sIx sIx sIx
  show (if (115 : Int32) = c then nI 0 else if (116 : Int32) = c then nI 1 else if (110 : Int32) = c then nI 2 else -1) = _
  rw [show nI 0 = (0 : Int32) from rfl, show nI 1 = (1 : Int32) from rfl, show nI 2 = (2 : Int32) from rfl]
  by_cases e : c = 115
  · rw [if_pos e.symm, if_pos e]
  · rw [if_neg (fun q => e q.symm), if_neg e]
    by_cases e2 : c = 116
    · rw [if_pos e2.symm, if_pos e2]
    · rw [if_neg (fun q => e2 q.symm), if_neg e2]
      by_cases e3 : c = 110
      · rw [if_pos e3.symm, if_pos e3]
      · rw [if_neg (fun q => e3 q.symm), if_neg e3]
-- names of a use
set_option maxHeartbeats 4000000 in
set_option maxRecDepth 100000 in
theorem k_pnm0 {G : jG} {w : jWd} (hu : w.1 68 20 = 0) {b : Int32} : jKd G 0 yX7_nameOf cX7_nameOf 2 (some .int) [.ref 68, .int b] w (some (.int (sIx 0 b 3 0))) w := by
  refine jK_of (own := RX7) [some (.ref 68), some (.int b)] pn7 rfl (Nat.le_of_ble_eq_true rfl) rfl ?_
  refine J_iload_n (pc' := 1) dX7_nameOf_0 rfl rfl ?_
  by_cases e1_107 : b = 107
  · refine J_tabIn (pc' := 0) (off := 67) 68 dX7_nameOf_1 (by rw [e1_107]; decide) (by rw [e1_107]; decide) (by rw [e1_107]; decide) (by decide) ?_
    refine J_aload_n (pc' := 69) dX7_nameOf_68 rfl rfl ?_
    refine J_getI (pc' := 72) dX7_nameOf_69 fl_7_151 (ly_68) (l84_68) rfl rfl ?_
    rw [hu]
    refine J_if_eq 79 (pc' := 75) dX7_nameOf_72 (by decide) rfl (fun h_72 => ?_) (fun h_72 => absurd rfl h_72)
    refine J_iload_n (pc' := 80) dX7_nameOf_79 rfl rfl ?_
    refine J_bipush (v := 119) (pc' := 82) dX7_nameOf_80 (by decide) rfl ?_
    refine J_icmp_ne 89 (pc' := 85) dX7_nameOf_82 (by decide) rfl (fun h_82 => ?_) (fun h_82 => absurd h_82 (by rw [e1_107]; decide))
    refine J_iconst (v := 1) (pc' := 90) dX7_nameOf_89 (by decide) rfl ?_
    exact J_iret dX7_nameOf_90  ⟨jv (by rw [e1_107, sIx_w]; decide), rfl⟩
  by_cases e1_110 : b = 110
  · refine J_tabIn (pc' := 0) (off := 114) 115 dX7_nameOf_1 (by rw [e1_110]; decide) (by rw [e1_110]; decide) (by rw [e1_110]; decide) (by decide) ?_
    refine J_iconst (v := 2) (pc' := 116) dX7_nameOf_115 (by decide) rfl ?_
    exact J_iret dX7_nameOf_116  ⟨jv (by rw [e1_110, sIx_w]; decide), rfl⟩
  by_cases e1_115 : b = 115
  · refine J_tabIn (pc' := 0) (off := 90) 91 dX7_nameOf_1 (by rw [e1_115]; decide) (by rw [e1_115]; decide) (by rw [e1_115]; decide) (by decide) ?_
    refine J_aload_n (pc' := 92) dX7_nameOf_91 rfl rfl ?_
    refine J_getI (pc' := 95) dX7_nameOf_92 fl_7_151 (ly_68) (l84_68) rfl rfl ?_
    rw [hu]
    refine J_iconst (v := 1) (pc' := 96) dX7_nameOf_95 (by decide) rfl ?_
    refine J_icmp_eq 103 (pc' := 99) dX7_nameOf_96 (by decide) rfl (fun h_96 => absurd h_96 (by decide)) (fun h_96 => ?_)
    refine J_iconst (v := -1) (pc' := 100) dX7_nameOf_99 (by decide) rfl ?_
    refine J_goto (pc' := 0) 114 dX7_nameOf_100 (by decide) ?_
    exact J_iret dX7_nameOf_114  ⟨jv (by rw [e1_115, sIx_w]; decide), rfl⟩
  by_cases e1_116 : b = 116
  · refine J_tabIn (pc' := 0) (off := 90) 91 dX7_nameOf_1 (by rw [e1_116]; decide) (by rw [e1_116]; decide) (by rw [e1_116]; decide) (by decide) ?_
    refine J_aload_n (pc' := 92) dX7_nameOf_91 rfl rfl ?_
    refine J_getI (pc' := 95) dX7_nameOf_92 fl_7_151 (ly_68) (l84_68) rfl rfl ?_
    rw [hu]
    refine J_iconst (v := 1) (pc' := 96) dX7_nameOf_95 (by decide) rfl ?_
    refine J_icmp_eq 103 (pc' := 99) dX7_nameOf_96 (by decide) rfl (fun h_96 => absurd h_96 (by decide)) (fun h_96 => ?_)
    refine J_iconst (v := -1) (pc' := 100) dX7_nameOf_99 (by decide) rfl ?_
    refine J_goto (pc' := 0) 114 dX7_nameOf_100 (by decide) ?_
    exact J_iret dX7_nameOf_114  ⟨jv (by rw [e1_116, sIx_w]; decide), rfl⟩
  by_cases e1_119 : b = 119
  · refine J_tabIn (pc' := 0) (off := 67) 68 dX7_nameOf_1 (by rw [e1_119]; decide) (by rw [e1_119]; decide) (by rw [e1_119]; decide) (by decide) ?_
    refine J_aload_n (pc' := 69) dX7_nameOf_68 rfl rfl ?_
    refine J_getI (pc' := 72) dX7_nameOf_69 fl_7_151 (ly_68) (l84_68) rfl rfl ?_
    rw [hu]
    refine J_if_eq 79 (pc' := 75) dX7_nameOf_72 (by decide) rfl (fun h_72 => ?_) (fun h_72 => absurd rfl h_72)
    refine J_iload_n (pc' := 80) dX7_nameOf_79 rfl rfl ?_
    refine J_bipush (v := 119) (pc' := 82) dX7_nameOf_80 (by decide) rfl ?_
    refine J_icmp_ne 89 (pc' := 85) dX7_nameOf_82 (by decide) rfl (fun h_82 => absurd (by rw [e1_119]) h_82) (fun h_82 => ?_)
    refine J_iconst (v := 0) (pc' := 86) dX7_nameOf_85 (by decide) rfl ?_
    refine J_goto (pc' := 0) 90 dX7_nameOf_86 (by decide) ?_
    exact J_iret dX7_nameOf_90  ⟨jv (by rw [e1_119, sIx_w]; decide), rfl⟩
  skip
  by_cases e1_108 : b = 108
  · refine J_tabIn (pc' := 0) (off := 116) 117 dX7_nameOf_1 (by rw [e1_108]; decide) (by rw [e1_108]; decide) (by rw [e1_108]; decide) (by decide) ?_
    refine J_iconst (v := -1) (pc' := 118) dX7_nameOf_117 (by decide) rfl ?_
    exact J_iret dX7_nameOf_118  ⟨jv (by rw [e1_108, sIx_w]; decide), rfl⟩
  by_cases e1_109 : b = 109
  · refine J_tabIn (pc' := 0) (off := 116) 117 dX7_nameOf_1 (by rw [e1_109]; decide) (by rw [e1_109]; decide) (by rw [e1_109]; decide) (by decide) ?_
    refine J_iconst (v := -1) (pc' := 118) dX7_nameOf_117 (by decide) rfl ?_
    exact J_iret dX7_nameOf_118  ⟨jv (by rw [e1_109, sIx_w]; decide), rfl⟩
  by_cases e1_111 : b = 111
  · refine J_tabIn (pc' := 0) (off := 116) 117 dX7_nameOf_1 (by rw [e1_111]; decide) (by rw [e1_111]; decide) (by rw [e1_111]; decide) (by decide) ?_
    refine J_iconst (v := -1) (pc' := 118) dX7_nameOf_117 (by decide) rfl ?_
    exact J_iret dX7_nameOf_118  ⟨jv (by rw [e1_111, sIx_w]; decide), rfl⟩
  by_cases e1_112 : b = 112
  · refine J_tabIn (pc' := 0) (off := 116) 117 dX7_nameOf_1 (by rw [e1_112]; decide) (by rw [e1_112]; decide) (by rw [e1_112]; decide) (by decide) ?_
    refine J_iconst (v := -1) (pc' := 118) dX7_nameOf_117 (by decide) rfl ?_
    exact J_iret dX7_nameOf_118  ⟨jv (by rw [e1_112, sIx_w]; decide), rfl⟩
  by_cases e1_113 : b = 113
  · refine J_tabIn (pc' := 0) (off := 116) 117 dX7_nameOf_1 (by rw [e1_113]; decide) (by rw [e1_113]; decide) (by rw [e1_113]; decide) (by decide) ?_
    refine J_iconst (v := -1) (pc' := 118) dX7_nameOf_117 (by decide) rfl ?_
    exact J_iret dX7_nameOf_118  ⟨jv (by rw [e1_113, sIx_w]; decide), rfl⟩
  by_cases e1_114 : b = 114
  · refine J_tabIn (pc' := 0) (off := 116) 117 dX7_nameOf_1 (by rw [e1_114]; decide) (by rw [e1_114]; decide) (by rw [e1_114]; decide) (by decide) ?_
    refine J_iconst (v := -1) (pc' := 118) dX7_nameOf_117 (by decide) rfl ?_
    exact J_iret dX7_nameOf_118  ⟨jv (by rw [e1_114, sIx_w]; decide), rfl⟩
  by_cases e1_117 : b = 117
  · refine J_tabIn (pc' := 0) (off := 116) 117 dX7_nameOf_1 (by rw [e1_117]; decide) (by rw [e1_117]; decide) (by rw [e1_117]; decide) (by decide) ?_
    refine J_iconst (v := -1) (pc' := 118) dX7_nameOf_117 (by decide) rfl ?_
    exact J_iret dX7_nameOf_118  ⟨jv (by rw [e1_117, sIx_w]; decide), rfl⟩
  by_cases e1_118 : b = 118
  · refine J_tabIn (pc' := 0) (off := 116) 117 dX7_nameOf_1 (by rw [e1_118]; decide) (by rw [e1_118]; decide) (by rw [e1_118]; decide) (by decide) ?_
    refine J_iconst (v := -1) (pc' := 118) dX7_nameOf_117 (by decide) rfl ?_
    exact J_iret dX7_nameOf_118  ⟨jv (by rw [e1_118, sIx_w]; decide), rfl⟩
  refine J_tabOut (pc' := 0) 117 dX7_nameOf_1 (by have q107 := zneI e1_107 (k := 107) (by decide); have q108 := zneI e1_108 (k := 108) (by decide); have q109 := zneI e1_109 (k := 109) (by decide); have q110 := zneI e1_110 (k := 110) (by decide); have q111 := zneI e1_111 (k := 111) (by decide); have q112 := zneI e1_112 (k := 112) (by decide); have q113 := zneI e1_113 (k := 113) (by decide); have q114 := zneI e1_114 (k := 114) (by decide); have q115 := zneI e1_115 (k := 115) (by decide); have q116 := zneI e1_116 (k := 116) (by decide); have q117 := zneI e1_117 (k := 117) (by decide); have q118 := zneI e1_118 (k := 118) (by decide); have q119 := zneI e1_119 (k := 119) (by decide); omega) (by decide) ?_
  refine J_iconst (v := -1) (pc' := 118) dX7_nameOf_117 (by decide) rfl ?_
  exact J_iret dX7_nameOf_118  ⟨jv (by rw [sIx_w, if_neg e1_119, if_neg e1_107, if_neg e1_110]), rfl⟩
set_option maxHeartbeats 4000000 in
set_option maxRecDepth 100000 in
theorem k_pnm1 {G : jG} {w : jWd} (hu : w.1 68 20 = 1) {b : Int32} : jKd G 0 yX7_nameOf cX7_nameOf 2 (some .int) [.ref 68, .int b] w (some (.int (sIx 1 b 3 0))) w := by
  refine jK_of (own := RX7) [some (.ref 68), some (.int b)] pn7 rfl (Nat.le_of_ble_eq_true rfl) rfl ?_
  refine J_iload_n (pc' := 1) dX7_nameOf_0 rfl rfl ?_
  by_cases e1_107 : b = 107
  · refine J_tabIn (pc' := 0) (off := 67) 68 dX7_nameOf_1 (by rw [e1_107]; decide) (by rw [e1_107]; decide) (by rw [e1_107]; decide) (by decide) ?_
    refine J_aload_n (pc' := 69) dX7_nameOf_68 rfl rfl ?_
    refine J_getI (pc' := 72) dX7_nameOf_69 fl_7_151 (ly_68) (l84_68) rfl rfl ?_
    rw [hu]
    refine J_if_eq 79 (pc' := 75) dX7_nameOf_72 (by decide) rfl (fun h_72 => absurd h_72 (by decide)) (fun h_72 => ?_)
    refine J_iconst (v := -1) (pc' := 76) dX7_nameOf_75 (by decide) rfl ?_
    refine J_goto (pc' := 0) 90 dX7_nameOf_76 (by decide) ?_
    exact J_iret dX7_nameOf_90  ⟨jv (by rw [e1_107, sIx_s]; decide), rfl⟩
  by_cases e1_110 : b = 110
  · refine J_tabIn (pc' := 0) (off := 114) 115 dX7_nameOf_1 (by rw [e1_110]; decide) (by rw [e1_110]; decide) (by rw [e1_110]; decide) (by decide) ?_
    refine J_iconst (v := 2) (pc' := 116) dX7_nameOf_115 (by decide) rfl ?_
    exact J_iret dX7_nameOf_116  ⟨jv (by rw [e1_110, sIx_s]; decide), rfl⟩
  by_cases e1_115 : b = 115
  · refine J_tabIn (pc' := 0) (off := 90) 91 dX7_nameOf_1 (by rw [e1_115]; decide) (by rw [e1_115]; decide) (by rw [e1_115]; decide) (by decide) ?_
    refine J_aload_n (pc' := 92) dX7_nameOf_91 rfl rfl ?_
    refine J_getI (pc' := 95) dX7_nameOf_92 fl_7_151 (ly_68) (l84_68) rfl rfl ?_
    rw [hu]
    refine J_iconst (v := 1) (pc' := 96) dX7_nameOf_95 (by decide) rfl ?_
    refine J_icmp_eq 103 (pc' := 99) dX7_nameOf_96 (by decide) rfl (fun h_96 => ?_) (fun h_96 => absurd rfl h_96)
    refine J_iload_n (pc' := 104) dX7_nameOf_103 rfl rfl ?_
    refine J_bipush (v := 115) (pc' := 106) dX7_nameOf_104 (by decide) rfl ?_
    refine J_icmp_ne 113 (pc' := 109) dX7_nameOf_106 (by decide) rfl (fun h_106 => absurd (by rw [e1_115]) h_106) (fun h_106 => ?_)
    refine J_iconst (v := 0) (pc' := 110) dX7_nameOf_109 (by decide) rfl ?_
    refine J_goto (pc' := 0) 114 dX7_nameOf_110 (by decide) ?_
    exact J_iret dX7_nameOf_114  ⟨jv (by rw [e1_115, sIx_s]; decide), rfl⟩
  by_cases e1_116 : b = 116
  · refine J_tabIn (pc' := 0) (off := 90) 91 dX7_nameOf_1 (by rw [e1_116]; decide) (by rw [e1_116]; decide) (by rw [e1_116]; decide) (by decide) ?_
    refine J_aload_n (pc' := 92) dX7_nameOf_91 rfl rfl ?_
    refine J_getI (pc' := 95) dX7_nameOf_92 fl_7_151 (ly_68) (l84_68) rfl rfl ?_
    rw [hu]
    refine J_iconst (v := 1) (pc' := 96) dX7_nameOf_95 (by decide) rfl ?_
    refine J_icmp_eq 103 (pc' := 99) dX7_nameOf_96 (by decide) rfl (fun h_96 => ?_) (fun h_96 => absurd rfl h_96)
    refine J_iload_n (pc' := 104) dX7_nameOf_103 rfl rfl ?_
    refine J_bipush (v := 115) (pc' := 106) dX7_nameOf_104 (by decide) rfl ?_
    refine J_icmp_ne 113 (pc' := 109) dX7_nameOf_106 (by decide) rfl (fun h_106 => ?_) (fun h_106 => absurd h_106 (by rw [e1_116]; decide))
    refine J_iconst (v := 1) (pc' := 114) dX7_nameOf_113 (by decide) rfl ?_
    exact J_iret dX7_nameOf_114  ⟨jv (by rw [e1_116, sIx_s]; decide), rfl⟩
  by_cases e1_119 : b = 119
  · refine J_tabIn (pc' := 0) (off := 67) 68 dX7_nameOf_1 (by rw [e1_119]; decide) (by rw [e1_119]; decide) (by rw [e1_119]; decide) (by decide) ?_
    refine J_aload_n (pc' := 69) dX7_nameOf_68 rfl rfl ?_
    refine J_getI (pc' := 72) dX7_nameOf_69 fl_7_151 (ly_68) (l84_68) rfl rfl ?_
    rw [hu]
    refine J_if_eq 79 (pc' := 75) dX7_nameOf_72 (by decide) rfl (fun h_72 => absurd h_72 (by decide)) (fun h_72 => ?_)
    refine J_iconst (v := -1) (pc' := 76) dX7_nameOf_75 (by decide) rfl ?_
    refine J_goto (pc' := 0) 90 dX7_nameOf_76 (by decide) ?_
    exact J_iret dX7_nameOf_90  ⟨jv (by rw [e1_119, sIx_s]; decide), rfl⟩
  skip
  by_cases e1_108 : b = 108
  · refine J_tabIn (pc' := 0) (off := 116) 117 dX7_nameOf_1 (by rw [e1_108]; decide) (by rw [e1_108]; decide) (by rw [e1_108]; decide) (by decide) ?_
    refine J_iconst (v := -1) (pc' := 118) dX7_nameOf_117 (by decide) rfl ?_
    exact J_iret dX7_nameOf_118  ⟨jv (by rw [e1_108, sIx_s]; decide), rfl⟩
  by_cases e1_109 : b = 109
  · refine J_tabIn (pc' := 0) (off := 116) 117 dX7_nameOf_1 (by rw [e1_109]; decide) (by rw [e1_109]; decide) (by rw [e1_109]; decide) (by decide) ?_
    refine J_iconst (v := -1) (pc' := 118) dX7_nameOf_117 (by decide) rfl ?_
    exact J_iret dX7_nameOf_118  ⟨jv (by rw [e1_109, sIx_s]; decide), rfl⟩
  by_cases e1_111 : b = 111
  · refine J_tabIn (pc' := 0) (off := 116) 117 dX7_nameOf_1 (by rw [e1_111]; decide) (by rw [e1_111]; decide) (by rw [e1_111]; decide) (by decide) ?_
    refine J_iconst (v := -1) (pc' := 118) dX7_nameOf_117 (by decide) rfl ?_
    exact J_iret dX7_nameOf_118  ⟨jv (by rw [e1_111, sIx_s]; decide), rfl⟩
  by_cases e1_112 : b = 112
  · refine J_tabIn (pc' := 0) (off := 116) 117 dX7_nameOf_1 (by rw [e1_112]; decide) (by rw [e1_112]; decide) (by rw [e1_112]; decide) (by decide) ?_
    refine J_iconst (v := -1) (pc' := 118) dX7_nameOf_117 (by decide) rfl ?_
    exact J_iret dX7_nameOf_118  ⟨jv (by rw [e1_112, sIx_s]; decide), rfl⟩
  by_cases e1_113 : b = 113
  · refine J_tabIn (pc' := 0) (off := 116) 117 dX7_nameOf_1 (by rw [e1_113]; decide) (by rw [e1_113]; decide) (by rw [e1_113]; decide) (by decide) ?_
    refine J_iconst (v := -1) (pc' := 118) dX7_nameOf_117 (by decide) rfl ?_
    exact J_iret dX7_nameOf_118  ⟨jv (by rw [e1_113, sIx_s]; decide), rfl⟩
  by_cases e1_114 : b = 114
  · refine J_tabIn (pc' := 0) (off := 116) 117 dX7_nameOf_1 (by rw [e1_114]; decide) (by rw [e1_114]; decide) (by rw [e1_114]; decide) (by decide) ?_
    refine J_iconst (v := -1) (pc' := 118) dX7_nameOf_117 (by decide) rfl ?_
    exact J_iret dX7_nameOf_118  ⟨jv (by rw [e1_114, sIx_s]; decide), rfl⟩
  by_cases e1_117 : b = 117
  · refine J_tabIn (pc' := 0) (off := 116) 117 dX7_nameOf_1 (by rw [e1_117]; decide) (by rw [e1_117]; decide) (by rw [e1_117]; decide) (by decide) ?_
    refine J_iconst (v := -1) (pc' := 118) dX7_nameOf_117 (by decide) rfl ?_
    exact J_iret dX7_nameOf_118  ⟨jv (by rw [e1_117, sIx_s]; decide), rfl⟩
  by_cases e1_118 : b = 118
  · refine J_tabIn (pc' := 0) (off := 116) 117 dX7_nameOf_1 (by rw [e1_118]; decide) (by rw [e1_118]; decide) (by rw [e1_118]; decide) (by decide) ?_
    refine J_iconst (v := -1) (pc' := 118) dX7_nameOf_117 (by decide) rfl ?_
    exact J_iret dX7_nameOf_118  ⟨jv (by rw [e1_118, sIx_s]; decide), rfl⟩
  refine J_tabOut (pc' := 0) 117 dX7_nameOf_1 (by have q107 := zneI e1_107 (k := 107) (by decide); have q108 := zneI e1_108 (k := 108) (by decide); have q109 := zneI e1_109 (k := 109) (by decide); have q110 := zneI e1_110 (k := 110) (by decide); have q111 := zneI e1_111 (k := 111) (by decide); have q112 := zneI e1_112 (k := 112) (by decide); have q113 := zneI e1_113 (k := 113) (by decide); have q114 := zneI e1_114 (k := 114) (by decide); have q115 := zneI e1_115 (k := 115) (by decide); have q116 := zneI e1_116 (k := 116) (by decide); have q117 := zneI e1_117 (k := 117) (by decide); have q118 := zneI e1_118 (k := 118) (by decide); have q119 := zneI e1_119 (k := 119) (by decide); omega) (by decide) ?_
  refine J_iconst (v := -1) (pc' := 118) dX7_nameOf_117 (by decide) rfl ?_
  exact J_iret dX7_nameOf_118  ⟨jv (by rw [sIx_s, if_neg e1_115, if_neg e1_116, if_neg e1_110]), rfl⟩
theorem k_pnm {G : jG} {w : jWd} {i : Nat} (hi : i < 2) (hu : w.1 68 20 = nI i) {b : Int32} : jKd G 0 yX7_nameOf cX7_nameOf 2 (some .int) [.ref 68, .int b] w (some (.int (sIx i b 3 0))) w := by
  obtain rfl | rfl : i = 0 ∨ i = 1 := by omega
  · exact k_pnm0 hu
  · exact k_pnm1 hu
