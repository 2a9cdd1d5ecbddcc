/-! ===== texts ===== -/
def jMask : List Bool → List (Option Value) → List (Option Value)
  | true :: m, v :: r => v :: jMask m r
  | false :: m, _ :: r => none :: jMask m r
  | _, _ => []
theorem jMask_sub {m : List Bool} {ls : List (Option Value)} {j : Nat} {u : Value} : (jMask m ls)[j]? = some (some u) → ls[j]? = some (some u) := by
  induction m generalizing ls j with
  | nil => intro h; cases ls <;> simp [jMask] at h
  | cons b m ih =>
    intro h
    cases ls with
    | nil => cases b <;> simp [jMask] at h
    | cons v r =>
      cases j with
      | zero => cases b <;> simp [jMask] at h ⊢; exact h
      | succ j =>
        cases b
        · simp only [jMask, List.getElem?_cons_succ] at h ⊢; exact ih h
        · simp only [jMask, List.getElem?_cons_succ] at h ⊢; exact ih h
/-- what is known of some locals isn't wanted any more -/
theorem J0_mask {G : jG} {Γ : jΓ} {w : jWd} {pc : Nat} {ls : List (Option Value)} {st : List Value} (m : List Bool) (k : J0 G Γ w pc (jMask m ls) st) : J0 G Γ w pc ls st := by
  intro p e s mm args below meth c H locs lsA Hs hC hP hD hS hl
  refine k p e s mm args below meth c H locs lsA Hs hC hP hD hS ⟨hl.1, hl.2.1, fun q hq => hl.2.2 q ?_⟩
  obtain ⟨j, v, h, rfl⟩ := (jL_mem G _ 0 q).mp hq
  exact (jL_mem G ls 0 _).mpr ⟨j, v, jMask_sub h, rfl⟩
theorem J_mask {G : jG} {Γ : jΓ} {w : jWd} {pc : Nat} {ls : List (Option Value)} {st : List Value} (m : List Bool) (k : J G Γ w pc (jMask m ls) st) : J G Γ w pc ls st := fun w2 hq => J0_mask m (k w2 hq)
theorem jset_at (w : jWd) (a k : Nat) (v : Int32) : (jset w a k v).1 a = upd (w.1 a) k v := by unfold jset; rw [jsetA_1, if_pos rfl]
theorem jset_off {w : jWd} {a k : Nat} {v : Int32} {b : Nat} (h : b ≠ a) : (jset w a k v).1 b = w.1 b := by unfold jset; rw [jsetA_1, if_neg h]
theorem jq_scr {w w2 : jWd} (h : jq w w2) {a k : Nat} {v : Int32} (ha : (jly a).1 = 5) : jq w (jset w2 a k v) := by
  refine ⟨fun b hb => ?_, h.2⟩
  rw [jset_off (fun e => hb (by rw [e]; exact ha))]
  exact h.1 b hb
def tp (n : Nat) : Int32 := nI n - 1
theorem tp_1 (n : Nat) : tp n + 1 = nI n := Int32.sub_add_cancel _ _
theorem tp_p {n : Nat} (h : 0 < n) : tp n = nI (n - 1) := jsub rfl nIc_1 h
theorem tp_min {n : Nat} (h : n ≤ 59) : (if (59 : Int32) < tp n + 1 then (59 : Int32) else tp n + 1) = nI n := by
  rw [tp_1, nIc_59]
  rw [if_neg (nI_nlt (by omega) (by decide))]
def gOK (O : Nat → Int32) (S : List Int32) : Prop := ∀ j, j < S.length → S.reverse[j]? = some (O j)
theorem gOK_push {O : Nat → Int32} {S : List Int32} (v : Int32) (h : gOK O S) : gOK (upd O S.length v) (v :: S) := by
  intro j hj
  rw [List.reverse_cons]
  by_cases e : j = S.length
  · subst e
    rw [List.getElem?_append_right (by simp)]
    simp [upd]
  · have hj2 : j < S.length := by simp at hj; omega
    rw [List.getElem?_append_left (by simp; exact hj2), h j hj2]
    simp [upd, e]
theorem gOK_top {O : Nat → Int32} {x : Int32} {r : List Int32} (h : gOK O (x :: r)) : O r.length = x := by
  have := h r.length (by simp)
  rw [List.reverse_cons, List.getElem?_append_right (by simp)] at this
  simp at this
  exact this.symm
theorem gOK_pop {O : Nat → Int32} {x : Int32} {r : List Int32} (h : gOK O (x :: r)) : gOK O r := by
  intro j hj
  have := h j (by simp; omega)
  rw [List.reverse_cons, List.getElem?_append_left (by simp; exact hj)] at this
  exact this
theorem sRun_len {st : Nat → Int32} {N : Nat} (hw : sWf st N) (a b c : Int32) : ∀ i, i ≤ N → (sRun st a b c i).length = sDep st i ∧ sDep st i ≤ i := by
  intro i
  induction i with
  | zero => intro _; exact ⟨rfl, Nat.le_refl _⟩
  | succ i ih =>
    intro hi
    obtain ⟨h1, h2⟩ := ih (by omega)
    rcases hw.1 i (by omega) with h | ⟨h, hd⟩ | ⟨h, hd⟩
    · have e : sDep st (i + 1) = sDep st i + 1 := by rw [sDep, if_pos h]
      refine ⟨?_, by omega⟩
      have h3 : 0 ≤ st i ∨ st i = -1 ∨ st i = -2 ∨ st i = -3 := by
        have h4 := Int32.le_iff_toInt_le.mp h
        rw [show (-3 : Int32).toInt = -3 from by decide] at h4
        rcases Int.lt_or_le (st i).toInt 0 with q | q
        · have : (st i).toInt = -1 ∨ (st i).toInt = -2 ∨ (st i).toInt = -3 := by omega
          rcases this with q | q | q
          · exact Or.inr (Or.inl (Int32.toInt_inj.mp (q.trans (by decide))))
          · exact Or.inr (Or.inr (Or.inl (Int32.toInt_inj.mp (q.trans (by decide)))))
          · exact Or.inr (Or.inr (Or.inr (Int32.toInt_inj.mp (q.trans (by decide)))))
        · exact Or.inl (Int32.le_iff_toInt_le.mpr q)
      rw [e, ← h1]
      by_cases q0 : 0 ≤ st i
      · rw [sRun, if_pos q0]; rfl
      · rcases h3 with q | q | q | q
        · exact absurd q q0
        · rw [sRun, if_neg q0, if_pos q]; rfl
        · rw [sRun, if_neg q0, if_neg (by rw [q]; decide), if_pos q]; rfl
        · rw [sRun, if_neg q0, if_neg (by rw [q]; decide), if_neg (by rw [q]; decide), if_pos q]; rfl
    · have e : sDep st (i + 1) = sDep st i := by rw [sDep, if_neg (by rw [h]; decide), if_pos h]
      refine ⟨?_, by omega⟩
      rw [e, ← h1, sRun, if_neg (by rw [h]; decide), if_neg (by rw [h]; decide), if_neg (by rw [h]; decide), if_neg (by rw [h]; decide), if_pos h]
      cases hS : sRun st a b c i with
      | nil => rfl
      | cons x r => rfl
    · have hn : ∀ z, z ∈ [(-3 : Int32), -33] → True := fun _ _ => trivial
      have e : sDep st (i + 1) = sDep st i - 1 := by
        rw [sDep, if_neg (by rcases h with h | h | h | h | h | h | h | h | h | h <;> rw [h] <;> decide), if_neg (by rcases h with h | h | h | h | h | h | h | h | h | h <;> rw [h] <;> decide)]
      refine ⟨?_, by omega⟩
      have hs : ¬ 0 ≤ st i ∧ ¬ st i = -1 ∧ ¬ st i = -2 ∧ ¬ st i = -3 ∧ ¬ st i = -33 := by rcases h with h | h | h | h | h | h | h | h | h | h <;> rw [h] <;> decide
      rw [e, ← h1, sRun, if_neg hs.1, if_neg hs.2.1, if_neg hs.2.2.1, if_neg hs.2.2.2.1, if_neg hs.2.2.2.2]
      cases hS : sRun st a b c i with
      | nil => rw [hS] at h1; simp at h1; omega
      | cons x r =>
        cases r with
        | nil => rw [hS] at h1; simp at h1; omega
        | cons z r => simp
set_option maxHeartbeats 4000000 in
set_option maxRecDepth 100000 in
theorem kf_joined {G : jG} {w : jWd} {s a b : Int32} : jKd0 G 0 yX4_joined cX4_joined 3 (some .int) [.int s, .int a, .int b] w (some (.int (sJoin s a b))) w := by
  refine jK0_of (own := RX4) [some (.int s), some (.int a), some (.int b)] pn4 rfl (Nat.le_of_ble_eq_true rfl) rfl ?_
  refine J0_iload_n (pc' := 1) dX4_joined_0 rfl rfl ?_
  by_cases e1_37 : s = 37
  · refine J0_look (pc' := 0) (off := 176) 177 dX4_joined_1 (by decide) (by rw [e1_37]; decide) (by decide) ?_
    refine J0_iload_n (pc' := 178) dX4_joined_177 rfl rfl ?_
    refine J0_if_ne 185 (pc' := 181) dX4_joined_178 (by decide) rfl (fun h_178 => ?_) (fun h_178 => ?_)
    · refine J0_iload_n (pc' := 186) dX4_joined_185 rfl rfl ?_
      refine J0_iload_n (pc' := 187) dX4_joined_186 rfl rfl ?_
      refine J0_irem (pc' := 188) dX4_joined_187 h_178 rfl ?_
      exact J0_iret dX4_joined_188  ⟨jv (by simp [sJoin, jb, *]), rfl⟩
    · refine J0_iconst (v := 0) (pc' := 182) dX4_joined_181 (by decide) rfl ?_
      refine J0_goto (pc' := 0) 188 dX4_joined_182 (by decide) ?_
      exact J0_iret dX4_joined_188  ⟨jv (by simp [sJoin, jb, *]), rfl⟩
  by_cases e1_38 : s = 38
  · refine J0_look (pc' := 0) (off := 105) 106 dX4_joined_1 (by decide) (by rw [e1_38]; decide) (by decide) ?_
    refine J0_iload_n (pc' := 107) dX4_joined_106 rfl rfl ?_
    refine J0_if_eq 118 (pc' := 110) dX4_joined_107 (by decide) rfl (fun h_107 => ?_) (fun h_107 => ?_)
    · refine J0_iconst (v := 0) (pc' := 119) dX4_joined_118 (by decide) rfl ?_
      exact J0_iret dX4_joined_119  ⟨jv (by simp [sJoin, jb, *]), rfl⟩
    · refine J0_iload_n (pc' := 111) dX4_joined_110 rfl rfl ?_
      refine J0_if_eq 118 (pc' := 114) dX4_joined_111 (by decide) rfl (fun h_111 => ?_) (fun h_111 => ?_)
      · refine J0_iconst (v := 0) (pc' := 119) dX4_joined_118 (by decide) rfl ?_
        exact J0_iret dX4_joined_119  ⟨jv (by simp [sJoin, jb, *]), rfl⟩
      · refine J0_iconst (v := 1) (pc' := 115) dX4_joined_114 (by decide) rfl ?_
        refine J0_goto (pc' := 0) 119 dX4_joined_115 (by decide) ?_
        exact J0_iret dX4_joined_119  ⟨jv (by simp [sJoin, jb, *]), rfl⟩
  by_cases e1_42 : s = 42
  · refine J0_look (pc' := 0) (off := 160) 161 dX4_joined_1 (by decide) (by rw [e1_42]; decide) (by decide) ?_
    refine J0_iload_n (pc' := 162) dX4_joined_161 rfl rfl ?_
    refine J0_iload_n (pc' := 163) dX4_joined_162 rfl rfl ?_
    refine J0_imul (pc' := 164) dX4_joined_163 rfl ?_
    exact J0_iret dX4_joined_164  ⟨jv (by simp [sJoin, jb, *]), rfl⟩
  by_cases e1_43 : s = 43
  · refine J0_look (pc' := 0) (off := 152) 153 dX4_joined_1 (by decide) (by rw [e1_43]; decide) (by decide) ?_
    refine J0_iload_n (pc' := 154) dX4_joined_153 rfl rfl ?_
    refine J0_iload_n (pc' := 155) dX4_joined_154 rfl rfl ?_
    refine J0_iadd (pc' := 156) dX4_joined_155 rfl ?_
    exact J0_iret dX4_joined_156  ⟨jv (by simp [sJoin, jb, *]), rfl⟩
  by_cases e1_45 : s = 45
  · refine J0_look (pc' := 0) (off := 156) 157 dX4_joined_1 (by decide) (by rw [e1_45]; decide) (by decide) ?_
    refine J0_iload_n (pc' := 158) dX4_joined_157 rfl rfl ?_
    refine J0_iload_n (pc' := 159) dX4_joined_158 rfl rfl ?_
    refine J0_isub (pc' := 160) dX4_joined_159 rfl ?_
    exact J0_iret dX4_joined_160  ⟨jv (by simp [sJoin, jb, *]), rfl⟩
  by_cases e1_47 : s = 47
  · refine J0_look (pc' := 0) (off := 164) 165 dX4_joined_1 (by decide) (by rw [e1_47]; decide) (by decide) ?_
    refine J0_iload_n (pc' := 166) dX4_joined_165 rfl rfl ?_
    refine J0_if_ne 173 (pc' := 169) dX4_joined_166 (by decide) rfl (fun h_166 => ?_) (fun h_166 => ?_)
    · refine J0_iload_n (pc' := 174) dX4_joined_173 rfl rfl ?_
      refine J0_iload_n (pc' := 175) dX4_joined_174 rfl rfl ?_
      refine J0_idiv (pc' := 176) dX4_joined_175 h_166 rfl ?_
      exact J0_iret dX4_joined_176  ⟨jv (by simp [sJoin, jb, *]), rfl⟩
    · refine J0_iconst (v := 0) (pc' := 170) dX4_joined_169 (by decide) rfl ?_
      refine J0_goto (pc' := 0) 176 dX4_joined_170 (by decide) ?_
      exact J0_iret dX4_joined_176  ⟨jv (by simp [sJoin, jb, *]), rfl⟩
  by_cases e1_60 : s = 60
  · refine J0_look (pc' := 0) (off := 119) 120 dX4_joined_1 (by decide) (by rw [e1_60]; decide) (by decide) ?_
    refine J0_iload_n (pc' := 121) dX4_joined_120 rfl rfl ?_
    refine J0_iload_n (pc' := 122) dX4_joined_121 rfl rfl ?_
    refine J0_icmp_ge 129 (pc' := 125) dX4_joined_122 (by decide) rfl (fun h_122 => ?_) (fun h_122 => ?_)
    · refine J0_iconst (v := 0) (pc' := 130) dX4_joined_129 (by decide) rfl ?_
      exact J0_iret dX4_joined_130  ⟨jv (by simp [sJoin, jb, *]), rfl⟩
    · refine J0_iconst (v := 1) (pc' := 126) dX4_joined_125 (by decide) rfl ?_
      refine J0_goto (pc' := 0) 130 dX4_joined_126 (by decide) ?_
      exact J0_iret dX4_joined_130  ⟨jv (by simp [sJoin, jb, *]), rfl⟩
  by_cases e1_61 : s = 61
  · refine J0_look (pc' := 0) (off := 130) 131 dX4_joined_1 (by decide) (by rw [e1_61]; decide) (by decide) ?_
    refine J0_iload_n (pc' := 132) dX4_joined_131 rfl rfl ?_
    refine J0_iload_n (pc' := 133) dX4_joined_132 rfl rfl ?_
    refine J0_icmp_ne 140 (pc' := 136) dX4_joined_133 (by decide) rfl (fun h_133 => ?_) (fun h_133 => ?_)
    · refine J0_iconst (v := 0) (pc' := 141) dX4_joined_140 (by decide) rfl ?_
      exact J0_iret dX4_joined_141  ⟨jv (by simp [sJoin, jb, *]), rfl⟩
    · refine J0_iconst (v := 1) (pc' := 137) dX4_joined_136 (by decide) rfl ?_
      refine J0_goto (pc' := 0) 141 dX4_joined_137 (by decide) ?_
      exact J0_iret dX4_joined_141  ⟨jv (by simp [sJoin, jb, *]), rfl⟩
  by_cases e1_62 : s = 62
  · refine J0_look (pc' := 0) (off := 141) 142 dX4_joined_1 (by decide) (by rw [e1_62]; decide) (by decide) ?_
    refine J0_iload_n (pc' := 143) dX4_joined_142 rfl rfl ?_
    refine J0_iload_n (pc' := 144) dX4_joined_143 rfl rfl ?_
    refine J0_icmp_le 151 (pc' := 147) dX4_joined_144 (by decide) rfl (fun h_144 => ?_) (fun h_144 => ?_)
    · refine J0_iconst (v := 0) (pc' := 152) dX4_joined_151 (by decide) rfl ?_
      exact J0_iret dX4_joined_152  ⟨jv (by simp [sJoin, jb, *]), rfl⟩
    · refine J0_iconst (v := 1) (pc' := 148) dX4_joined_147 (by decide) rfl ?_
      refine J0_goto (pc' := 0) 152 dX4_joined_148 (by decide) ?_
      exact J0_iret dX4_joined_152  ⟨jv (by simp [sJoin, jb, *]), rfl⟩
  by_cases e1_124 : s = 124
  · refine J0_look (pc' := 0) (off := 91) 92 dX4_joined_1 (by decide) (by rw [e1_124]; decide) (by decide) ?_
    refine J0_iload_n (pc' := 93) dX4_joined_92 rfl rfl ?_
    refine J0_if_ne 100 (pc' := 96) dX4_joined_93 (by decide) rfl (fun h_93 => ?_) (fun h_93 => ?_)
    · refine J0_iconst (v := 1) (pc' := 101) dX4_joined_100 (by decide) rfl ?_
      refine J0_goto (pc' := 0) 105 dX4_joined_101 (by decide) ?_
      exact J0_iret dX4_joined_105  ⟨jv (by simp [sJoin, jb, *]), rfl⟩
    · refine J0_iload_n (pc' := 97) dX4_joined_96 rfl rfl ?_
      refine J0_if_eq 104 (pc' := 100) dX4_joined_97 (by decide) rfl (fun h_97 => ?_) (fun h_97 => ?_)
      · refine J0_iconst (v := 0) (pc' := 105) dX4_joined_104 (by decide) rfl ?_
        exact J0_iret dX4_joined_105  ⟨jv (by simp [sJoin, jb, *]), rfl⟩
      · refine J0_iconst (v := 1) (pc' := 101) dX4_joined_100 (by decide) rfl ?_
        refine J0_goto (pc' := 0) 105 dX4_joined_101 (by decide) ?_
        exact J0_iret dX4_joined_105  ⟨jv (by simp [sJoin, jb, *]), rfl⟩
  refine J0_look (pc' := 0) (off := 188) 189 dX4_joined_1 (by decide) (by simp [Op.lookupswitch.offset, zneJ e1_37 (k := 37) (by decide), zneJ e1_38 (k := 38) (by decide), zneJ e1_42 (k := 42) (by decide), zneJ e1_43 (k := 43) (by decide), zneJ e1_45 (k := 45) (by decide), zneJ e1_47 (k := 47) (by decide), zneJ e1_60 (k := 60) (by decide), zneJ e1_61 (k := 61) (by decide), zneJ e1_62 (k := 62) (by decide), zneJ e1_124 (k := 124) (by decide)]) (by decide) ?_
  refine J0_iconst (v := 0) (pc' := 190) dX4_joined_189 (by decide) rfl ?_
  exact J0_iret dX4_joined_190  ⟨jv (by simp [sJoin, jb, *]), rfl⟩
theorem k_X4_joined {G : jG} {w : jWd} {s a b : Int32} : jKd G 0 yX4_joined cX4_joined 3 (some .int) [.int s, .int a, .int b] w (some (.int (sJoin s a b))) w := jK_fine (fun w2 _ => jK0_post kf_joined (fun _ _ h => ⟨h.1, by rw [h.2]; exact jq.rf _⟩))
/-- Math.max(lo, Math.min(hi, v)) as it is worked out -/
def sMM (lo hi v : Int32) : Int32 := if lo < (if v < hi then v else hi) then (if v < hi then v else hi) else lo
set_option maxHeartbeats 4000000 in
set_option maxRecDepth 100000 in
theorem l_given {G : jG} {w : jWd} {t : Nat} (ht : jT t) {a b c : Int32} {N : Nat} (hN : N ≤ 60) (hcnt : w.1 t 5 = nI N) (hwf : sWf (w.1 (t + 1)) N) : ∀ n i : Nat, ∀ w2 : jWd, i + n = N → jq w w2 → gOK (w2.1 (t + 2)) (sRun (w.1 (t + 1)) a b c i) → (i = 0 → w2.1 (t + 2) 0 = a) → J0 G (jM0 G 2 RX4 cX4_given 7 (some .int) (fun r w3 => r = some (.int (sMM (w.1 t 1) (w.1 t 2) (if N = 0 then a else (sRun (w.1 (t + 1)) a b c N).headD 0))) ∧ jq w w3)) w2 13 [some (.ref t), some (.int a), some (.int b), some (.int c), some (.int (tp (sRun (w.1 (t + 1)) a b c i).length)), some (.int (nI i)), none] [] := by
  intro n
  induction n with
  | zero =>
    intro i w2 hi hq hg h0
    have hct : w2.1 t 5 = nI N := by rw [hq.1 t (by rw [lyt_0 ht]; exact (by decide : (10 : Nat) ≠ 5))]; exact hcnt
    have hc1 : w2.1 t 1 = w.1 t 1 := by rw [hq.1 t (by rw [lyt_0 ht]; exact (by decide : (10 : Nat) ≠ 5))]
    have hc2 : w2.1 t 2 = w.1 t 2 := by rw [hq.1 t (by rw [lyt_0 ht]; exact (by decide : (10 : Nat) ≠ 5))]
    have hv : w2.1 (t + 2) 0 = (if N = 0 then a else (sRun (w.1 (t + 1)) a b c N).headD 0) := by
      by_cases hz : N = 0
      · rw [if_pos hz]; exact h0 (by omega)
      · rw [if_neg hz]
        have e : i = N := by omega
        subst e
        obtain ⟨hlen, -⟩ := sRun_len hwf a b c i (Nat.le_refl _)
        rw [hwf.2 (by omega)] at hlen
        cases hS : sRun (w.1 (t + 1)) a b c i with
        | nil => rw [hS] at hlen; simp at hlen
        | cons x r =>
          rw [hS] at hlen hg
          have e2 : r = [] := List.length_eq_zero_iff.mp (by simpa using hlen)
          subst e2
          exact gOK_top hg
    refine J0_iload (pc' := 15) dX4_given_13 rfl rfl ?_
    refine J0_aload_n (pc' := 16) dX4_given_15 rfl rfl ?_
    refine J0_getI (pc' := 19) dX4_given_16 fl_4_35 (lyt_0 ht) (l84t_0 ht) rfl rfl ?_
    refine J0_icmp_ge 179 (pc' := 22) dX4_given_19 (by decide) rfl (fun h_19 => ?_) (fun h_19 => absurd (by rw [hct]; exact nI_le (by omega) (by omega)) h_19)
    refine J0_aload_n (pc' := 180) dX4_given_179 rfl rfl ?_
    refine J0_getI (pc' := 183) dX4_given_180 fl_4_22 (lyt_0 ht) (l84t_0 ht) rfl rfl ?_
    rw [hc1]
    refine J0_aload_n (pc' := 184) dX4_given_183 rfl rfl ?_
    refine J0_getI (pc' := 187) dX4_given_184 fl_4_26 (lyt_0 ht) (l84t_0 ht) rfl rfl ?_
    rw [hc2]
    refine J0_aload_n (pc' := 188) dX4_given_187 rfl rfl ?_
    refine J0_getR (pc' := 191) dX4_given_188 fl_4_15 (lyt_0 ht) (l84t_0 ht) rfl rfl ?_
    refine J0_iconst (v := 0) (pc' := 192) dX4_given_191 (by decide) rfl ?_
    refine J0_iald5 0 (pc' := 193) dX4_given_192 (lyt_2 ht) (l84t_2 ht) nIc_0 (by decide) (by decide) rfl ?_
    rw [hv]
    refine J0_mmin (pc' := 196) dX4_given_193 lm_4_38 rfl rfl ?_
    refine J0_mmax (pc' := 199) dX4_given_196 lm_4_48 rfl rfl ?_
    exact J0_iret dX4_given_199  ⟨rfl, hq⟩
  | succ n ih =>
    intro i w2 hi hq hg h0
    have hiN : i < N := by omega
    obtain ⟨hlen, hdl⟩ := sRun_len hwf a b c i (by omega)
    have hst : w2.1 (t + 1) i = w.1 (t + 1) i := by rw [hq.1 (t + 1) (by rw [lyt_1 ht]; exact (by decide : (0 : Nat) ≠ 5))]
    have hct : w2.1 t 5 = nI N := by rw [hq.1 t (by rw [lyt_0 ht]; exact (by decide : (10 : Nat) ≠ 5))]; exact hcnt
    rcases hwf.1 i hiN with hk | ⟨hk, hd⟩ | ⟨hk, hd⟩
    · have hl59 : (sRun (w.1 (t + 1)) a b c i).length ≤ 59 := by omega
      refine J0_iload (pc' := 15) dX4_given_13 rfl rfl ?_
      refine J0_aload_n (pc' := 16) dX4_given_15 rfl rfl ?_
      refine J0_getI (pc' := 19) dX4_given_16 fl_4_35 (lyt_0 ht) (l84t_0 ht) rfl rfl ?_
      refine J0_icmp_ge 179 (pc' := 22) dX4_given_19 (by decide) rfl (fun h_19 => absurd h_19 (by rw [hct]; exact nI_ge (by omega) (by omega))) (fun h_19 => ?_)
      refine J0_iload (pc' := 24) dX4_given_22 rfl rfl ?_
      refine J0_bipush (v := 60) (pc' := 26) dX4_given_24 (by decide) rfl ?_
      refine J0_icmp_ge 179 (pc' := 29) dX4_given_26 (by decide) rfl (fun h_26 => absurd h_26 (by rw [nIc_60]; exact nI_ge (by omega) (by decide))) (fun h_26 => ?_)
      refine J0_aload_n (pc' := 30) dX4_given_29 rfl rfl ?_
      refine J0_getR (pc' := 33) dX4_given_30 fl_4_9 (lyt_0 ht) (l84t_0 ht) rfl rfl ?_
      refine J0_iload (pc' := 35) dX4_given_33 rfl rfl ?_
      refine J0_iald i (pc' := 36) dX4_given_35 (lyt_1 ht) (l84t_1 ht) rfl (by omega) (by decide) rfl ?_
      rw [hst]
      refine J0_istore (pc' := 38) dX4_given_36 (Nat.le_of_ble_eq_true rfl) (jst6 rfl rfl) rfl ?_
      refine J0_iload (pc' := 40) dX4_given_38 rfl rfl ?_
      refine J0_bipush (v := (-3)) (pc' := 42) dX4_given_40 (by decide) rfl ?_
      refine J0_icmp_lt 98 (pc' := 45) dX4_given_42 (by decide) rfl (fun h_42 => absurd h_42 (Int32.not_lt.mpr hk)) (fun h_42 => ?_)
      refine J0_iload (pc' := 47) dX4_given_45 rfl rfl ?_
      refine J0_iconst (v := 1) (pc' := 48) dX4_given_47 (by decide) rfl ?_
      refine J0_iadd (pc' := 49) dX4_given_48 rfl ?_
      refine J0_bipush (v := 59) (pc' := 51) dX4_given_49 (by decide) rfl ?_
      refine J0_mmin (pc' := 54) dX4_given_51 lm_4_38 rfl rfl ?_
      rw [tp_min (by omega)]
      refine J0_istore (pc' := 56) dX4_given_54 (Nat.le_of_ble_eq_true rfl) (jst4 rfl rfl) rfl ?_
      refine J0_aload_n (pc' := 57) dX4_given_56 rfl rfl ?_
      refine J0_getR (pc' := 60) dX4_given_57 fl_4_15 (lyt_0 ht) (l84t_0 ht) rfl rfl ?_
      refine J0_iload (pc' := 62) dX4_given_60 rfl rfl ?_
      refine J0_iload (pc' := 64) dX4_given_62 rfl rfl ?_
      refine J0_if_lt 72 (pc' := 67) dX4_given_64 (by decide) rfl (fun h_64 => ?_) (fun h_64 => ?_)
      · refine J0_iload (pc' := 74) dX4_given_72 rfl rfl ?_
        refine J0_iconst (v := -1) (pc' := 75) dX4_given_74 (by decide) rfl ?_
        refine J0_icmp_ne 82 (pc' := 78) dX4_given_75 (by decide) rfl (fun h_75 => ?_) (fun h_75 => ?_)
        · refine J0_iload (pc' := 84) dX4_given_82 rfl rfl ?_
          refine J0_bipush (v := (-2)) (pc' := 86) dX4_given_84 (by decide) rfl ?_
          refine J0_icmp_ne 93 (pc' := 89) dX4_given_86 (by decide) rfl (fun h_86 => ?_) (fun h_86 => ?_)
          · have h3 : w.1 (t + 1) i = -3 := by
              have q1 := Int32.le_iff_toInt_le.mp hk
              have q2 := Int32.lt_iff_toInt_lt.mp h_64
              rw [show (-3 : Int32).toInt = -3 from by decide] at q1
              rw [show (0 : Int32).toInt = 0 from by decide] at q2
              have q3 := zneI h_75 (k := -1) (by decide)
              have q4 := zneI h_86 (k := -2) (by decide)
              exact Int32.toInt_inj.mp ((show (w.1 (t + 1) i).toInt = -3 by omega).trans (by decide))
            refine J0_iload_n (pc' := 94) dX4_given_93 rfl rfl ?_
            refine J0_iast5 ((sRun (w.1 (t + 1)) a b c i).length) (pc' := 95) dX4_given_94 (lyt_2 ht) (l84t_2 ht) rfl (by omega) (by decide) rfl ?_
            refine J0_goto (pc' := 0) 173 dX4_given_95 (by decide) ?_
            refine J0_iinc (pc' := 176) dX4_given_173 rfl (Nat.le_of_ble_eq_true rfl) (jst5 rfl rfl) rfl ?_
            refine J0_goto (pc' := 0) 13 dX4_given_176 (by decide) ?_
            have eS : sRun (w.1 (t + 1)) a b c (i + 1) = c :: sRun (w.1 (t + 1)) a b c i := by rw [sRun, if_neg (Int32.not_le.mpr h_64), if_neg h_75, if_neg h_86, if_pos h3]
            have h2 := ih (i + 1) _ (by omega) (jq_scr (a := t + 2) (k := (sRun (w.1 (t + 1)) a b c i).length) (v := c) hq (by rw [lyt_2 ht])) (by rw [eS, jset_at]; exact gOK_push _ hg) (by omega)
            rw [eS, ← z1, List.length_cons] at h2
            have et : tp ((sRun (w.1 (t + 1)) a b c i).length + 1) = nI (sRun (w.1 (t + 1)) a b c i).length := tp_p (Nat.succ_pos _)
            rw [et] at h2
            exact J0_mask [true, true, true, true, true, true, false] h2
          · refine J0_iload_n (pc' := 90) dX4_given_89 rfl rfl ?_
            refine J0_goto (pc' := 0) 94 dX4_given_90 (by decide) ?_
            refine J0_iast5 ((sRun (w.1 (t + 1)) a b c i).length) (pc' := 95) dX4_given_94 (lyt_2 ht) (l84t_2 ht) rfl (by omega) (by decide) rfl ?_
            refine J0_goto (pc' := 0) 173 dX4_given_95 (by decide) ?_
            refine J0_iinc (pc' := 176) dX4_given_173 rfl (Nat.le_of_ble_eq_true rfl) (jst5 rfl rfl) rfl ?_
            refine J0_goto (pc' := 0) 13 dX4_given_176 (by decide) ?_
            have eS : sRun (w.1 (t + 1)) a b c (i + 1) = b :: sRun (w.1 (t + 1)) a b c i := by rw [sRun, if_neg (Int32.not_le.mpr h_64), if_neg h_75, if_pos h_86]
            have h2 := ih (i + 1) _ (by omega) (jq_scr (a := t + 2) (k := (sRun (w.1 (t + 1)) a b c i).length) (v := b) hq (by rw [lyt_2 ht])) (by rw [eS, jset_at]; exact gOK_push _ hg) (by omega)
            rw [eS, ← z1, List.length_cons] at h2
            have et : tp ((sRun (w.1 (t + 1)) a b c i).length + 1) = nI (sRun (w.1 (t + 1)) a b c i).length := tp_p (Nat.succ_pos _)
            rw [et] at h2
            exact J0_mask [true, true, true, true, true, true, false] h2
        · refine J0_iload_n (pc' := 79) dX4_given_78 rfl rfl ?_
          refine J0_goto (pc' := 0) 94 dX4_given_79 (by decide) ?_
          refine J0_iast5 ((sRun (w.1 (t + 1)) a b c i).length) (pc' := 95) dX4_given_94 (lyt_2 ht) (l84t_2 ht) rfl (by omega) (by decide) rfl ?_
          refine J0_goto (pc' := 0) 173 dX4_given_95 (by decide) ?_
          refine J0_iinc (pc' := 176) dX4_given_173 rfl (Nat.le_of_ble_eq_true rfl) (jst5 rfl rfl) rfl ?_
          refine J0_goto (pc' := 0) 13 dX4_given_176 (by decide) ?_
          have eS : sRun (w.1 (t + 1)) a b c (i + 1) = a :: sRun (w.1 (t + 1)) a b c i := by rw [sRun, if_neg (Int32.not_le.mpr h_64), if_pos h_75]
          have h2 := ih (i + 1) _ (by omega) (jq_scr (a := t + 2) (k := (sRun (w.1 (t + 1)) a b c i).length) (v := a) hq (by rw [lyt_2 ht])) (by rw [eS, jset_at]; exact gOK_push _ hg) (by omega)
          rw [eS, ← z1, List.length_cons] at h2
          have et : tp ((sRun (w.1 (t + 1)) a b c i).length + 1) = nI (sRun (w.1 (t + 1)) a b c i).length := tp_p (Nat.succ_pos _)
          rw [et] at h2
          exact J0_mask [true, true, true, true, true, true, false] h2
      · refine J0_iload (pc' := 69) dX4_given_67 rfl rfl ?_
        refine J0_goto (pc' := 0) 94 dX4_given_69 (by decide) ?_
        refine J0_iast5 ((sRun (w.1 (t + 1)) a b c i).length) (pc' := 95) dX4_given_94 (lyt_2 ht) (l84t_2 ht) rfl (by omega) (by decide) rfl ?_
        refine J0_goto (pc' := 0) 173 dX4_given_95 (by decide) ?_
        refine J0_iinc (pc' := 176) dX4_given_173 rfl (Nat.le_of_ble_eq_true rfl) (jst5 rfl rfl) rfl ?_
        refine J0_goto (pc' := 0) 13 dX4_given_176 (by decide) ?_
        have eS : sRun (w.1 (t + 1)) a b c (i + 1) = w.1 (t + 1) i :: sRun (w.1 (t + 1)) a b c i := by rw [sRun, if_pos (Int32.not_lt.mp h_64)]
        have h2 := ih (i + 1) _ (by omega) (jq_scr (a := t + 2) (k := (sRun (w.1 (t + 1)) a b c i).length) (v := w.1 (t + 1) i) hq (by rw [lyt_2 ht])) (by rw [eS, jset_at]; exact gOK_push _ hg) (by omega)
        rw [eS, ← z1, List.length_cons] at h2
        have et : tp ((sRun (w.1 (t + 1)) a b c i).length + 1) = nI (sRun (w.1 (t + 1)) a b c i).length := tp_p (Nat.succ_pos _)
        rw [et] at h2
        exact J0_mask [true, true, true, true, true, true, false] h2
    · obtain ⟨x, r, hS⟩ : ∃ x r, sRun (w.1 (t + 1)) a b c i = x :: r := by
        cases h : sRun (w.1 (t + 1)) a b c i with
        | nil => rw [h] at hlen; simp at hlen; omega
        | cons x r => exact ⟨x, r, rfl⟩
      have hlx : (sRun (w.1 (t + 1)) a b c i).length = r.length + 1 := by rw [hS]; rfl
      rw [hS] at hg
      have hx : w2.1 (t + 2) r.length = x := gOK_top hg
      refine J0_iload (pc' := 15) dX4_given_13 rfl rfl ?_
      refine J0_aload_n (pc' := 16) dX4_given_15 rfl rfl ?_
      refine J0_getI (pc' := 19) dX4_given_16 fl_4_35 (lyt_0 ht) (l84t_0 ht) rfl rfl ?_
      refine J0_icmp_ge 179 (pc' := 22) dX4_given_19 (by decide) rfl (fun h_19 => absurd h_19 (by rw [hct]; exact nI_ge (by omega) (by omega))) (fun h_19 => ?_)
      refine J0_iload (pc' := 24) dX4_given_22 rfl rfl ?_
      refine J0_bipush (v := 60) (pc' := 26) dX4_given_24 (by decide) rfl ?_
      refine J0_icmp_ge 179 (pc' := 29) dX4_given_26 (by decide) rfl (fun h_26 => absurd h_26 (by rw [nIc_60]; exact nI_ge (by omega) (by decide))) (fun h_26 => ?_)
      refine J0_aload_n (pc' := 30) dX4_given_29 rfl rfl ?_
      refine J0_getR (pc' := 33) dX4_given_30 fl_4_9 (lyt_0 ht) (l84t_0 ht) rfl rfl ?_
      refine J0_iload (pc' := 35) dX4_given_33 rfl rfl ?_
      refine J0_iald i (pc' := 36) dX4_given_35 (lyt_1 ht) (l84t_1 ht) rfl (by omega) (by decide) rfl ?_
      rw [hst]
      refine J0_istore (pc' := 38) dX4_given_36 (Nat.le_of_ble_eq_true rfl) (jst6 rfl rfl) rfl ?_
      refine J0_iload (pc' := 40) dX4_given_38 rfl rfl ?_
      refine J0_bipush (v := (-3)) (pc' := 42) dX4_given_40 (by decide) rfl ?_
      refine J0_icmp_lt 98 (pc' := 45) dX4_given_42 (by decide) rfl (fun h_42 => ?_) (fun h_42 => absurd (by rw [hk]; decide) h_42)
      refine J0_iload (pc' := 100) dX4_given_98 rfl rfl ?_
      refine J0_bipush (v := (-33)) (pc' := 102) dX4_given_100 (by decide) rfl ?_
      refine J0_icmp_ne 135 (pc' := 105) dX4_given_102 (by decide) rfl (fun h_102 => absurd hk h_102) (fun h_102 => ?_)
      refine J0_iload (pc' := 107) dX4_given_105 rfl rfl ?_
      refine J0_if_lt 135 (pc' := 110) dX4_given_107 (by decide) rfl (fun h_107 => absurd h_107 (by rw [hlx, tp_p (Nat.succ_pos _)]; exact nI_pos (by omega))) (fun h_107 => ?_)
      refine J0_aload_n (pc' := 111) dX4_given_110 rfl rfl ?_
      refine J0_getR (pc' := 114) dX4_given_111 fl_4_15 (lyt_0 ht) (l84t_0 ht) rfl rfl ?_
      refine J0_iload (pc' := 116) dX4_given_114 rfl rfl ?_
      refine J0_aload_n (pc' := 117) dX4_given_116 rfl rfl ?_
      refine J0_getR (pc' := 120) dX4_given_117 fl_4_15 (lyt_0 ht) (l84t_0 ht) rfl rfl ?_
      refine J0_iload (pc' := 122) dX4_given_120 rfl rfl ?_
      refine J0_iald5 (r.length) (pc' := 123) dX4_given_122 (lyt_2 ht) (l84t_2 ht) (by rw [hlx]; exact tp_p (Nat.succ_pos _)) (by omega) (by decide) rfl ?_
      refine J0_if_ne 130 (pc' := 126) dX4_given_123 (by decide) rfl (fun h_123 => ?_) (fun h_123 => ?_)
      · refine J0_iconst (v := 0) (pc' := 131) dX4_given_130 (by decide) rfl ?_
        refine J0_iast5 (r.length) (pc' := 132) dX4_given_131 (lyt_2 ht) (l84t_2 ht) (by rw [hlx]; exact tp_p (Nat.succ_pos _)) (by omega) (by decide) rfl ?_
        refine J0_goto (pc' := 0) 173 dX4_given_132 (by decide) ?_
        refine J0_iinc (pc' := 176) dX4_given_173 rfl (Nat.le_of_ble_eq_true rfl) (jst5 rfl rfl) rfl ?_
        refine J0_goto (pc' := 0) 13 dX4_given_176 (by decide) ?_
        have eS : sRun (w.1 (t + 1)) a b c (i + 1) = jb (x = 0) :: r := by rw [sRun, if_neg (by rw [hk]; decide), if_neg (by rw [hk]; decide), if_neg (by rw [hk]; decide), if_neg (by rw [hk]; decide), if_pos hk, hS]
        have ez : 0 = jb (x = 0) := (jb_f (hx ▸ h_123)).symm
        have h2 := ih (i + 1) _ (by omega) (jq_scr (a := t + 2) (k := r.length) (v := jb (x = 0)) hq (by rw [lyt_2 ht])) (by rw [eS, jset_at]; exact gOK_push _ (gOK_pop hg)) (by omega)
        rw [eS, ← z1, List.length_cons, ← ez] at h2
        rw [hlx]
        exact J0_mask [true, true, true, true, true, true, false] h2
      · refine J0_iconst (v := 1) (pc' := 127) dX4_given_126 (by decide) rfl ?_
        refine J0_goto (pc' := 0) 131 dX4_given_127 (by decide) ?_
        refine J0_iast5 (r.length) (pc' := 132) dX4_given_131 (lyt_2 ht) (l84t_2 ht) (by rw [hlx]; exact tp_p (Nat.succ_pos _)) (by omega) (by decide) rfl ?_
        refine J0_goto (pc' := 0) 173 dX4_given_132 (by decide) ?_
        refine J0_iinc (pc' := 176) dX4_given_173 rfl (Nat.le_of_ble_eq_true rfl) (jst5 rfl rfl) rfl ?_
        refine J0_goto (pc' := 0) 13 dX4_given_176 (by decide) ?_
        have eS : sRun (w.1 (t + 1)) a b c (i + 1) = jb (x = 0) :: r := by rw [sRun, if_neg (by rw [hk]; decide), if_neg (by rw [hk]; decide), if_neg (by rw [hk]; decide), if_neg (by rw [hk]; decide), if_pos hk, hS]
        have ez : 1 = jb (x = 0) := (jb_t (hx ▸ h_123)).symm
        have h2 := ih (i + 1) _ (by omega) (jq_scr (a := t + 2) (k := r.length) (v := jb (x = 0)) hq (by rw [lyt_2 ht])) (by rw [eS, jset_at]; exact gOK_push _ (gOK_pop hg)) (by omega)
        rw [eS, ← z1, List.length_cons, ← ez] at h2
        rw [hlx]
        exact J0_mask [true, true, true, true, true, true, false] h2
    · have hns : w.1 (t + 1) i < -3 ∧ ¬ w.1 (t + 1) i = -33 := by rcases hk with h | h | h | h | h | h | h | h | h | h <;> rw [h] <;> decide
      obtain ⟨z, x, r, hS⟩ : ∃ z x r, sRun (w.1 (t + 1)) a b c i = z :: x :: r := by
        cases h : sRun (w.1 (t + 1)) a b c i with
        | nil => rw [h] at hlen; simp at hlen; omega
        | cons z r =>
          cases r with
          | nil => rw [h] at hlen; simp at hlen; omega
          | cons x r => exact ⟨z, x, r, rfl⟩
      have hlx : (sRun (w.1 (t + 1)) a b c i).length = r.length + 1 + 1 := by rw [hS]; rfl
      rw [hS] at hg
      have hz : w2.1 (t + 2) (r.length + 1) = z := gOK_top hg
      have hx : w2.1 (t + 2) r.length = x := gOK_top (gOK_pop hg)
      have htp : tp (sRun (w.1 (t + 1)) a b c i).length + Int32.ofInt (-1) = nI r.length := by
        rw [hlx, tp_p (Nat.succ_pos _)]
        show nI (r.length + 1) + -1 = nI r.length
        rw [← Int32.sub_eq_add_neg]
        exact jsub (a := r.length + 1) (b := 1) rfl nIc_1 (by omega)
      refine J0_iload (pc' := 15) dX4_given_13 rfl rfl ?_
      refine J0_aload_n (pc' := 16) dX4_given_15 rfl rfl ?_
      refine J0_getI (pc' := 19) dX4_given_16 fl_4_35 (lyt_0 ht) (l84t_0 ht) rfl rfl ?_
      refine J0_icmp_ge 179 (pc' := 22) dX4_given_19 (by decide) rfl (fun h_19 => absurd h_19 (by rw [hct]; exact nI_ge (by omega) (by omega))) (fun h_19 => ?_)
      refine J0_iload (pc' := 24) dX4_given_22 rfl rfl ?_
      refine J0_bipush (v := 60) (pc' := 26) dX4_given_24 (by decide) rfl ?_
      refine J0_icmp_ge 179 (pc' := 29) dX4_given_26 (by decide) rfl (fun h_26 => absurd h_26 (by rw [nIc_60]; exact nI_ge (by omega) (by decide))) (fun h_26 => ?_)
      refine J0_aload_n (pc' := 30) dX4_given_29 rfl rfl ?_
      refine J0_getR (pc' := 33) dX4_given_30 fl_4_9 (lyt_0 ht) (l84t_0 ht) rfl rfl ?_
      refine J0_iload (pc' := 35) dX4_given_33 rfl rfl ?_
      refine J0_iald i (pc' := 36) dX4_given_35 (lyt_1 ht) (l84t_1 ht) rfl (by omega) (by decide) rfl ?_
      rw [hst]
      refine J0_istore (pc' := 38) dX4_given_36 (Nat.le_of_ble_eq_true rfl) (jst6 rfl rfl) rfl ?_
      refine J0_iload (pc' := 40) dX4_given_38 rfl rfl ?_
      refine J0_bipush (v := (-3)) (pc' := 42) dX4_given_40 (by decide) rfl ?_
      refine J0_icmp_lt 98 (pc' := 45) dX4_given_42 (by decide) rfl (fun h_42 => ?_) (fun h_42 => absurd hns.1 h_42)
      refine J0_iload (pc' := 100) dX4_given_98 rfl rfl ?_
      refine J0_bipush (v := (-33)) (pc' := 102) dX4_given_100 (by decide) rfl ?_
      refine J0_icmp_ne 135 (pc' := 105) dX4_given_102 (by decide) rfl (fun h_102 => ?_) (fun h_102 => absurd h_102 hns.2)
      refine J0_iload (pc' := 137) dX4_given_135 rfl rfl ?_
      refine J0_iconst (v := 1) (pc' := 138) dX4_given_137 (by decide) rfl ?_
      refine J0_icmp_lt 173 (pc' := 141) dX4_given_138 (by decide) rfl (fun h_138 => absurd h_138 (by rw [hlx, tp_p (Nat.succ_pos _), nIc_1]; exact nI_nlt (by omega) (by omega))) (fun h_138 => ?_)
      refine J0_iinc (pc' := 144) dX4_given_141 rfl (Nat.le_of_ble_eq_true rfl) (jst4 rfl rfl) rfl ?_
      refine J0_aload_n (pc' := 145) dX4_given_144 rfl rfl ?_
      refine J0_getR (pc' := 148) dX4_given_145 fl_4_15 (lyt_0 ht) (l84t_0 ht) rfl rfl ?_
      refine J0_iload (pc' := 150) dX4_given_148 rfl rfl ?_
      refine J0_iload (pc' := 152) dX4_given_150 rfl rfl ?_
      refine J0_ineg (pc' := 153) dX4_given_152 rfl ?_
      refine J0_aload_n (pc' := 154) dX4_given_153 rfl rfl ?_
      refine J0_getR (pc' := 157) dX4_given_154 fl_4_15 (lyt_0 ht) (l84t_0 ht) rfl rfl ?_
      refine J0_iload (pc' := 159) dX4_given_157 rfl rfl ?_
      refine J0_iald5 (r.length) (pc' := 160) dX4_given_159 (lyt_2 ht) (l84t_2 ht) htp (by omega) (by decide) rfl ?_
      refine J0_aload_n (pc' := 161) dX4_given_160 rfl rfl ?_
      refine J0_getR (pc' := 164) dX4_given_161 fl_4_15 (lyt_0 ht) (l84t_0 ht) rfl rfl ?_
      refine J0_iload (pc' := 166) dX4_given_164 rfl rfl ?_
      refine J0_iconst (v := 1) (pc' := 167) dX4_given_166 (by decide) rfl ?_
      refine J0_iadd (pc' := 168) dX4_given_167 rfl ?_
      refine J0_iald5 (r.length + 1) (pc' := 169) dX4_given_168 (lyt_2 ht) (l84t_2 ht) (by rw [htp]; exact nI_1 _) (by omega) (by decide) rfl ?_
      refine J0_S3v (pc' := 172) dX4_given_169 lk_4_44 cd_X4_joined (kf_joined) (jroom_of rfl) (Nat.le_of_ble_eq_true rfl) rfl ?_
      refine J0_iast5 (r.length) (pc' := 173) dX4_given_172 (lyt_2 ht) (l84t_2 ht) htp (by omega) (by decide) rfl ?_
      refine J0_iinc (pc' := 176) dX4_given_173 rfl (Nat.le_of_ble_eq_true rfl) (jst5 rfl rfl) rfl ?_
      refine J0_goto (pc' := 0) 13 dX4_given_176 (by decide) ?_
      have eS : sRun (w.1 (t + 1)) a b c (i + 1) = sJoin (-w.1 (t + 1) i) x z :: r := by
        have hs : ¬ 0 ≤ w.1 (t + 1) i ∧ ¬ w.1 (t + 1) i = -1 ∧ ¬ w.1 (t + 1) i = -2 ∧ ¬ w.1 (t + 1) i = -3 := by rcases hk with h | h | h | h | h | h | h | h | h | h <;> rw [h] <;> decide
        rw [sRun, if_neg hs.1, if_neg hs.2.1, if_neg hs.2.2.1, if_neg hs.2.2.2, if_neg hns.2, hS]
      have h2 := ih (i + 1) _ (by omega) (jq_scr (a := t + 2) (k := r.length) (v := sJoin (-w.1 (t + 1) i) x z) hq (by rw [lyt_2 ht])) (by rw [eS, jset_at]; exact gOK_push _ (gOK_pop (gOK_pop hg))) (by omega)
      rw [eS, ← z1, List.length_cons] at h2
      rw [hx, hz, htp]
      have et : tp (r.length + 1) = nI r.length := tp_p (Nat.succ_pos _)
      rw [et] at h2
      exact J0_mask [true, true, true, true, true, true, false] h2
set_option maxHeartbeats 4000000 in
set_option maxRecDepth 100000 in
theorem kf_given {G : jG} {w : jWd} {t : Nat} (ht : jT t) {a b c : Int32} {N : Nat} (hN : N ≤ 60) (hcnt : w.1 t 5 = nI N) (hwf : sWf (w.1 (t + 1)) N) : jK0 G 2 yX4_given cX4_given 7 (some .int) [.ref t, .int a, .int b, .int c] w (fun r w3 => r = some (.int (sMM (w.1 t 1) (w.1 t 2) (if N = 0 then a else (sRun (w.1 (t + 1)) a b c N).headD 0))) ∧ jq w w3) := by
  refine jK0_of (own := RX4) [some (.ref t), some (.int a), some (.int b), some (.int c), none, none, none] pn4 rfl (Nat.le_of_ble_eq_true rfl) rfl ?_
  refine J0_aload_n (pc' := 1) dX4_given_0 rfl rfl ?_
  refine J0_getR (pc' := 4) dX4_given_1 fl_4_15 (lyt_0 ht) (l84t_0 ht) rfl rfl ?_
  refine J0_iconst (v := 0) (pc' := 5) dX4_given_4 (by decide) rfl ?_
  refine J0_iload_n (pc' := 6) dX4_given_5 rfl rfl ?_
  refine J0_iast5 0 (pc' := 7) dX4_given_6 (lyt_2 ht) (l84t_2 ht) nIc_0 (by decide) (by decide) rfl ?_
  refine J0_iconst (v := -1) (pc' := 8) dX4_given_7 (by decide) rfl ?_
  refine J0_istore (pc' := 10) dX4_given_8 (Nat.le_of_ble_eq_true rfl) (jst4 rfl rfl) rfl ?_
  refine J0_iconst (v := 0) (pc' := 11) dX4_given_10 (by decide) rfl ?_
  refine J0_istore (pc' := 13) dX4_given_11 (Nat.le_of_ble_eq_true rfl) (jst5 rfl rfl) rfl ?_
  exact l_given ht hN hcnt hwf N 0 _ (by omega) (jq_scr (jq.rf w) (by rw [lyt_2 ht])) (fun j hj => absurd hj (Nat.not_lt_zero j)) (fun _ => by rw [jset_at]; rfl)
