/-! ===== the reference: texts ===== -/
/-! ===== the reference: texts ===== -/
theorem sRun_num {st : Nat → Int32} {a b c : Int32} {i : Nat} (h : 0 ≤ st i) : sRun st a b c (i + 1) = st i :: sRun st a b c i := by rw [sRun, if_pos h]
theorem sRun_a {st : Nat → Int32} {a b c : Int32} {i : Nat} (h : st i = -1) : sRun st a b c (i + 1) = a :: sRun st a b c i := by rw [sRun, if_neg (by rw [h]; decide), if_pos h]
theorem sRun_b {st : Nat → Int32} {a b c : Int32} {i : Nat} (h : st i = -2) : sRun st a b c (i + 1) = b :: sRun st a b c i := by rw [sRun, if_neg (by rw [h]; decide), if_neg (by rw [h]; decide), if_pos h]
theorem sRun_c {st : Nat → Int32} {a b c : Int32} {i : Nat} (h : st i = -3) : sRun st a b c (i + 1) = c :: sRun st a b c i := by rw [sRun, if_neg (by rw [h]; decide), if_neg (by rw [h]; decide), if_neg (by rw [h]; decide), if_pos h]
theorem sRun_not {st : Nat → Int32} {a b c : Int32} {i : Nat} (h : st i = -33) {x : Int32} {r : List Int32} (hS : sRun st a b c i = x :: r) : sRun st a b c (i + 1) = jb (x = 0) :: r := by
  rw [sRun, if_neg (by rw [h]; decide), if_neg (by rw [h]; decide), if_neg (by rw [h]; decide), if_neg (by rw [h]; decide), if_pos h, hS]
theorem sRun_two {st : Nat → Int32} {a b c : Int32} {i : Nat} (h : sSign (st i)) {x z : Int32} {r : List Int32} (hS : sRun st a b c i = z :: x :: r) : sRun st a b c (i + 1) = sJoin (-st i) x z :: r := by
  have hs : ¬ 0 ≤ st i ∧ ¬ st i = -1 ∧ ¬ st i = -2 ∧ ¬ st i = -3 ∧ ¬ st i = -33 := by rcases h with h | h | h | h | h | h | h | h | h | h <;> rw [h] <;> decide
  rw [sRun, if_neg hs.1, if_neg hs.2.1, if_neg hs.2.2.1, if_neg hs.2.2.2.1, if_neg hs.2.2.2.2, hS]
theorem sSg_pos {s : Int32} (h : sSign (-s)) : s = 124 ∨ s = 38 ∨ s = 60 ∨ s = 61 ∨ s = 62 ∨ s = 43 ∨ s = 45 ∨ s = 42 ∨ s = 47 ∨ s = 37 := by
  unfold sSign at h
  have e : ∀ v : Int32, -s = -v → s = v := fun v q => Int32.neg_inj.mp q
  rcases h with h | h | h | h | h | h | h | h | h | h
  · exact Or.inl (e 124 h)
  · exact Or.inr (Or.inl (e 38 h))
  · exact Or.inr (Or.inr (Or.inl (e 60 h)))
  · exact Or.inr (Or.inr (Or.inr (Or.inl (e 61 h))))
  · exact Or.inr (Or.inr (Or.inr (Or.inr (Or.inl (e 62 h)))))
  · exact Or.inr (Or.inr (Or.inr (Or.inr (Or.inr (Or.inl (e 43 h))))))
  · exact Or.inr (Or.inr (Or.inr (Or.inr (Or.inr (Or.inr (Or.inl (e 45 h)))))))
  · exact Or.inr (Or.inr (Or.inr (Or.inr (Or.inr (Or.inr (Or.inr (Or.inl (e 42 h))))))))
  · exact Or.inr (Or.inr (Or.inr (Or.inr (Or.inr (Or.inr (Or.inr (Or.inr (Or.inl (e 47 h)))))))))
  · exact Or.inr (Or.inr (Or.inr (Or.inr (Or.inr (Or.inr (Or.inr (Or.inr (Or.inr (e 37 h)))))))))
set_option maxHeartbeats 4000000 in
set_option maxRecDepth 100000 in
theorem kf_two {G : jG} {w : jWd} {s a b : Int32} (hs : sSign (-s)) : jKd0 G 0 yX7_twoOf cX7_twoOf 3 (some .int) [.int s, .int a, .int b] w (some (.int (sJoin s a b))) w := by
  refine jK0_of (own := RX7) [some (.int s), some (.int a), some (.int b)] pn7 rfl (Nat.le_of_ble_eq_true rfl) rfl ?_
  refine J0_iload_n (pc' := 1) dX7_twoOf_0 rfl rfl ?_
  rcases sSg_pos hs with e_124 | e_38 | e_60 | e_61 | e_62 | e_43 | e_45 | e_42 | e_47 | e_37
  · refine J0_tabOut (pc' := 0) 203 dX7_twoOf_1 (by rw [e_124]; decide) (by decide) ?_
    refine J0_iload_n (pc' := 204) dX7_twoOf_203 rfl rfl ?_
    refine J0_if_ne 211 (pc' := 207) dX7_twoOf_204 (by decide) rfl (fun h_204 => ?_) (fun h_204 => ?_)
    · refine J0_iconst (v := 1) (pc' := 212) dX7_twoOf_211 (by decide) rfl ?_
      refine J0_goto (pc' := 0) 216 dX7_twoOf_212 (by decide) ?_
      exact J0_iret dX7_twoOf_216  ⟨jv (by simp [sJoin, jb, *]), rfl⟩
    · refine J0_iload_n (pc' := 208) dX7_twoOf_207 rfl rfl ?_
      refine J0_if_eq 215 (pc' := 211) dX7_twoOf_208 (by decide) rfl (fun h_208 => ?_) (fun h_208 => ?_)
      · refine J0_iconst (v := 0) (pc' := 216) dX7_twoOf_215 (by decide) rfl ?_
        exact J0_iret dX7_twoOf_216  ⟨jv (by simp [sJoin, jb, *]), rfl⟩
      · refine J0_iconst (v := 1) (pc' := 212) dX7_twoOf_211 (by decide) rfl ?_
        refine J0_goto (pc' := 0) 216 dX7_twoOf_212 (by decide) ?_
        exact J0_iret dX7_twoOf_216  ⟨jv (by simp [sJoin, jb, *]), rfl⟩
  · refine J0_tabIn (pc' := 0) (off := 188) 189 dX7_twoOf_1 (by rw [e_38]; decide) (by rw [e_38]; decide) (by rw [e_38]; decide) (by decide) ?_
    refine J0_iload_n (pc' := 190) dX7_twoOf_189 rfl rfl ?_
    refine J0_if_eq 201 (pc' := 193) dX7_twoOf_190 (by decide) rfl (fun h_190 => ?_) (fun h_190 => ?_)
    · refine J0_iconst (v := 0) (pc' := 202) dX7_twoOf_201 (by decide) rfl ?_
      exact J0_iret dX7_twoOf_202  ⟨jv (by simp [sJoin, jb, *]), rfl⟩
    · refine J0_iload_n (pc' := 194) dX7_twoOf_193 rfl rfl ?_
      refine J0_if_eq 201 (pc' := 197) dX7_twoOf_194 (by decide) rfl (fun h_194 => ?_) (fun h_194 => ?_)
      · refine J0_iconst (v := 0) (pc' := 202) dX7_twoOf_201 (by decide) rfl ?_
        exact J0_iret dX7_twoOf_202  ⟨jv (by simp [sJoin, jb, *]), rfl⟩
      · refine J0_iconst (v := 1) (pc' := 198) dX7_twoOf_197 (by decide) rfl ?_
        refine J0_goto (pc' := 0) 202 dX7_twoOf_198 (by decide) ?_
        exact J0_iret dX7_twoOf_202  ⟨jv (by simp [sJoin, jb, *]), rfl⟩
  · refine J0_tabIn (pc' := 0) (off := 155) 156 dX7_twoOf_1 (by rw [e_60]; decide) (by rw [e_60]; decide) (by rw [e_60]; decide) (by decide) ?_
    refine J0_iload_n (pc' := 157) dX7_twoOf_156 rfl rfl ?_
    refine J0_iload_n (pc' := 158) dX7_twoOf_157 rfl rfl ?_
    refine J0_icmp_ge 165 (pc' := 161) dX7_twoOf_158 (by decide) rfl (fun h_158 => ?_) (fun h_158 => ?_)
    · refine J0_iconst (v := 0) (pc' := 166) dX7_twoOf_165 (by decide) rfl ?_
      exact J0_iret dX7_twoOf_166  ⟨jv (by simp [sJoin, jb, *]), rfl⟩
    · refine J0_iconst (v := 1) (pc' := 162) dX7_twoOf_161 (by decide) rfl ?_
      refine J0_goto (pc' := 0) 166 dX7_twoOf_162 (by decide) ?_
      exact J0_iret dX7_twoOf_166  ⟨jv (by simp [sJoin, jb, *]), rfl⟩
  · refine J0_tabIn (pc' := 0) (off := 166) 167 dX7_twoOf_1 (by rw [e_61]; decide) (by rw [e_61]; decide) (by rw [e_61]; decide) (by decide) ?_
    refine J0_iload_n (pc' := 168) dX7_twoOf_167 rfl rfl ?_
    refine J0_iload_n (pc' := 169) dX7_twoOf_168 rfl rfl ?_
    refine J0_icmp_ne 176 (pc' := 172) dX7_twoOf_169 (by decide) rfl (fun h_169 => ?_) (fun h_169 => ?_)
    · refine J0_iconst (v := 0) (pc' := 177) dX7_twoOf_176 (by decide) rfl ?_
      exact J0_iret dX7_twoOf_177  ⟨jv (by simp [sJoin, jb, *]), rfl⟩
    · refine J0_iconst (v := 1) (pc' := 173) dX7_twoOf_172 (by decide) rfl ?_
      refine J0_goto (pc' := 0) 177 dX7_twoOf_173 (by decide) ?_
      exact J0_iret dX7_twoOf_177  ⟨jv (by simp [sJoin, jb, *]), rfl⟩
  · refine J0_tabIn (pc' := 0) (off := 177) 178 dX7_twoOf_1 (by rw [e_62]; decide) (by rw [e_62]; decide) (by rw [e_62]; decide) (by decide) ?_
    refine J0_iload_n (pc' := 179) dX7_twoOf_178 rfl rfl ?_
    refine J0_iload_n (pc' := 180) dX7_twoOf_179 rfl rfl ?_
    refine J0_icmp_le 187 (pc' := 183) dX7_twoOf_180 (by decide) rfl (fun h_180 => ?_) (fun h_180 => ?_)
    · refine J0_iconst (v := 0) (pc' := 188) dX7_twoOf_187 (by decide) rfl ?_
      exact J0_iret dX7_twoOf_188  ⟨jv (by simp [sJoin, jb, *]), rfl⟩
    · refine J0_iconst (v := 1) (pc' := 184) dX7_twoOf_183 (by decide) rfl ?_
      refine J0_goto (pc' := 0) 188 dX7_twoOf_184 (by decide) ?_
      exact J0_iret dX7_twoOf_188  ⟨jv (by simp [sJoin, jb, *]), rfl⟩
  · refine J0_tabIn (pc' := 0) (off := 119) 120 dX7_twoOf_1 (by rw [e_43]; decide) (by rw [e_43]; decide) (by rw [e_43]; decide) (by decide) ?_
    refine J0_iload_n (pc' := 121) dX7_twoOf_120 rfl rfl ?_
    refine J0_iload_n (pc' := 122) dX7_twoOf_121 rfl rfl ?_
    refine J0_iadd (pc' := 123) dX7_twoOf_122 rfl ?_
    exact J0_iret dX7_twoOf_123  ⟨jv (by simp [sJoin, jb, *]), rfl⟩
  · refine J0_tabIn (pc' := 0) (off := 123) 124 dX7_twoOf_1 (by rw [e_45]; decide) (by rw [e_45]; decide) (by rw [e_45]; decide) (by decide) ?_
    refine J0_iload_n (pc' := 125) dX7_twoOf_124 rfl rfl ?_
    refine J0_iload_n (pc' := 126) dX7_twoOf_125 rfl rfl ?_
    refine J0_isub (pc' := 127) dX7_twoOf_126 rfl ?_
    exact J0_iret dX7_twoOf_127  ⟨jv (by simp [sJoin, jb, *]), rfl⟩
  · refine J0_tabIn (pc' := 0) (off := 127) 128 dX7_twoOf_1 (by rw [e_42]; decide) (by rw [e_42]; decide) (by rw [e_42]; decide) (by decide) ?_
    refine J0_iload_n (pc' := 129) dX7_twoOf_128 rfl rfl ?_
    refine J0_iload_n (pc' := 130) dX7_twoOf_129 rfl rfl ?_
    refine J0_imul (pc' := 131) dX7_twoOf_130 rfl ?_
    exact J0_iret dX7_twoOf_131  ⟨jv (by simp [sJoin, jb, *]), rfl⟩
  · refine J0_tabIn (pc' := 0) (off := 131) 132 dX7_twoOf_1 (by rw [e_47]; decide) (by rw [e_47]; decide) (by rw [e_47]; decide) (by decide) ?_
    refine J0_iload_n (pc' := 133) dX7_twoOf_132 rfl rfl ?_
    refine J0_if_ne 140 (pc' := 136) dX7_twoOf_133 (by decide) rfl (fun h_133 => ?_) (fun h_133 => ?_)
    · refine J0_iload_n (pc' := 141) dX7_twoOf_140 rfl rfl ?_
      refine J0_iload_n (pc' := 142) dX7_twoOf_141 rfl rfl ?_
      refine J0_idiv (pc' := 143) dX7_twoOf_142 h_133 rfl ?_
      exact J0_iret dX7_twoOf_143  ⟨jv (by simp [sJoin, jb, *]), rfl⟩
    · refine J0_iconst (v := 0) (pc' := 137) dX7_twoOf_136 (by decide) rfl ?_
      refine J0_goto (pc' := 0) 143 dX7_twoOf_137 (by decide) ?_
      exact J0_iret dX7_twoOf_143  ⟨jv (by simp [sJoin, jb, *]), rfl⟩
  · refine J0_tabIn (pc' := 0) (off := 143) 144 dX7_twoOf_1 (by rw [e_37]; decide) (by rw [e_37]; decide) (by rw [e_37]; decide) (by decide) ?_
    refine J0_iload_n (pc' := 145) dX7_twoOf_144 rfl rfl ?_
    refine J0_if_ne 152 (pc' := 148) dX7_twoOf_145 (by decide) rfl (fun h_145 => ?_) (fun h_145 => ?_)
    · refine J0_iload_n (pc' := 153) dX7_twoOf_152 rfl rfl ?_
      refine J0_iload_n (pc' := 154) dX7_twoOf_153 rfl rfl ?_
      refine J0_irem (pc' := 155) dX7_twoOf_154 h_145 rfl ?_
      exact J0_iret dX7_twoOf_155  ⟨jv (by simp [sJoin, jb, *]), rfl⟩
    · refine J0_iconst (v := 0) (pc' := 149) dX7_twoOf_148 (by decide) rfl ?_
      refine J0_goto (pc' := 0) 155 dX7_twoOf_149 (by decide) ?_
      exact J0_iret dX7_twoOf_155  ⟨jv (by simp [sJoin, jb, *]), rfl⟩
set_option maxHeartbeats 4000000 in
set_option maxRecDepth 100000 in
theorem l_works {G : jG} {w : jWd} {A N : Nat} (hA : A ≤ 261) (hN : N ≤ 60) (h0N : 0 < N) (hc : w.1 69 A = nI N) {st : Nat → Int32} (hst : ∀ i, i < N → st i = sEnc (w.1 69 (A + 1 + i)) (w.1 69 (A + 61 + i))) (hk : ∀ i, i < N → mTk (w.1 69 (A + 1 + i)) (w.1 69 (A + 61 + i))) (hwf : sWf st N) {a b c : Int32} : ∀ n i : Nat, ∀ w2 : jWd, i + n = N → jq w w2 → w2.1 81 0 = a → w2.1 81 1 = b → w2.1 81 2 = c → gOK (w2.1 82) (sRun st a b c i) → J0 G (jM0 G 2 RX7 cX7_works 5 (some .int) (fun r w3 => r = some (.int ((sRun st a b c N).headD 0)) ∧ jq w w3)) w2 4 [some (.ref 68), some (.int (nI A)), some (.int (nI (sRun st a b c i).length)), some (.int (nI i)), none] [] := by
  intro n
  induction n with
  | zero =>
    intro i w2 hi hq fa fb fc hg
    have h69 : w2.1 69 = w.1 69 := hq.1 69 (by rw [ly_69]; exact (by decide : (0 : Nat) ≠ 5))
    obtain rfl : i = N := by omega
    have hv : w2.1 82 0 = (sRun st a b c i).headD 0 := by
      obtain ⟨hlen, -⟩ := sRun_len hwf a b c i (Nat.le_refl _)
      rw [hwf.2 h0N] at hlen
      cases hS : sRun st a b c i with
      | nil => rw [hS] at hlen; simp at hlen
      | cons x r =>
        rw [hS] at hlen hg
        have e2 : r = [] := List.length_eq_zero_iff.mp (by simpa using hlen)
        subst e2
        exact gOK_top hg
    refine J0_iload_n (pc' := 5) dX7_works_4 rfl rfl ?_
    refine J0_aload_n (pc' := 6) dX7_works_5 rfl rfl ?_
    refine J0_getR (pc' := 9) dX7_works_6 fl_7_9 (ly_68) (l84_68) rfl rfl ?_
    refine J0_iload_n (pc' := 10) dX7_works_9 rfl rfl ?_
    refine J0_iald A (pc' := 11) dX7_works_10 (ly_69) (l84_69) rfl (by omega) (by decide) rfl ?_
    refine J0_icmp_ge 155 (pc' := 14) dX7_works_11 (by decide) rfl (fun h_11 => ?_) (fun h_11 => absurd (by rw [h69, hc]; exact nI_le (by omega) (by omega)) h_11)
    refine J0_aload_n (pc' := 156) dX7_works_155 rfl rfl ?_
    refine J0_getR (pc' := 159) dX7_works_156 fl_7_50 (ly_68) (l84_68) rfl rfl ?_
    refine J0_iconst (v := 0) (pc' := 160) dX7_works_159 (by decide) rfl ?_
    refine J0_iald5 0 (pc' := 161) dX7_works_160 (ly_82) (l84_82) nIc_0 (by decide) (by decide) rfl ?_
    rw [hv]
    exact J0_iret dX7_works_161  ⟨rfl, hq⟩
  | succ n ih =>
    intro i w2 hi hq fa fb fc hg
    have h69 : w2.1 69 = w.1 69 := hq.1 69 (by rw [ly_69]; exact (by decide : (0 : Nat) ≠ 5))
    have hiN : i < N := by omega
    obtain ⟨hlen, hdl⟩ := sRun_len hwf a b c i (by omega)
    have hs := hst i hiN
    have hw := hwf.1 i hiN
    rcases hk i hiN with ⟨ea, hv⟩ | ⟨ea, hv⟩ | ea | ea
    · have hsi : st i = w.1 69 (A + 61 + i) := hs.trans (if_pos ea)
      have eS := sRun_num (a := a) (b := b) (c := c) (show 0 ≤ st i by rw [hsi]; exact hv)
      have hl59 : (sRun st a b c i).length ≤ 59 := by omega
      rw [hsi] at eS
      refine J0_iload_n (pc' := 5) dX7_works_4 rfl rfl ?_
      refine J0_aload_n (pc' := 6) dX7_works_5 rfl rfl ?_
      refine J0_getR (pc' := 9) dX7_works_6 fl_7_9 (ly_68) (l84_68) rfl rfl ?_
      refine J0_iload_n (pc' := 10) dX7_works_9 rfl rfl ?_
      refine J0_iald A (pc' := 11) dX7_works_10 (ly_69) (l84_69) rfl (by omega) (by decide) rfl ?_
      refine J0_icmp_ge 155 (pc' := 14) dX7_works_11 (by decide) rfl (fun h_11 => absurd h_11 (by rw [h69, hc]; exact nI_ge (by omega) (by omega))) (fun h_11 => ?_)
      refine J0_aload_n (pc' := 15) dX7_works_14 rfl rfl ?_
      refine J0_getR (pc' := 18) dX7_works_15 fl_7_9 (ly_68) (l84_68) rfl rfl ?_
      refine J0_iload_n (pc' := 19) dX7_works_18 rfl rfl ?_
      refine J0_iconst (v := 1) (pc' := 20) dX7_works_19 (by decide) rfl ?_
      refine J0_iadd (pc' := 21) dX7_works_20 rfl ?_
      refine J0_iload_n (pc' := 22) dX7_works_21 rfl rfl ?_
      refine J0_iadd (pc' := 23) dX7_works_22 rfl ?_
      refine J0_iald (A + 1 + i) (pc' := 24) dX7_works_23 (ly_69) (l84_69) (jadd (jadd rfl nIc_1) rfl) (by omega) (by decide) rfl ?_
      rw [h69, ea]
      refine J0_istore (pc' := 26) dX7_works_24 (Nat.le_of_ble_eq_true rfl) (jst4 rfl rfl) rfl ?_
      refine J0_iload (pc' := 28) dX7_works_26 rfl rfl ?_
      refine J0_iconst (v := 1) (pc' := 29) dX7_works_28 (by decide) rfl ?_
      refine J0_icmp_eq 38 (pc' := 32) dX7_works_29 (by decide) rfl (fun h_29 => ?_) (fun h_29 => absurd rfl h_29)
      refine J0_aload_n (pc' := 39) dX7_works_38 rfl rfl ?_
      refine J0_getR (pc' := 42) dX7_works_39 fl_7_50 (ly_68) (l84_68) rfl rfl ?_
      refine J0_iload_n (pc' := 43) dX7_works_42 rfl rfl ?_
      refine J0_iload (pc' := 45) dX7_works_43 rfl rfl ?_
      refine J0_iconst (v := 1) (pc' := 46) dX7_works_45 (by decide) rfl ?_
      refine J0_icmp_ne 63 (pc' := 49) dX7_works_46 (by decide) rfl (fun h_46 => absurd rfl h_46) (fun h_46 => ?_)
      refine J0_aload_n (pc' := 50) dX7_works_49 rfl rfl ?_
      refine J0_getR (pc' := 53) dX7_works_50 fl_7_9 (ly_68) (l84_68) rfl rfl ?_
      refine J0_iload_n (pc' := 54) dX7_works_53 rfl rfl ?_
      refine J0_bipush (v := 61) (pc' := 56) dX7_works_54 (by decide) rfl ?_
      refine J0_iadd (pc' := 57) dX7_works_56 rfl ?_
      refine J0_iload_n (pc' := 58) dX7_works_57 rfl rfl ?_
      refine J0_iadd (pc' := 59) dX7_works_58 rfl ?_
      refine J0_iald (A + 61 + i) (pc' := 60) dX7_works_59 (ly_69) (l84_69) (jadd (jadd rfl (show (61 : Int32) = nI 61 by decide)) rfl) (by omega) (by decide) rfl ?_
      rw [h69]
      refine J0_goto (pc' := 0) 79 dX7_works_60 (by decide) ?_
      refine J0_iast5 ((sRun st a b c i).length) (pc' := 80) dX7_works_79 (ly_82) (l84_82) rfl (by omega) (by decide) rfl ?_
      refine J0_iinc (pc' := 83) dX7_works_80 rfl (Nat.le_of_ble_eq_true rfl) (jst2 rfl rfl) rfl ?_
      refine J0_goto (pc' := 0) 149 dX7_works_83 (by decide) ?_
      refine J0_iinc (pc' := 152) dX7_works_149 rfl (Nat.le_of_ble_eq_true rfl) (jst3 rfl rfl) rfl ?_
      refine J0_goto (pc' := 0) 4 dX7_works_152 (by decide) ?_
      have h2 := ih (i + 1) _ (by omega) (jq_scr (a := 82) (k := (sRun st a b c i).length) (v := w.1 69 (A + 61 + i)) hq (by rw [ly_82])) fa fb fc (by rw [eS, jset_at]; exact gOK_push _ hg)
      rw [eS, ← z1, List.length_cons, ← z1] at h2
      exact J0_mask [true, true, true, true, false] h2
    · have hsi : st i = -1 - w.1 69 (A + 61 + i) := hs.trans ((if_neg (by rw [ea]; decide)).trans (if_pos ea))
      have hl59 : (sRun st a b c i).length ≤ 59 := by omega
      obtain ⟨j, hj, ej, eS⟩ : ∃ j, j < 3 ∧ w.1 69 (A + 61 + i) = nI j ∧ sRun st a b c (i + 1) = w2.1 81 j :: sRun st a b c i := by
        rcases hv with e | e | e
        · exact ⟨0, by omega, e.trans nIc_0, by rw [fa]; exact sRun_a (by rw [hsi, e]; decide)⟩
        · exact ⟨1, by omega, e.trans nIc_1, by rw [fb]; exact sRun_b (by rw [hsi, e]; decide)⟩
        · exact ⟨2, by omega, e.trans nIc_2, by rw [fc]; exact sRun_c (by rw [hsi, e]; decide)⟩
      refine J0_iload_n (pc' := 5) dX7_works_4 rfl rfl ?_
      refine J0_aload_n (pc' := 6) dX7_works_5 rfl rfl ?_
      refine J0_getR (pc' := 9) dX7_works_6 fl_7_9 (ly_68) (l84_68) rfl rfl ?_
      refine J0_iload_n (pc' := 10) dX7_works_9 rfl rfl ?_
      refine J0_iald A (pc' := 11) dX7_works_10 (ly_69) (l84_69) rfl (by omega) (by decide) rfl ?_
      refine J0_icmp_ge 155 (pc' := 14) dX7_works_11 (by decide) rfl (fun h_11 => absurd h_11 (by rw [h69, hc]; exact nI_ge (by omega) (by omega))) (fun h_11 => ?_)
      refine J0_aload_n (pc' := 15) dX7_works_14 rfl rfl ?_
      refine J0_getR (pc' := 18) dX7_works_15 fl_7_9 (ly_68) (l84_68) rfl rfl ?_
      refine J0_iload_n (pc' := 19) dX7_works_18 rfl rfl ?_
      refine J0_iconst (v := 1) (pc' := 20) dX7_works_19 (by decide) rfl ?_
      refine J0_iadd (pc' := 21) dX7_works_20 rfl ?_
      refine J0_iload_n (pc' := 22) dX7_works_21 rfl rfl ?_
      refine J0_iadd (pc' := 23) dX7_works_22 rfl ?_
      refine J0_iald (A + 1 + i) (pc' := 24) dX7_works_23 (ly_69) (l84_69) (jadd (jadd rfl nIc_1) rfl) (by omega) (by decide) rfl ?_
      rw [h69, ea]
      refine J0_istore (pc' := 26) dX7_works_24 (Nat.le_of_ble_eq_true rfl) (jst4 rfl rfl) rfl ?_
      refine J0_iload (pc' := 28) dX7_works_26 rfl rfl ?_
      refine J0_iconst (v := 1) (pc' := 29) dX7_works_28 (by decide) rfl ?_
      refine J0_icmp_eq 38 (pc' := 32) dX7_works_29 (by decide) rfl (fun h_29 => absurd h_29 (by decide)) (fun h_29 => ?_)
      refine J0_iload (pc' := 34) dX7_works_32 rfl rfl ?_
      refine J0_iconst (v := 2) (pc' := 35) dX7_works_34 (by decide) rfl ?_
      refine J0_icmp_ne 86 (pc' := 38) dX7_works_35 (by decide) rfl (fun h_35 => absurd rfl h_35) (fun h_35 => ?_)
      refine J0_aload_n (pc' := 39) dX7_works_38 rfl rfl ?_
      refine J0_getR (pc' := 42) dX7_works_39 fl_7_50 (ly_68) (l84_68) rfl rfl ?_
      refine J0_iload_n (pc' := 43) dX7_works_42 rfl rfl ?_
      refine J0_iload (pc' := 45) dX7_works_43 rfl rfl ?_
      refine J0_iconst (v := 1) (pc' := 46) dX7_works_45 (by decide) rfl ?_
      refine J0_icmp_ne 63 (pc' := 49) dX7_works_46 (by decide) rfl (fun h_46 => ?_) (fun h_46 => absurd h_46 (by decide))
      refine J0_aload_n (pc' := 64) dX7_works_63 rfl rfl ?_
      refine J0_getR (pc' := 67) dX7_works_64 fl_7_47 (ly_68) (l84_68) rfl rfl ?_
      refine J0_aload_n (pc' := 68) dX7_works_67 rfl rfl ?_
      refine J0_getR (pc' := 71) dX7_works_68 fl_7_9 (ly_68) (l84_68) rfl rfl ?_
      refine J0_iload_n (pc' := 72) dX7_works_71 rfl rfl ?_
      refine J0_bipush (v := 61) (pc' := 74) dX7_works_72 (by decide) rfl ?_
      refine J0_iadd (pc' := 75) dX7_works_74 rfl ?_
      refine J0_iload_n (pc' := 76) dX7_works_75 rfl rfl ?_
      refine J0_iadd (pc' := 77) dX7_works_76 rfl ?_
      refine J0_iald (A + 61 + i) (pc' := 78) dX7_works_77 (ly_69) (l84_69) (jadd (jadd rfl (show (61 : Int32) = nI 61 by decide)) rfl) (by omega) (by decide) rfl ?_
      rw [h69, ej]
      refine J0_iald5 j (pc' := 79) dX7_works_78 (ly_81) (l84_81) rfl (by omega) (by decide) rfl ?_
      refine J0_iast5 ((sRun st a b c i).length) (pc' := 80) dX7_works_79 (ly_82) (l84_82) rfl (by omega) (by decide) rfl ?_
      refine J0_iinc (pc' := 83) dX7_works_80 rfl (Nat.le_of_ble_eq_true rfl) (jst2 rfl rfl) rfl ?_
      refine J0_goto (pc' := 0) 149 dX7_works_83 (by decide) ?_
      refine J0_iinc (pc' := 152) dX7_works_149 rfl (Nat.le_of_ble_eq_true rfl) (jst3 rfl rfl) rfl ?_
      refine J0_goto (pc' := 0) 4 dX7_works_152 (by decide) ?_
      have h2 := ih (i + 1) _ (by omega) (jq_scr (a := 82) (k := (sRun st a b c i).length) (v := w2.1 81 j) hq (by rw [ly_82])) fa fb fc (by rw [eS, jset_at]; exact gOK_push _ hg)
      rw [eS, ← z1, List.length_cons, ← z1] at h2
      exact J0_mask [true, true, true, true, false] h2
    · have hsi : st i = -33 := hs.trans ((if_neg (by rw [ea]; decide)).trans ((if_neg (by rw [ea]; decide)).trans (if_pos ea)))
      have hd : 1 ≤ sDep st i := by
        rcases hw with q | q | q
        · rw [hsi] at q; exact absurd q (by decide)
        · exact q.2
        · omega
      obtain ⟨x, r, hS⟩ : ∃ x r, sRun st a b c i = x :: r := by
        cases h : sRun st a b c i with
        | nil => rw [h] at hlen; simp at hlen; omega
        | cons x r => exact ⟨x, r, rfl⟩
      have hlx : (sRun st a b c i).length = r.length + 1 := by rw [hS]; rfl
      rw [hS] at hg
      have hx : w2.1 82 r.length = x := gOK_top hg
      have eS := sRun_not hsi hS
      have ht : nI (sRun st a b c i).length - 1 = nI r.length := by rw [hlx]; exact jsub rfl nIc_1 (by omega)
      refine J0_iload_n (pc' := 5) dX7_works_4 rfl rfl ?_
      refine J0_aload_n (pc' := 6) dX7_works_5 rfl rfl ?_
      refine J0_getR (pc' := 9) dX7_works_6 fl_7_9 (ly_68) (l84_68) rfl rfl ?_
      refine J0_iload_n (pc' := 10) dX7_works_9 rfl rfl ?_
      refine J0_iald A (pc' := 11) dX7_works_10 (ly_69) (l84_69) rfl (by omega) (by decide) rfl ?_
      refine J0_icmp_ge 155 (pc' := 14) dX7_works_11 (by decide) rfl (fun h_11 => absurd h_11 (by rw [h69, hc]; exact nI_ge (by omega) (by omega))) (fun h_11 => ?_)
      refine J0_aload_n (pc' := 15) dX7_works_14 rfl rfl ?_
      refine J0_getR (pc' := 18) dX7_works_15 fl_7_9 (ly_68) (l84_68) rfl rfl ?_
      refine J0_iload_n (pc' := 19) dX7_works_18 rfl rfl ?_
      refine J0_iconst (v := 1) (pc' := 20) dX7_works_19 (by decide) rfl ?_
      refine J0_iadd (pc' := 21) dX7_works_20 rfl ?_
      refine J0_iload_n (pc' := 22) dX7_works_21 rfl rfl ?_
      refine J0_iadd (pc' := 23) dX7_works_22 rfl ?_
      refine J0_iald (A + 1 + i) (pc' := 24) dX7_works_23 (ly_69) (l84_69) (jadd (jadd rfl nIc_1) rfl) (by omega) (by decide) rfl ?_
      rw [h69, ea]
      refine J0_istore (pc' := 26) dX7_works_24 (Nat.le_of_ble_eq_true rfl) (jst4 rfl rfl) rfl ?_
      refine J0_iload (pc' := 28) dX7_works_26 rfl rfl ?_
      refine J0_iconst (v := 1) (pc' := 29) dX7_works_28 (by decide) rfl ?_
      refine J0_icmp_eq 38 (pc' := 32) dX7_works_29 (by decide) rfl (fun h_29 => absurd h_29 (by decide)) (fun h_29 => ?_)
      refine J0_iload (pc' := 34) dX7_works_32 rfl rfl ?_
      refine J0_iconst (v := 2) (pc' := 35) dX7_works_34 (by decide) rfl ?_
      refine J0_icmp_ne 86 (pc' := 38) dX7_works_35 (by decide) rfl (fun h_35 => ?_) (fun h_35 => absurd h_35 (by decide))
      refine J0_iload (pc' := 88) dX7_works_86 rfl rfl ?_
      refine J0_iconst (v := 3) (pc' := 89) dX7_works_88 (by decide) rfl ?_
      refine J0_icmp_ne 119 (pc' := 92) dX7_works_89 (by decide) rfl (fun h_89 => absurd rfl h_89) (fun h_89 => ?_)
      refine J0_aload_n (pc' := 93) dX7_works_92 rfl rfl ?_
      refine J0_getR (pc' := 96) dX7_works_93 fl_7_50 (ly_68) (l84_68) rfl rfl ?_
      refine J0_iload_n (pc' := 97) dX7_works_96 rfl rfl ?_
      refine J0_iconst (v := 1) (pc' := 98) dX7_works_97 (by decide) rfl ?_
      refine J0_isub (pc' := 99) dX7_works_98 rfl ?_
      refine J0_aload_n (pc' := 100) dX7_works_99 rfl rfl ?_
      refine J0_getR (pc' := 103) dX7_works_100 fl_7_50 (ly_68) (l84_68) rfl rfl ?_
      refine J0_iload_n (pc' := 104) dX7_works_103 rfl rfl ?_
      refine J0_iconst (v := 1) (pc' := 105) dX7_works_104 (by decide) rfl ?_
      refine J0_isub (pc' := 106) dX7_works_105 rfl ?_
      refine J0_iald5 (r.length) (pc' := 107) dX7_works_106 (ly_82) (l84_82) ht (by omega) (by decide) rfl ?_
      refine J0_if_ne 114 (pc' := 110) dX7_works_107 (by decide) rfl (fun h_107 => ?_) (fun h_107 => ?_)
      · refine J0_iconst (v := 0) (pc' := 115) dX7_works_114 (by decide) rfl ?_
        refine J0_iast5 (r.length) (pc' := 116) dX7_works_115 (ly_82) (l84_82) ht (by omega) (by decide) rfl ?_
        refine J0_goto (pc' := 0) 149 dX7_works_116 (by decide) ?_
        refine J0_iinc (pc' := 152) dX7_works_149 rfl (Nat.le_of_ble_eq_true rfl) (jst3 rfl rfl) rfl ?_
        refine J0_goto (pc' := 0) 4 dX7_works_152 (by decide) ?_
        have ez : (0 : Int32) = jb (x = 0) := (jb_f (hx ▸ h_107)).symm
        have h2 := ih (i + 1) _ (by omega) (jq_scr (a := 82) (k := r.length) (v := jb (x = 0)) hq (by rw [ly_82])) fa fb fc (by rw [eS, jset_at]; exact gOK_push _ (gOK_pop hg))
        rw [eS, ← z1, List.length_cons, ← hlx, ← ez] at h2
        exact J0_mask [true, true, true, true, false] h2
      · refine J0_iconst (v := 1) (pc' := 111) dX7_works_110 (by decide) rfl ?_
        refine J0_goto (pc' := 0) 115 dX7_works_111 (by decide) ?_
        refine J0_iast5 (r.length) (pc' := 116) dX7_works_115 (ly_82) (l84_82) ht (by omega) (by decide) rfl ?_
        refine J0_goto (pc' := 0) 149 dX7_works_116 (by decide) ?_
        refine J0_iinc (pc' := 152) dX7_works_149 rfl (Nat.le_of_ble_eq_true rfl) (jst3 rfl rfl) rfl ?_
        refine J0_goto (pc' := 0) 4 dX7_works_152 (by decide) ?_
        have ez : (1 : Int32) = jb (x = 0) := (jb_t (hx ▸ h_107)).symm
        have h2 := ih (i + 1) _ (by omega) (jq_scr (a := 82) (k := r.length) (v := jb (x = 0)) hq (by rw [ly_82])) fa fb fc (by rw [eS, jset_at]; exact gOK_push _ (gOK_pop hg))
        rw [eS, ← z1, List.length_cons, ← hlx, ← ez] at h2
        exact J0_mask [true, true, true, true, false] h2
    · have hne : ¬ w.1 69 (A + 1 + i) = 1 ∧ ¬ w.1 69 (A + 1 + i) = 2 ∧ ¬ w.1 69 (A + 1 + i) = 3 := by rcases sSg_pos ea with e | e | e | e | e | e | e | e | e | e <;> rw [e] <;> decide
      have hsi : st i = -w.1 69 (A + 1 + i) := hs.trans ((if_neg hne.1).trans ((if_neg hne.2.1).trans (if_neg hne.2.2)))
      have hsg : sSign (st i) := by rw [hsi]; exact ea
      have hd : 2 ≤ sDep st i := by
        rcases hw with q | q | q
        · exact absurd q (sSign_lt hsg).1
        · exact absurd q.1 (sSign_lt hsg).2
        · exact q.2
      obtain ⟨z, x, r, hS⟩ : ∃ z x r, sRun st a b c i = z :: x :: r := by
        cases h : sRun st a b c i with
        | nil => rw [h] at hlen; simp at hlen; omega
        | cons z r =>
          cases r with
          | nil => rw [h] at hlen; simp at hlen; omega
          | cons x r => exact ⟨z, x, r, rfl⟩
      have hlx : (sRun st a b c i).length = r.length + 1 + 1 := by rw [hS]; rfl
      rw [hS] at hg
      have hz : w2.1 82 (r.length + 1) = z := gOK_top hg
      have hx : w2.1 82 r.length = x := gOK_top (gOK_pop hg)
      have eS := sRun_two hsg hS
      rw [hsi, show - -w.1 69 (A + 1 + i) = w.1 69 (A + 1 + i) from Int32.neg_neg] at eS
      have ht : nI (sRun st a b c i).length + Int32.ofInt (-1) = nI (r.length + 1) := by
        rw [hlx]
        show nI (r.length + 1 + 1) + -1 = nI (r.length + 1)
        rw [← Int32.sub_eq_add_neg]
        exact jsub (a := r.length + 1 + 1) (b := 1) rfl nIc_1 (by omega)
      have ht2 : nI (r.length + 1) - 1 = nI r.length := jsub rfl nIc_1 (by omega)
      refine J0_iload_n (pc' := 5) dX7_works_4 rfl rfl ?_
      refine J0_aload_n (pc' := 6) dX7_works_5 rfl rfl ?_
      refine J0_getR (pc' := 9) dX7_works_6 fl_7_9 (ly_68) (l84_68) rfl rfl ?_
      refine J0_iload_n (pc' := 10) dX7_works_9 rfl rfl ?_
      refine J0_iald A (pc' := 11) dX7_works_10 (ly_69) (l84_69) rfl (by omega) (by decide) rfl ?_
      refine J0_icmp_ge 155 (pc' := 14) dX7_works_11 (by decide) rfl (fun h_11 => absurd h_11 (by rw [h69, hc]; exact nI_ge (by omega) (by omega))) (fun h_11 => ?_)
      refine J0_aload_n (pc' := 15) dX7_works_14 rfl rfl ?_
      refine J0_getR (pc' := 18) dX7_works_15 fl_7_9 (ly_68) (l84_68) rfl rfl ?_
      refine J0_iload_n (pc' := 19) dX7_works_18 rfl rfl ?_
      refine J0_iconst (v := 1) (pc' := 20) dX7_works_19 (by decide) rfl ?_
      refine J0_iadd (pc' := 21) dX7_works_20 rfl ?_
      refine J0_iload_n (pc' := 22) dX7_works_21 rfl rfl ?_
      refine J0_iadd (pc' := 23) dX7_works_22 rfl ?_
      refine J0_iald (A + 1 + i) (pc' := 24) dX7_works_23 (ly_69) (l84_69) (jadd (jadd rfl nIc_1) rfl) (by omega) (by decide) rfl ?_
      rw [h69]
      refine J0_istore (pc' := 26) dX7_works_24 (Nat.le_of_ble_eq_true rfl) (jst4 rfl rfl) rfl ?_
      refine J0_iload (pc' := 28) dX7_works_26 rfl rfl ?_
      refine J0_iconst (v := 1) (pc' := 29) dX7_works_28 (by decide) rfl ?_
      refine J0_icmp_eq 38 (pc' := 32) dX7_works_29 (by decide) rfl (fun h_29 => absurd h_29 hne.1) (fun h_29 => ?_)
      refine J0_iload (pc' := 34) dX7_works_32 rfl rfl ?_
      refine J0_iconst (v := 2) (pc' := 35) dX7_works_34 (by decide) rfl ?_
      refine J0_icmp_ne 86 (pc' := 38) dX7_works_35 (by decide) rfl (fun h_35 => ?_) (fun h_35 => absurd h_35 hne.2.1)
      refine J0_iload (pc' := 88) dX7_works_86 rfl rfl ?_
      refine J0_iconst (v := 3) (pc' := 89) dX7_works_88 (by decide) rfl ?_
      refine J0_icmp_ne 119 (pc' := 92) dX7_works_89 (by decide) rfl (fun h_89 => ?_) (fun h_89 => absurd h_89 hne.2.2)
      refine J0_iinc (pc' := 122) dX7_works_119 rfl (Nat.le_of_ble_eq_true rfl) (jst2 rfl rfl) rfl ?_
      rw [ht]
      refine J0_aload_n (pc' := 123) dX7_works_122 rfl rfl ?_
      refine J0_getR (pc' := 126) dX7_works_123 fl_7_50 (ly_68) (l84_68) rfl rfl ?_
      refine J0_iload_n (pc' := 127) dX7_works_126 rfl rfl ?_
      refine J0_iconst (v := 1) (pc' := 128) dX7_works_127 (by decide) rfl ?_
      refine J0_isub (pc' := 129) dX7_works_128 rfl ?_
      refine J0_iload (pc' := 131) dX7_works_129 rfl rfl ?_
      refine J0_aload_n (pc' := 132) dX7_works_131 rfl rfl ?_
      refine J0_getR (pc' := 135) dX7_works_132 fl_7_50 (ly_68) (l84_68) rfl rfl ?_
      refine J0_iload_n (pc' := 136) dX7_works_135 rfl rfl ?_
      refine J0_iconst (v := 1) (pc' := 137) dX7_works_136 (by decide) rfl ?_
      refine J0_isub (pc' := 138) dX7_works_137 rfl ?_
      refine J0_iald5 (r.length) (pc' := 139) dX7_works_138 (ly_82) (l84_82) ht2 (by omega) (by decide) rfl ?_
      refine J0_aload_n (pc' := 140) dX7_works_139 rfl rfl ?_
      refine J0_getR (pc' := 143) dX7_works_140 fl_7_50 (ly_68) (l84_68) rfl rfl ?_
      refine J0_iload_n (pc' := 144) dX7_works_143 rfl rfl ?_
      refine J0_iald5 (r.length + 1) (pc' := 145) dX7_works_144 (ly_82) (l84_82) rfl (by omega) (by decide) rfl ?_
      refine J0_S3v (pc' := 148) dX7_works_145 lk_7_195 cd_X7_twoOf (kf_two ea) (jroom_of rfl) (Nat.le_of_ble_eq_true rfl) rfl ?_
      refine J0_iast5 (r.length) (pc' := 149) dX7_works_148 (ly_82) (l84_82) ht2 (by omega) (by decide) rfl ?_
      refine J0_iinc (pc' := 152) dX7_works_149 rfl (Nat.le_of_ble_eq_true rfl) (jst3 rfl rfl) rfl ?_
      refine J0_goto (pc' := 0) 4 dX7_works_152 (by decide) ?_
      rw [hx, hz]
      have h2 := ih (i + 1) _ (by omega) (jq_scr (a := 82) (k := r.length) (v := sJoin (w.1 69 (A + 1 + i)) x z) hq (by rw [ly_82])) fa fb fc (by rw [eS, jset_at]; exact gOK_push _ (gOK_pop (gOK_pop hg)))
      rw [eS, ← z1, List.length_cons] at h2
      exact J0_mask [true, true, true, true, false] h2
set_option maxHeartbeats 4000000 in
set_option maxRecDepth 100000 in
theorem kf_works {G : jG} {w : jWd} {A N : Nat} (hA : A ≤ 261) (hN : N ≤ 60) (h0N : 0 < N) (hc : w.1 69 A = nI N) {st : Nat → Int32} (hst : ∀ i, i < N → st i = sEnc (w.1 69 (A + 1 + i)) (w.1 69 (A + 61 + i))) (hk : ∀ i, i < N → mTk (w.1 69 (A + 1 + i)) (w.1 69 (A + 61 + i))) (hwf : sWf st N) {a b c : Int32} (fa : w.1 81 0 = a) (fb : w.1 81 1 = b) (fc : w.1 81 2 = c) : jK0 G 2 yX7_works cX7_works 5 (some .int) [.ref 68, .int (nI A)] w (fun r w3 => r = some (.int ((sRun st a b c N).headD 0)) ∧ jq w w3) := by
  refine jK0_of (own := RX7) [some (.ref 68), some (.int (nI A)), none, none, none] pn7 rfl (Nat.le_of_ble_eq_true rfl) rfl ?_
  refine J0_iconst (v := 0) (pc' := 1) dX7_works_0 (by decide) rfl ?_
  refine J0_istore_n (pc' := 2) dX7_works_1 (Nat.le_of_ble_eq_true rfl) (jst2 rfl rfl) rfl ?_
  refine J0_iconst (v := 0) (pc' := 3) dX7_works_2 (by decide) rfl ?_
  refine J0_istore_n (pc' := 4) dX7_works_3 (Nat.le_of_ble_eq_true rfl) (jst3 rfl rfl) rfl ?_
  exact l_works hA hN h0N hc hst hk hwf N 0 w (by omega) (jq.rf w) fa fb fc (fun j hj => absurd hj (Nat.not_lt_zero j))
