/-! ===== voices ===== -/
def vOk (z : vS) : Prop := ∃ t, t ≤ 30 ∧ z.2.1 = nI t
theorem vTr_ok {b : Int32} {z : vS} (h : vOk z) : vOk (vTr b z) := by
  obtain ⟨t, h1, h2⟩ := h
  unfold vTr
  by_cases hc : z.2.1 < 30
  · rw [if_pos hc]
    rw [h2, show (30 : Int32) = nI 30 from by decide, nI_ltI (by omega) (by omega)] at hc
    exact ⟨t + 1, by omega, by show z.2.1 + 1 = _; rw [h2, nIc_1, nI_add]⟩
  · rw [if_neg hc]
    exact ⟨t, h1, h2⟩
theorem vWk_ok {sp : Int32 → Int32 → Int32 → vS → Int32 × vS} (hs : ∀ u v x z, vOk z → vOk (sp u v x z).2) {kd k m b x : Int32} {z : vS} (h : vOk z) : vOk (vWk sp kd k m b x z).2 := by
  have h1 := vTr_ok (b := b) h
  unfold vWk vW2
  by_cases e10 : b = 10
  · rw [if_pos e10]
    exact h1
  rw [if_neg e10]
  by_cases e11 : b = 11
  · rw [if_pos e11]
    exact hs _ _ _ _ h1
  rw [if_neg e11]
  by_cases e12 : b = 12
  · rw [if_pos e12]
    exact hs _ _ _ _ h1
  rw [if_neg e12]
  by_cases e13 : b = 13
  · rw [if_pos e13]
    by_cases e0 : m - k = 0
    · rw [if_pos e0]; exact h1
    · rw [if_neg e0]; exact h1
  rw [if_neg e13]
  by_cases e20 : b = 20
  · rw [if_pos e20]
    exact hs _ _ _ _ h1
  rw [if_neg e20]
  by_cases e21 : b = 21
  · rw [if_pos e21]
    exact hs _ _ _ _ (hs _ _ _ _ h1)
  rw [if_neg e21]
  by_cases e30 : b = 30
  · rw [if_pos e30]
    exact hs _ _ _ _ h1
  rw [if_neg e30]
  by_cases e40 : b = 40
  · rw [if_pos e40]
    exact hs _ _ _ _ h1
  rw [if_neg e40]
  by_cases e50 : b = 50
  · rw [if_pos e50]
    exact hs _ _ _ _ h1
  rw [if_neg e50]
  by_cases e51 : b = 51
  · rw [if_pos e51]
    exact hs _ _ _ _ h1
  rw [if_neg e51]
  by_cases e60 : b = 60
  · rw [if_pos e60]
    exact hs _ _ _ _ h1
  rw [if_neg e60]
  by_cases e70 : b = 70
  · rw [if_pos e70]
    exact h1
  rw [if_neg e70]
  by_cases e71 : b = 71
  · rw [if_pos e71]
    exact hs _ _ _ _ h1
  rw [if_neg e71]
  exact h1
theorem vSp_ok {B : Nat → Int32} {kd k m : Int32} : ∀ (n : Nat) (u v x : Int32) (z : vS), vOk z → vOk (vSp B kd k m n u v x z).2
  | 0, _, _, _, _, h => h
  | n + 1, u, v, x, z, h => by
    rw [vSp]
    split
    · exact vWk_ok (fun u v x z h => vSp_ok n u v x z h) h
    · exact h
/-- the world with the voices' state put in -/
def vPut (w : jWd) (z : vS) : jWd := (fun c => if c = 58 then z.1 else if c = 57 then (fun j => if j = 1 then z.2.1 else if j = 5 then z.2.2 else w.1 57 j) else w.1 c, w.2)
theorem vPut_id (w : jWd) : vPut w (w.1 58, w.1 57 1, w.1 57 5) = w := by
  unfold vPut
  refine Prod.ext (funext fun c => ?_) rfl
  show (if c = 58 then w.1 58 else if c = 57 then (fun j => if j = 1 then w.1 57 1 else if j = 5 then w.1 57 5 else w.1 57 j) else w.1 c) = w.1 c
  split
  · rename_i e; rw [e]
  · split
    · rename_i e
      rw [e]
      funext j
      split
      · rename_i e2; rw [e2]
      · split
        · rename_i e2; rw [e2]
        · rfl
    · rfl
theorem vPut_tr {w : jWd} {z : vS} {t : Nat} {b : Int32} (h : t ≤ 30) (ht : z.2.1 = nI t) (hc : ¬ 30 ≤ z.2.1) : jset (jset (vPut w z) 58 t b) 57 1 (z.2.1 + 1) = vPut w (vTr b z) := by
  unfold vTr
  rw [if_pos (Int32.not_le.mp hc)]
  refine Prod.ext (funext fun c => funext fun j => ?_) rfl
  by_cases e : c = 57
  · subst e
    by_cases e1 : j = 1
    · subst e1; simp [vPut, jset, jsetA, upd]
    · simp [vPut, jset, jsetA, upd, e1]
  · by_cases e8 : c = 58
    · subst e8
      by_cases e1 : j = t
      · subst e1
        rw [ht]
        simp [vPut, jset, jsetA, upd, nn_nI (show j < 2 ^ 31 by omega)]
      · rw [ht]
        simp [vPut, jset, jsetA, upd, e1, nn_nI (show t < 2 ^ 31 by omega)]
    · simp [vPut, jset, jsetA, upd, e, e8]
theorem vPut_pt {w : jWd} {z : vS} {t : Int32} : jset (vPut w z) 57 5 t = vPut w (z.1, z.2.1, t) := by
  refine Prod.ext (funext fun c => funext fun j => ?_) rfl
  by_cases e : c = 57
  · subst e
    by_cases e1 : j = 5
    · subst e1; simp [vPut, jset, jsetA, upd]
    · simp [vPut, jset, jsetA, upd, e1]
  · simp [vPut, jset, jsetA, upd, e]
def vB (j : Nat) : Int32 := jBodL.getD j 0
abbrev vSq (w : jWd) (n : Nat) (u v x : Int32) (z : vS) : Int32 × vS := vSp vB (w.1 57 2) (w.1 57 3) (w.1 57 4) n u v x z
def vSC (G : jG) (w : jWd) (n : Nat) (dp : Int32) : Prop := ∀ (u v x : Int32) (z : vS), vOk z → jKd G (2 * n + 1) yX5_spoken cX5_spoken 6 (some .int) [.ref 57, .int u, .int v, .int x, .int dp] (vPut w z) (some (.int (vSq w n u v x z).1)) (vPut w (vSq w n u v x z).2)
set_option maxHeartbeats 4000000 in
set_option maxRecDepth 100000 in
theorem wk_tail {G : jG} {w : jWd} {n : Nat} {dp : Int32} (ih : vSC G w n dp) {b x : Int32} {z : vS} (hz : vOk z) {Q : Option Value → jWd → Prop} (hQ : Q (some (.int (vW2 (vSq w n) (w.1 57 2) (w.1 57 3) (w.1 57 4) b x z).1)) (vPut w (vW2 (vSq w n) (w.1 57 2) (w.1 57 3) (w.1 57 4) b x z).2)) : J G (jM G (2 * n + 2) RX5 cX5_worked 4 (some .int) (Q)) (vPut w z) 29 [some (.ref 57), some (.int b), some (.int x), some (.int dp)] [] := by
  refine J_iload_n (pc' := 30) dX5_worked_29 rfl rfl ?_
  by_cases e30_10 : b = 10
  · refine J_look (pc' := 0) (off := 114) 144 dX5_worked_30 (by decide) (by rw [e30_10]; decide) (by decide) ?_
    refine J_iload_n (pc' := 145) dX5_worked_144 rfl rfl ?_
    refine J_aload_n (pc' := 146) dX5_worked_145 rfl rfl ?_
    refine J_getI (pc' := 149) dX5_worked_146 fl_5_15 (ly_57) (l84_57) rfl rfl ?_
    refine J_iadd (pc' := 150) dX5_worked_149 rfl ?_
    have h := hQ
    unfold vW2 at h
    rw [if_pos e30_10] at h
    exact J_iret dX5_worked_150  h
  by_cases e30_11 : b = 11
  · refine J_look (pc' := 0) (off := 121) 151 dX5_worked_30 (by decide) (by rw [e30_11]; decide) (by decide) ?_
    refine J_aload_n (pc' := 152) dX5_worked_151 rfl rfl ?_
    refine J_aload_n (pc' := 153) dX5_worked_152 rfl rfl ?_
    refine J_getI (pc' := 156) dX5_worked_153 fl_5_22 (ly_57) (l84_57) rfl rfl ?_
    refine J_iconst (v := 0) (pc' := 157) dX5_worked_156 (by decide) rfl ?_
    refine J_iload_n (pc' := 158) dX5_worked_157 rfl rfl ?_
    refine J_iload_n (pc' := 159) dX5_worked_158 rfl rfl ?_
    refine J_V4v (pc' := 162) dX5_worked_159 lk_5_32 cd_X5_spoken (ih _ _ _ _ hz) (ly_57) (l84_57) rfl rfl ⟨⟨by show (2 * n + 1) + 1 ≤ (2 * n + 2); omega, by show 8 + (6 + 11) + 40 * (2 * n + 1) ≤ 40 * (2 * n + 2); omega⟩, Nat.le_refl _, Nat.le_refl _⟩ (Nat.le_of_ble_eq_true rfl) rfl ?_
    refine J_iconst (v := 2) (pc' := 163) dX5_worked_162 (by decide) rfl ?_
    refine J_imul (pc' := 164) dX5_worked_163 rfl ?_
    have h := hQ
    unfold vW2 at h
    rw [if_neg e30_10, if_pos e30_11] at h
    exact J_iret dX5_worked_164  h
  by_cases e30_12 : b = 12
  · refine J_look (pc' := 0) (off := 135) 165 dX5_worked_30 (by decide) (by rw [e30_12]; decide) (by decide) ?_
    refine J_aload_n (pc' := 166) dX5_worked_165 rfl rfl ?_
    refine J_aload_n (pc' := 167) dX5_worked_166 rfl rfl ?_
    refine J_getI (pc' := 170) dX5_worked_167 fl_5_22 (ly_57) (l84_57) rfl rfl ?_
    refine J_iconst (v := 1) (pc' := 171) dX5_worked_170 (by decide) rfl ?_
    refine J_iload_n (pc' := 172) dX5_worked_171 rfl rfl ?_
    refine J_iload_n (pc' := 173) dX5_worked_172 rfl rfl ?_
    refine J_V4v (pc' := 176) dX5_worked_173 lk_5_32 cd_X5_spoken (ih _ _ _ _ hz) (ly_57) (l84_57) rfl rfl ⟨⟨by show (2 * n + 1) + 1 ≤ (2 * n + 2); omega, by show 8 + (6 + 11) + 40 * (2 * n + 1) ≤ 40 * (2 * n + 2); omega⟩, Nat.le_refl _, Nat.le_refl _⟩ (Nat.le_of_ble_eq_true rfl) rfl ?_
    refine J_aload_n (pc' := 177) dX5_worked_176 rfl rfl ?_
    refine J_getI (pc' := 180) dX5_worked_177 fl_5_19 (ly_57) (l84_57) rfl rfl ?_
    refine J_isub (pc' := 181) dX5_worked_180 rfl ?_
    have h := hQ
    unfold vW2 at h
    rw [if_neg e30_10, if_neg e30_11, if_pos e30_12] at h
    exact J_iret dX5_worked_181  h
  by_cases e30_13 : b = 13
  · refine J_look (pc' := 0) (off := 152) 182 dX5_worked_30 (by decide) (by rw [e30_13]; decide) (by decide) ?_
    refine J_aload_n (pc' := 183) dX5_worked_182 rfl rfl ?_
    refine J_iload_n (pc' := 184) dX5_worked_183 rfl rfl ?_
    refine J_V1v (pc' := 187) dX5_worked_184 lk_5_47 cd_X5_partOfDifference (k_X5_partOfDifference) (ly_57) (l84_57) rfl rfl ⟨⟨by show 0 + 1 ≤ (2 * n + 2); omega, by show 8 + (3 + 11) + 40 * 0 ≤ 40 * (2 * n + 2); omega⟩, Nat.le_refl _, Nat.le_refl _⟩ (Nat.le_of_ble_eq_true rfl) rfl ?_
    have h := hQ
    unfold vW2 at h
    rw [if_neg e30_10, if_neg e30_11, if_neg e30_12, if_pos e30_13] at h
    by_cases e : (vPut w z).1 57 4 - (vPut w z).1 57 3 = 0
    · rw [if_pos (show w.1 57 4 - w.1 57 3 = 0 from e)] at h
      refine J_iret dX5_worked_187  ?_
      rw [if_pos e, if_pos e, vPut_pt]
      exact h
    · rw [if_neg (show ¬ w.1 57 4 - w.1 57 3 = 0 from e)] at h
      refine J_iret dX5_worked_187  ?_
      rw [if_neg e, if_neg e]
      exact h
  by_cases e30_20 : b = 20
  · refine J_look (pc' := 0) (off := 158) 188 dX5_worked_30 (by decide) (by rw [e30_20]; decide) (by decide) ?_
    refine J_aload_n (pc' := 189) dX5_worked_188 rfl rfl ?_
    refine J_iconst (v := 0) (pc' := 190) dX5_worked_189 (by decide) rfl ?_
    refine J_iconst (v := 0) (pc' := 191) dX5_worked_190 (by decide) rfl ?_
    refine J_iload_n (pc' := 192) dX5_worked_191 rfl rfl ?_
    refine J_iload_n (pc' := 193) dX5_worked_192 rfl rfl ?_
    refine J_V4v (pc' := 196) dX5_worked_193 lk_5_32 cd_X5_spoken (ih _ _ _ _ hz) (ly_57) (l84_57) rfl rfl ⟨⟨by show (2 * n + 1) + 1 ≤ (2 * n + 2); omega, by show 8 + (6 + 11) + 40 * (2 * n + 1) ≤ 40 * (2 * n + 2); omega⟩, Nat.le_refl _, Nat.le_refl _⟩ (Nat.le_of_ble_eq_true rfl) rfl ?_
    refine J_iconst (v := 4) (pc' := 197) dX5_worked_196 (by decide) rfl ?_
    refine J_isub (pc' := 198) dX5_worked_197 rfl ?_
    have h := hQ
    unfold vW2 at h
    rw [if_neg e30_10, if_neg e30_11, if_neg e30_12, if_neg e30_13, if_pos e30_20] at h
    exact J_iret dX5_worked_198  h
  by_cases e30_21 : b = 21
  · refine J_look (pc' := 0) (off := 169) 199 dX5_worked_30 (by decide) (by rw [e30_21]; decide) (by decide) ?_
    refine J_aload_n (pc' := 200) dX5_worked_199 rfl rfl ?_
    refine J_iconst (v := 0) (pc' := 201) dX5_worked_200 (by decide) rfl ?_
    refine J_iconst (v := 3) (pc' := 202) dX5_worked_201 (by decide) rfl ?_
    refine J_iload_n (pc' := 203) dX5_worked_202 rfl rfl ?_
    refine J_iload_n (pc' := 204) dX5_worked_203 rfl rfl ?_
    refine J_V4v (pc' := 207) dX5_worked_204 lk_5_32 cd_X5_spoken (ih _ _ _ _ hz) (ly_57) (l84_57) rfl rfl ⟨⟨by show (2 * n + 1) + 1 ≤ (2 * n + 2); omega, by show 8 + (6 + 11) + 40 * (2 * n + 1) ≤ 40 * (2 * n + 2); omega⟩, Nat.le_refl _, Nat.le_refl _⟩ (Nat.le_of_ble_eq_true rfl) rfl ?_
    refine J_aload_n (pc' := 208) dX5_worked_207 rfl rfl ?_
    refine J_aload_n (pc' := 209) dX5_worked_208 rfl rfl ?_
    refine J_getI (pc' := 212) dX5_worked_209 fl_5_22 (ly_57) (l84_57) rfl rfl ?_
    refine J_iconst (v := 1) (pc' := 213) dX5_worked_212 (by decide) rfl ?_
    refine J_iconst (v := 1) (pc' := 214) dX5_worked_213 (by decide) rfl ?_
    refine J_iload_n (pc' := 215) dX5_worked_214 rfl rfl ?_
    refine J_V4v (pc' := 218) dX5_worked_215 lk_5_32 cd_X5_spoken (ih _ _ _ _ (vSp_ok _ _ _ _ _ hz)) (ly_57) (l84_57) rfl rfl ⟨⟨by show (2 * n + 1) + 1 ≤ (2 * n + 2); omega, by show 8 + (6 + 11) + 40 * (2 * n + 1) ≤ 40 * (2 * n + 2); omega⟩, Nat.le_refl _, Nat.le_refl _⟩ (Nat.le_of_ble_eq_true rfl) rfl ?_
    refine J_iadd (pc' := 219) dX5_worked_218 rfl ?_
    have h := hQ
    unfold vW2 at h
    rw [if_neg e30_10, if_neg e30_11, if_neg e30_12, if_neg e30_13, if_neg e30_20, if_pos e30_21] at h
    exact J_iret dX5_worked_219  h
  by_cases e30_30 : b = 30
  · refine J_look (pc' := 0) (off := 190) 220 dX5_worked_30 (by decide) (by rw [e30_30]; decide) (by decide) ?_
    refine J_aload_n (pc' := 221) dX5_worked_220 rfl rfl ?_
    refine J_iconst (v := 0) (pc' := 222) dX5_worked_221 (by decide) rfl ?_
    refine J_iconst (v := 1) (pc' := 223) dX5_worked_222 (by decide) rfl ?_
    refine J_iload_n (pc' := 224) dX5_worked_223 rfl rfl ?_
    refine J_iload_n (pc' := 225) dX5_worked_224 rfl rfl ?_
    refine J_V4v (pc' := 228) dX5_worked_225 lk_5_32 cd_X5_spoken (ih _ _ _ _ hz) (ly_57) (l84_57) rfl rfl ⟨⟨by show (2 * n + 1) + 1 ≤ (2 * n + 2); omega, by show 8 + (6 + 11) + 40 * (2 * n + 1) ≤ 40 * (2 * n + 2); omega⟩, Nat.le_refl _, Nat.le_refl _⟩ (Nat.le_of_ble_eq_true rfl) rfl ?_
    refine J_ineg (pc' := 229) dX5_worked_228 rfl ?_
    have h := hQ
    unfold vW2 at h
    rw [if_neg e30_10, if_neg e30_11, if_neg e30_12, if_neg e30_13, if_neg e30_20, if_neg e30_21, if_pos e30_30] at h
    exact J_iret dX5_worked_229  h
  by_cases e30_40 : b = 40
  · refine J_look (pc' := 0) (off := 200) 230 dX5_worked_30 (by decide) (by rw [e30_40]; decide) (by decide) ?_
    refine J_aload_n (pc' := 231) dX5_worked_230 rfl rfl ?_
    refine J_iconst (v := 0) (pc' := 232) dX5_worked_231 (by decide) rfl ?_
    refine J_iconst (v := 2) (pc' := 233) dX5_worked_232 (by decide) rfl ?_
    refine J_iload_n (pc' := 234) dX5_worked_233 rfl rfl ?_
    refine J_iconst (v := 2) (pc' := 235) dX5_worked_234 (by decide) rfl ?_
    refine J_idiv (pc' := 236) dX5_worked_235 (by decide) rfl ?_
    refine J_iload_n (pc' := 237) dX5_worked_236 rfl rfl ?_
    refine J_V4v (pc' := 240) dX5_worked_237 lk_5_32 cd_X5_spoken (ih _ _ _ _ hz) (ly_57) (l84_57) rfl rfl ⟨⟨by show (2 * n + 1) + 1 ≤ (2 * n + 2); omega, by show 8 + (6 + 11) + 40 * (2 * n + 1) ≤ 40 * (2 * n + 2); omega⟩, Nat.le_refl _, Nat.le_refl _⟩ (Nat.le_of_ble_eq_true rfl) rfl ?_
    have h := hQ
    unfold vW2 at h
    rw [if_neg e30_10, if_neg e30_11, if_neg e30_12, if_neg e30_13, if_neg e30_20, if_neg e30_21, if_neg e30_30, if_pos e30_40] at h
    exact J_iret dX5_worked_240  h
  by_cases e30_50 : b = 50
  · refine J_look (pc' := 0) (off := 211) 241 dX5_worked_30 (by decide) (by rw [e30_50]; decide) (by decide) ?_
    refine J_aload_n (pc' := 242) dX5_worked_241 rfl rfl ?_
    refine J_iconst (v := 1) (pc' := 243) dX5_worked_242 (by decide) rfl ?_
    refine J_iconst (v := 0) (pc' := 244) dX5_worked_243 (by decide) rfl ?_
    refine J_iload_n (pc' := 245) dX5_worked_244 rfl rfl ?_
    refine J_iload_n (pc' := 246) dX5_worked_245 rfl rfl ?_
    refine J_V4v (pc' := 249) dX5_worked_246 lk_5_32 cd_X5_spoken (ih _ _ _ _ hz) (ly_57) (l84_57) rfl rfl ⟨⟨by show (2 * n + 1) + 1 ≤ (2 * n + 2); omega, by show 8 + (6 + 11) + 40 * (2 * n + 1) ≤ 40 * (2 * n + 2); omega⟩, Nat.le_refl _, Nat.le_refl _⟩ (Nat.le_of_ble_eq_true rfl) rfl ?_
    refine J_iconst (v := 3) (pc' := 250) dX5_worked_249 (by decide) rfl ?_
    refine J_imul (pc' := 251) dX5_worked_250 rfl ?_
    have h := hQ
    unfold vW2 at h
    rw [if_neg e30_10, if_neg e30_11, if_neg e30_12, if_neg e30_13, if_neg e30_20, if_neg e30_21, if_neg e30_30, if_neg e30_40, if_pos e30_50] at h
    exact J_iret dX5_worked_251  h
  by_cases e30_51 : b = 51
  · refine J_look (pc' := 0) (off := 222) 252 dX5_worked_30 (by decide) (by rw [e30_51]; decide) (by decide) ?_
    refine J_aload_n (pc' := 253) dX5_worked_252 rfl rfl ?_
    refine J_iconst (v := 1) (pc' := 254) dX5_worked_253 (by decide) rfl ?_
    refine J_iconst (v := 2) (pc' := 255) dX5_worked_254 (by decide) rfl ?_
    refine J_iload_n (pc' := 256) dX5_worked_255 rfl rfl ?_
    refine J_iload_n (pc' := 257) dX5_worked_256 rfl rfl ?_
    refine J_V4v (pc' := 260) dX5_worked_257 lk_5_32 cd_X5_spoken (ih _ _ _ _ hz) (ly_57) (l84_57) rfl rfl ⟨⟨by show (2 * n + 1) + 1 ≤ (2 * n + 2); omega, by show 8 + (6 + 11) + 40 * (2 * n + 1) ≤ 40 * (2 * n + 2); omega⟩, Nat.le_refl _, Nat.le_refl _⟩ (Nat.le_of_ble_eq_true rfl) rfl ?_
    refine J_aload_n (pc' := 261) dX5_worked_260 rfl rfl ?_
    refine J_getI (pc' := 264) dX5_worked_261 fl_5_15 (ly_57) (l84_57) rfl rfl ?_
    refine J_ixor (pc' := 265) dX5_worked_264 rfl ?_
    have h := hQ
    unfold vW2 at h
    rw [if_neg e30_10, if_neg e30_11, if_neg e30_12, if_neg e30_13, if_neg e30_20, if_neg e30_21, if_neg e30_30, if_neg e30_40, if_neg e30_50, if_pos e30_51] at h
    exact J_iret dX5_worked_265  h
  by_cases e30_60 : b = 60
  · refine J_look (pc' := 0) (off := 236) 266 dX5_worked_30 (by decide) (by rw [e30_60]; decide) (by decide) ?_
    refine J_aload_n (pc' := 267) dX5_worked_266 rfl rfl ?_
    refine J_iconst (v := 2) (pc' := 268) dX5_worked_267 (by decide) rfl ?_
    refine J_iconst (v := 1) (pc' := 269) dX5_worked_268 (by decide) rfl ?_
    refine J_iload_n (pc' := 270) dX5_worked_269 rfl rfl ?_
    refine J_iconst (v := 1) (pc' := 271) dX5_worked_270 (by decide) rfl ?_
    refine J_iadd (pc' := 272) dX5_worked_271 rfl ?_
    refine J_iload_n (pc' := 273) dX5_worked_272 rfl rfl ?_
    refine J_V4v (pc' := 276) dX5_worked_273 lk_5_32 cd_X5_spoken (ih _ _ _ _ hz) (ly_57) (l84_57) rfl rfl ⟨⟨by show (2 * n + 1) + 1 ≤ (2 * n + 2); omega, by show 8 + (6 + 11) + 40 * (2 * n + 1) ≤ 40 * (2 * n + 2); omega⟩, Nat.le_refl _, Nat.le_refl _⟩ (Nat.le_of_ble_eq_true rfl) rfl ?_
    have h := hQ
    unfold vW2 at h
    rw [if_neg e30_10, if_neg e30_11, if_neg e30_12, if_neg e30_13, if_neg e30_20, if_neg e30_21, if_neg e30_30, if_neg e30_40, if_neg e30_50, if_neg e30_51, if_pos e30_60] at h
    exact J_iret dX5_worked_276  h
  by_cases e30_70 : b = 70
  · refine J_look (pc' := 0) (off := 247) 277 dX5_worked_30 (by decide) (by rw [e30_70]; decide) (by decide) ?_
    refine J_bipush (v := 9) (pc' := 279) dX5_worked_277 (by decide) rfl ?_
    have h := hQ
    unfold vW2 at h
    rw [if_neg e30_10, if_neg e30_11, if_neg e30_12, if_neg e30_13, if_neg e30_20, if_neg e30_21, if_neg e30_30, if_neg e30_40, if_neg e30_50, if_neg e30_51, if_neg e30_60, if_pos e30_70] at h
    exact J_iret dX5_worked_279  h
  by_cases e30_71 : b = 71
  · refine J_look (pc' := 0) (off := 250) 280 dX5_worked_30 (by decide) (by rw [e30_71]; decide) (by decide) ?_
    refine J_aload_n (pc' := 281) dX5_worked_280 rfl rfl ?_
    refine J_iconst (v := 0) (pc' := 282) dX5_worked_281 (by decide) rfl ?_
    refine J_iconst (v := 1) (pc' := 283) dX5_worked_282 (by decide) rfl ?_
    refine J_iload_n (pc' := 284) dX5_worked_283 rfl rfl ?_
    refine J_iload_n (pc' := 285) dX5_worked_284 rfl rfl ?_
    refine J_V4v (pc' := 288) dX5_worked_285 lk_5_32 cd_X5_spoken (ih _ _ _ _ hz) (ly_57) (l84_57) rfl rfl ⟨⟨by show (2 * n + 1) + 1 ≤ (2 * n + 2); omega, by show 8 + (6 + 11) + 40 * (2 * n + 1) ≤ 40 * (2 * n + 2); omega⟩, Nat.le_refl _, Nat.le_refl _⟩ (Nat.le_of_ble_eq_true rfl) rfl ?_
    refine J_aload_n (pc' := 289) dX5_worked_288 rfl rfl ?_
    refine J_getI (pc' := 292) dX5_worked_289 fl_5_19 (ly_57) (l84_57) rfl rfl ?_
    refine J_iadd (pc' := 293) dX5_worked_292 rfl ?_
    have h := hQ
    unfold vW2 at h
    rw [if_neg e30_10, if_neg e30_11, if_neg e30_12, if_neg e30_13, if_neg e30_20, if_neg e30_21, if_neg e30_30, if_neg e30_40, if_neg e30_50, if_neg e30_51, if_neg e30_60, if_neg e30_70, if_pos e30_71] at h
    exact J_iret dX5_worked_293  h
  refine J_look (pc' := 0) (off := 264) 294 dX5_worked_30 (by decide) (by simp [Op.lookupswitch.offset, zneJ e30_10 (k := 10) (by decide), zneJ e30_11 (k := 11) (by decide), zneJ e30_12 (k := 12) (by decide), zneJ e30_13 (k := 13) (by decide), zneJ e30_20 (k := 20) (by decide), zneJ e30_21 (k := 21) (by decide), zneJ e30_30 (k := 30) (by decide), zneJ e30_40 (k := 40) (by decide), zneJ e30_50 (k := 50) (by decide), zneJ e30_51 (k := 51) (by decide), zneJ e30_60 (k := 60) (by decide), zneJ e30_70 (k := 70) (by decide), zneJ e30_71 (k := 71) (by decide)]) (by decide) ?_
  refine J_iconst (v := 0) (pc' := 295) dX5_worked_294 (by decide) rfl ?_
  have h := hQ
  unfold vW2 at h
  rw [if_neg e30_10, if_neg e30_11, if_neg e30_12, if_neg e30_13, if_neg e30_20, if_neg e30_21, if_neg e30_30, if_neg e30_40, if_neg e30_50, if_neg e30_51, if_neg e30_60, if_neg e30_70, if_neg e30_71] at h
  exact J_iret dX5_worked_295  h
set_option maxHeartbeats 4000000 in
set_option maxRecDepth 100000 in
theorem k_X5_worked {G : jG} {w : jWd} {n : Nat} {dp : Int32} (ih : vSC G w n dp) {b x : Int32} {z : vS} (hz : vOk z) : jKd G (2 * n + 2) yX5_worked cX5_worked 4 (some .int) [.ref 57, .int b, .int x, .int dp] (vPut w z) (some (.int (vWk (vSq w n) (w.1 57 2) (w.1 57 3) (w.1 57 4) b x z).1)) (vPut w (vWk (vSq w n) (w.1 57 2) (w.1 57 3) (w.1 57 4) b x z).2) := by
  obtain ⟨t, ht1, ht2⟩ := id hz
  refine jK_of (own := RX5) [some (.ref 57), some (.int b), some (.int x), some (.int dp)] pn5 rfl (Nat.le_of_ble_eq_true rfl) rfl ?_
  refine J_aload_n (pc' := 1) dX5_worked_0 rfl rfl ?_
  refine J_getI (pc' := 4) dX5_worked_1 fl_5_29 (ly_57) (l84_57) rfl rfl ?_
  refine J_bipush (v := 30) (pc' := 6) dX5_worked_4 (by decide) rfl ?_
  refine J_icmp_ge 29 (pc' := 9) dX5_worked_6 (by decide) rfl (fun h_6 => ?_) (fun h_6 => ?_)
  · have e := wk_tail ih (vTr_ok hz) (b := b) (x := x) (Q := fun r' w' => r' = some (.int (vWk (vSq w n) (w.1 57 2) (w.1 57 3) (w.1 57 4) b x z).1) ∧ w' = vPut w (vWk (vSq w n) (w.1 57 2) (w.1 57 3) (w.1 57 4) b x z).2) ⟨rfl, rfl⟩
    rw [show vTr b z = z from if_neg (Int32.not_lt.mpr h_6)] at e
    exact e
  · refine J_aload_n (pc' := 10) dX5_worked_9 rfl rfl ?_
    refine J_getR (pc' := 13) dX5_worked_10 fl_5_9 (ly_57) (l84_57) rfl rfl ?_
    refine J_aload_n (pc' := 14) dX5_worked_13 rfl rfl ?_
    refine J_getI (pc' := 17) dX5_worked_14 fl_5_29 (ly_57) (l84_57) rfl rfl ?_
    refine J_iload_n (pc' := 18) dX5_worked_17 rfl rfl ?_
    refine J_iast t (pc' := 19) dX5_worked_18 (ly_58) (l84_58) ht2 (by have h6 := h_6; rw [show (vPut w z).1 57 1 = z.2.1 from rfl, ht2, show (30 : Int32) = nI 30 from by decide, nI_leI (by omega) (by omega)] at h6; omega) (by decide) rfl ?_
    refine J_aload_n (pc' := 20) dX5_worked_19 rfl rfl ?_
    refine J_dup (pc' := 21) dX5_worked_20 rfl rfl ?_
    refine J_getI (pc' := 24) dX5_worked_21 fl_5_29 (ly_57) (l84_57) rfl rfl ?_
    refine J_iconst (v := 1) (pc' := 25) dX5_worked_24 (by decide) rfl ?_
    refine J_iadd (pc' := 26) dX5_worked_25 rfl ?_
    refine J_putI (pc' := 29) dX5_worked_26 fp_5_29 (ly_57) (l84_57) rfl rfl ?_
    rw [show (jset (vPut w z) 58 t b).1 57 1 = z.2.1 from rfl, vPut_tr ht1 ht2 h_6]
    exact wk_tail ih (vTr_ok hz) ⟨rfl, rfl⟩
set_option maxHeartbeats 4000000 in
set_option maxRecDepth 100000 in
theorem k_spo0 {G : jG} {w : jWd} {dp : Int32} (hd : dp = nI 21) {u v x : Int32} {z : vS} (hz : vOk z) : jKd G (2 * (0) + 1) yX5_spoken cX5_spoken 6 (some .int) [.ref 57, .int u, .int v, .int x, .int dp] (vPut w z) (some (.int (vSq w (0) u v x z).1)) (vPut w (vSq w (0) u v x z).2) := by
  refine jK_of (own := RX5) [some (.ref 57), some (.int u), some (.int v), some (.int x), some (.int dp), none] pn5 rfl (Nat.le_of_ble_eq_true rfl) rfl ?_
  refine J_iconst (v := 4) (pc' := 1) dX5_spoken_0 (by decide) rfl ?_
  refine J_iload_n (pc' := 2) dX5_spoken_1 rfl rfl ?_
  refine J_imul (pc' := 3) dX5_spoken_2 rfl ?_
  refine J_iload_n (pc' := 4) dX5_spoken_3 rfl rfl ?_
  refine J_iadd (pc' := 5) dX5_spoken_4 rfl ?_
  refine J_istore (pc' := 7) dX5_spoken_5 (Nat.le_of_ble_eq_true rfl) (jst5 rfl rfl) rfl ?_
  refine J_aload_n (pc' := 8) dX5_spoken_7 rfl rfl ?_
  refine J_getI (pc' := 11) dX5_spoken_8 fl_5_25 (ly_57) (l84_57) rfl rfl ?_
  refine J_if_ne 36 (pc' := 14) dX5_spoken_11 (by decide) rfl (fun h_11 => ?_) (fun h_11 => ?_)
  · refine J_iconst (v := 0) (pc' := 37) dX5_spoken_36 (by decide) rfl ?_
    exact J_iret dX5_spoken_37  ⟨rfl, rfl⟩
  · refine J_iload (pc' := 16) dX5_spoken_14 rfl rfl ?_
    refine J_bipush (v := 20) (pc' := 18) dX5_spoken_16 (by decide) rfl ?_
    refine J_icmp_gt 36 (pc' := 21) dX5_spoken_18 (by decide) rfl (fun h_18 => ?_) (fun h_18 => absurd (by rw [hd]; decide) h_18)
    refine J_iconst (v := 0) (pc' := 37) dX5_spoken_36 (by decide) rfl ?_
    exact J_iret dX5_spoken_37  ⟨rfl, rfl⟩
set_option maxHeartbeats 4000000 in
set_option maxRecDepth 100000 in
theorem k_spoS {G : jG} {w : jWd} {n dep : Nat} (hn : n + 1 + dep = 21) {dp : Int32} (hd : dp = nI dep) (ih : vSC G w n (dp + 1)) {u v x : Int32} {z : vS} (hz : vOk z) : jKd G (2 * (n + 1) + 1) yX5_spoken cX5_spoken 6 (some .int) [.ref 57, .int u, .int v, .int x, .int dp] (vPut w z) (some (.int (vSq w (n + 1) u v x z).1)) (vPut w (vSq w (n + 1) u v x z).2) := by
  refine jK_of (own := RX5) [some (.ref 57), some (.int u), some (.int v), some (.int x), some (.int dp), none] pn5 rfl (Nat.le_of_ble_eq_true rfl) rfl ?_
  refine J_iconst (v := 4) (pc' := 1) dX5_spoken_0 (by decide) rfl ?_
  refine J_iload_n (pc' := 2) dX5_spoken_1 rfl rfl ?_
  refine J_imul (pc' := 3) dX5_spoken_2 rfl ?_
  refine J_iload_n (pc' := 4) dX5_spoken_3 rfl rfl ?_
  refine J_iadd (pc' := 5) dX5_spoken_4 rfl ?_
  refine J_istore (pc' := 7) dX5_spoken_5 (Nat.le_of_ble_eq_true rfl) (jst5 rfl rfl) rfl ?_
  refine J_aload_n (pc' := 8) dX5_spoken_7 rfl rfl ?_
  refine J_getI (pc' := 11) dX5_spoken_8 fl_5_25 (ly_57) (l84_57) rfl rfl ?_
  refine J_if_ne 36 (pc' := 14) dX5_spoken_11 (by decide) rfl (fun h_11 => ?_) (fun h_11 => ?_)
  · refine J_iconst (v := 0) (pc' := 37) dX5_spoken_36 (by decide) rfl ?_
    exact J_iret dX5_spoken_37  (by rw [show vSq w (n + 1) u v x z = (0, z) from if_neg (fun q => by first | exact h_11 q.1 | exact (jb_0.mp h_33) (by rw [show (28 : Int32) - 1 = 27 from by decide]; exact q.2))]; exact ⟨rfl, rfl⟩)
  · refine J_iload (pc' := 16) dX5_spoken_14 rfl rfl ?_
    refine J_bipush (v := 20) (pc' := 18) dX5_spoken_16 (by decide) rfl ?_
    refine J_icmp_gt 36 (pc' := 21) dX5_spoken_18 (by decide) rfl (fun h_18 => absurd h_18 (by rw [hd, show (20 : Int32) = nI 20 from by decide, nI_ltI (by omega) (by omega)]; omega)) (fun h_18 => ?_)
    refine J_iload (pc' := 23) dX5_spoken_21 rfl rfl ?_
    refine J_iconst (v := 0) (pc' := 24) dX5_spoken_23 (by decide) rfl ?_
    refine J_gets1 (pc' := 27) dX5_spoken_24 gs_5_36 rfl ?_
    refine J_alen1 (pc' := 28) dX5_spoken_27 rfl ?_
    refine J_iconst (v := 1) (pc' := 29) dX5_spoken_28 (by decide) rfl ?_
    refine J_isub (pc' := 30) dX5_spoken_29 rfl ?_
    refine J_S3v (pc' := 33) dX5_spoken_30 lk_5_39 cd_X6_isWithin (k_X6_isWithin) ⟨⟨by show 0 + 1 ≤ (2 * (n + 1) + 1); omega, by show 8 + (3 + 11) + 40 * 0 ≤ 40 * (2 * (n + 1) + 1); omega⟩, Nat.le_refl _, Nat.le_refl _⟩ (Nat.le_of_ble_eq_true rfl) rfl ?_
    refine J_if_ne 38 (pc' := 36) dX5_spoken_33 (by decide) rfl (fun h_33 => ?_) (fun h_33 => ?_)
    · have hw := jb_n h_33
      rw [nIc_0, show (28 : Int32) - 1 = nI 27 from by decide] at hw
      obtain ⟨j, hj0, hj, ej⟩ := nI_wi (by decide) (by decide) hw
      refine J_aload_n (pc' := 39) dX5_spoken_38 rfl rfl ?_
      refine J_gets1 (pc' := 42) dX5_spoken_39 gs_5_36 rfl ?_
      refine J_iload (pc' := 44) dX5_spoken_42 rfl rfl ?_
      refine J_ald1 j (pc' := 45) dX5_spoken_44 ej (by omega) rfl ?_
      refine J_iload_n (pc' := 46) dX5_spoken_45 rfl rfl ?_
      refine J_iload (pc' := 48) dX5_spoken_46 rfl rfl ?_
      refine J_iconst (v := 1) (pc' := 49) dX5_spoken_48 (by decide) rfl ?_
      refine J_iadd (pc' := 50) dX5_spoken_49 rfl ?_
      refine J_V3v (pc' := 53) dX5_spoken_50 lk_5_43 cd_X5_worked (k_X5_worked ih hz) (ly_57) (l84_57) rfl rfl ⟨⟨by show (2 * n + 2) + 1 ≤ (2 * (n + 1) + 1); omega, by show 8 + (4 + 11) + 40 * (2 * n + 2) ≤ 40 * (2 * (n + 1) + 1); omega⟩, Nat.le_refl _, Nat.le_refl _⟩ (Nat.le_of_ble_eq_true rfl) rfl ?_
      have hC : z.2.2 = 0 ∧ 0 ≤ 4 * u + v ∧ 4 * u + v ≤ 27 := ⟨by first | exact h_11 | exact Decidable.not_not.mp h_11, by have := jb_n h_33; rw [show (28 : Int32) - 1 = 27 from by decide] at this; exact this⟩
      exact J_iret dX5_spoken_53  (by rw [show vSq w (n + 1) u v x z = vWk (vSq w n) (w.1 57 2) (w.1 57 3) (w.1 57 4) (vB (nn (4 * u + v))) x z from if_pos hC, ej, nn_nI (by omega)]; exact ⟨rfl, rfl⟩)
    · refine J_iconst (v := 0) (pc' := 37) dX5_spoken_36 (by decide) rfl ?_
      exact J_iret dX5_spoken_37  (by rw [show vSq w (n + 1) u v x z = (0, z) from if_neg (fun q => by first | exact h_11 q.1 | exact (jb_0.mp h_33) (by rw [show (28 : Int32) - 1 = 27 from by decide]; exact q.2))]; exact ⟨rfl, rfl⟩)
theorem vSpk {G : jG} {w : jWd} : ∀ (n dep : Nat), n + dep = 21 → ∀ dp : Int32, dp = nI dep → vSC G w n dp
  | 0, dep, h, dp, hd => fun u v x z hz => k_spo0 (by rw [hd]; congr 1; omega) hz
  | n + 1, dep, h, dp, hd => fun u v x z hz => k_spoS h hd (vSpk n (dep + 1) (by omega) (dp + 1) (by rw [hd, nIc_1, nI_add])) hz
def vEq (z z' : vS) : Prop := z.2 = z'.2 ∧ ∀ j, j < nn z.2.1 → z.1 j = z'.1 j
theorem vTr_eq {b : Int32} {z z' : vS} (hz : vOk z) (h : vEq z z') : vEq (vTr b z) (vTr b z') := by
  obtain ⟨t, ht, et⟩ := hz
  obtain ⟨r, u, v⟩ := z
  obtain ⟨r', u', v'⟩ := z'
  obtain ⟨h1, h2⟩ := h
  cases h1
  have et : u = nI t := et
  subst et
  have h2 : ∀ j, j < nn (nI t) → r j = r' j := h2
  rw [nn_nI (by omega)] at h2
  unfold vTr
  dsimp only
  by_cases hc : nI t < 30
  · rw [if_pos hc, if_pos hc]
    refine ⟨rfl, fun j hj => ?_⟩
    have hj : j < nn (nI t + 1) := hj
    rw [nI_1, nn_nI (by omega)] at hj
    show (if j = nn (nI t) then b else r j) = (if j = nn (nI t) then b else r' j)
    rw [nn_nI (by omega)]
    by_cases e : j = t
    · rw [if_pos e, if_pos e]
    · rw [if_neg e, if_neg e]; exact h2 j (by omega)
  · rw [if_neg hc, if_neg hc]
    exact ⟨rfl, fun j hj => h2 j (by have hj : j < nn (nI t) := hj; rw [nn_nI (by omega)] at hj; exact hj)⟩
def vEq2 (a a' : Int32 × vS) : Prop := a.1 = a'.1 ∧ vEq a.2 a'.2
theorem vWk_eq {sp : Int32 → Int32 → Int32 → vS → Int32 × vS} (ho : ∀ u v x z, vOk z → vOk (sp u v x z).2) (hs : ∀ u v x z z', vOk z → vEq z z' → vEq2 (sp u v x z) (sp u v x z')) {kd k m b x : Int32} {z z' : vS} (hz : vOk z) (h : vEq z z') : vEq2 (vWk sp kd k m b x z) (vWk sp kd k m b x z') := by
  have h1 := vTr_eq (b := b) hz h
  have z1 := vTr_ok (b := b) hz
  have g := fun u v x => hs u v x _ _ z1 h1
  unfold vWk vW2
  by_cases e10 : b = 10
  · rw [if_pos e10, if_pos e10]
    exact ⟨rfl, h1⟩
  rw [if_neg e10, if_neg e10]
  by_cases e11 : b = 11
  · rw [if_pos e11, if_pos e11]
    exact ⟨by rw [(g _ _ _).1], (g _ _ _).2⟩
  rw [if_neg e11, if_neg e11]
  by_cases e12 : b = 12
  · rw [if_pos e12, if_pos e12]
    exact ⟨by rw [(g _ _ _).1], (g _ _ _).2⟩
  rw [if_neg e12, if_neg e12]
  by_cases e13 : b = 13
  · rw [if_pos e13, if_pos e13]
    by_cases e0 : m - k = 0
    · rw [if_pos e0, if_pos e0]
      exact ⟨rfl, by show (_, _) = (_, _); rw [show (vTr b z).2.1 = (vTr b z').2.1 from by rw [h1.1]], h1.2⟩
    · rw [if_neg e0, if_neg e0]; exact ⟨rfl, h1⟩
  rw [if_neg e13, if_neg e13]
  by_cases e20 : b = 20
  · rw [if_pos e20, if_pos e20]
    exact ⟨by rw [(g _ _ _).1], (g _ _ _).2⟩
  rw [if_neg e20, if_neg e20]
  by_cases e21 : b = 21
  · rw [if_pos e21, if_pos e21]
    have g2 := hs kd 1 1 _ _ (ho 0 3 x _ z1) (g 0 3 x).2
    exact ⟨by rw [(g 0 3 x).1, g2.1], g2.2⟩
  rw [if_neg e21, if_neg e21]
  by_cases e30 : b = 30
  · rw [if_pos e30, if_pos e30]
    exact ⟨by rw [(g _ _ _).1], (g _ _ _).2⟩
  rw [if_neg e30, if_neg e30]
  by_cases e40 : b = 40
  · rw [if_pos e40, if_pos e40]
    exact g _ _ _
  rw [if_neg e40, if_neg e40]
  by_cases e50 : b = 50
  · rw [if_pos e50, if_pos e50]
    exact ⟨by rw [(g _ _ _).1], (g _ _ _).2⟩
  rw [if_neg e50, if_neg e50]
  by_cases e51 : b = 51
  · rw [if_pos e51, if_pos e51]
    exact ⟨by rw [(g _ _ _).1], (g _ _ _).2⟩
  rw [if_neg e51, if_neg e51]
  by_cases e60 : b = 60
  · rw [if_pos e60, if_pos e60]
    exact g _ _ _
  rw [if_neg e60, if_neg e60]
  by_cases e70 : b = 70
  · rw [if_pos e70, if_pos e70]
    exact ⟨rfl, h1⟩
  rw [if_neg e70, if_neg e70]
  by_cases e71 : b = 71
  · rw [if_pos e71, if_pos e71]
    exact ⟨by rw [(g _ _ _).1], (g _ _ _).2⟩
  rw [if_neg e71, if_neg e71]
  exact ⟨rfl, h1⟩
theorem vSp_eq {B : Nat → Int32} {kd k m : Int32} : ∀ (n : Nat) (u v x : Int32) (z z' : vS), vOk z → vEq z z' → vEq2 (vSp B kd k m n u v x z) (vSp B kd k m n u v x z')
  | 0, _, _, _, _, _, _, h => ⟨rfl, h⟩
  | n + 1, u, v, x, z, z', hz, h => by
    rw [vSp, vSp, h.1]
    by_cases hc : z'.2.2 = 0 ∧ 0 ≤ 4 * u + v ∧ 4 * u + v ≤ 27
    · rw [if_pos hc, if_pos hc]
      exact vWk_eq (fun u v x z hz => vSp_ok n u v x z hz) (fun u v x z z' hz h => vSp_eq n u v x z z' hz h) hz h
    · rw [if_neg hc, if_neg hc]
      exact ⟨rfl, h⟩
abbrev vW5 (w : jWd) (k m kd : Int32) : jWd := jset (jset (jset (jset (jset w 57 3 k) 57 4 m) 57 2 kd) 57 5 0) 57 1 0
theorem vSpk_id {G : jG} {w : jWd} {k m kd u v x : Int32} : jKd G 43 yX5_spoken cX5_spoken 6 (some .int) [.ref 57, .int u, .int v, .int x, .int 0] (vW5 w k m kd) (some (.int (vSp vB kd k m 21 u v x (w.1 58, 0, 0)).1)) (vPut (vW5 w k m kd) (vSp vB kd k m 21 u v x (w.1 58, 0, 0)).2) := by
  have h := vSpk (G := G) (w := vW5 w k m kd) 21 0 rfl 0 nIc_0 u v x ((vW5 w k m kd).1 58, (vW5 w k m kd).1 57 1, (vW5 w k m kd).1 57 5) ⟨0, by omega, nIc_0⟩
  rw [vPut_id] at h
  exact h
set_option maxHeartbeats 4000000 in
set_option maxRecDepth 100000 in
theorem k_X5_answerOf {G : jG} {w : jWd} {k m kd u x : Int32} : jKd G 44 yX5_answerOf cX5_answerOf 6 (some .int) [.ref 57, .int k, .int m, .int kd, .int u, .int x] w (some (.int (vSp vB kd k m 21 kd u x (w.1 58, 0, 0)).1)) (vPut (vW5 w k m kd) (vSp vB kd k m 21 kd u x (w.1 58, 0, 0)).2) := by
  refine jK_of (own := RX5) [some (.ref 57), some (.int k), some (.int m), some (.int kd), some (.int u), some (.int x)] pn5 rfl (Nat.le_of_ble_eq_true rfl) rfl ?_
  refine J_aload_n (pc' := 1) dX5_answerOf_0 rfl rfl ?_
  refine J_iload_n (pc' := 2) dX5_answerOf_1 rfl rfl ?_
  refine J_putI (pc' := 5) dX5_answerOf_2 fp_5_15 (ly_57) (l84_57) rfl rfl ?_
  refine J_aload_n (pc' := 6) dX5_answerOf_5 rfl rfl ?_
  refine J_iload_n (pc' := 7) dX5_answerOf_6 rfl rfl ?_
  refine J_putI (pc' := 10) dX5_answerOf_7 fp_5_19 (ly_57) (l84_57) rfl rfl ?_
  refine J_aload_n (pc' := 11) dX5_answerOf_10 rfl rfl ?_
  refine J_iload_n (pc' := 12) dX5_answerOf_11 rfl rfl ?_
  refine J_putI (pc' := 15) dX5_answerOf_12 fp_5_22 (ly_57) (l84_57) rfl rfl ?_
  refine J_aload_n (pc' := 16) dX5_answerOf_15 rfl rfl ?_
  refine J_iconst (v := 0) (pc' := 17) dX5_answerOf_16 (by decide) rfl ?_
  refine J_putZ (pc' := 20) dX5_answerOf_17 fp_5_25 (ly_57) (l84_57) rfl (by decide) rfl ?_
  refine J_aload_n (pc' := 21) dX5_answerOf_20 rfl rfl ?_
  refine J_iconst (v := 0) (pc' := 22) dX5_answerOf_21 (by decide) rfl ?_
  refine J_putI (pc' := 25) dX5_answerOf_22 fp_5_29 (ly_57) (l84_57) rfl rfl ?_
  refine J_aload_n (pc' := 26) dX5_answerOf_25 rfl rfl ?_
  refine J_iload_n (pc' := 27) dX5_answerOf_26 rfl rfl ?_
  refine J_iload (pc' := 29) dX5_answerOf_27 rfl rfl ?_
  refine J_iload (pc' := 31) dX5_answerOf_29 rfl rfl ?_
  refine J_iconst (v := 0) (pc' := 32) dX5_answerOf_31 (by decide) rfl ?_
  refine J_V4v (pc' := 35) dX5_answerOf_32 lk_5_32 cd_X5_spoken (vSpk_id) (ly_57) (l84_57) rfl rfl (jroom_of rfl) (Nat.le_of_ble_eq_true rfl) rfl ?_
  exact J_iret dX5_answerOf_35  ⟨rfl, rfl⟩
