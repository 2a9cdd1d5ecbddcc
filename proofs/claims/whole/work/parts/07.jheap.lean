/-! ===== arrays, fields, statics, copies ===== -/
theorem jCnt_i {G : jG} {w : jWd} {a n : Nat} {z : List (Nat × Nat)} (hL : jly a = (0, n, z)) : jCnt G w a = .inl (jcA G 0, n, .inl (w.1 a)) := by unfold jCnt; rw [hL]; rfl
theorem jCnt_l {G : jG} {w : jWd} {a n : Nat} {z : List (Nat × Nat)} (hL : jly a = (1, n, z)) : jCnt G w a = .inl (jcA G 1, n, .inr (.inl (w.2 a))) := by unfold jCnt; rw [hL]; rfl
theorem jCnt_o {G : jG} {w : jWd} {a c n : Nat} {sl : List (Nat × Nat)} (hL : jly a = (c + 6, n, sl)) : jCnt G w a = .inr (c, jfs G w a 0 sl) := by unfold jCnt; rw [hL]; rfl
theorem jAt {G : jG} {w : jWd} {a : Nat} (ha : a < 84) {e : va_E} (h : jCnt G w a = e) : (jW G w)[a]? = some (jad G a, e) := by rw [jW_get G w ha, h]
theorem jin {i : Int32} {j n : Nat} (hi : i = nI j) (hj : j < n) (hn : n < 2 ^ 31) : vp_in i n ∧ i.toNatClampNeg = j := by
  subst hi
  exact ⟨vp_in_nI hj hn, nI_clamp (by omega)⟩
theorem J0_iald {G : jG} {Γ : jΓ} {w : jWd} {pc pc' : Nat} {ls : List (Option Value)} {st : List Value} {a n : Nat} {z : List (Nat × Nat)} {i : Int32} (j : Nat) (hd : decode (jcc Γ) pc = .ok (.iaload, 1)) (hL : jly a = (0, n, z)) (ha : a < 84) (hi : i = nI j) (hj : j < n) (hn : n < 2 ^ 31) (hp : pc' = pc + 1) (k : J0 G Γ w pc' ls (.int (w.1 a j) :: st)) : J0 G Γ w pc ls (.int i :: .ref a :: st) := by
  subst hp
  obtain ⟨h1, h2⟩ := jin hi hj hn
  intro p e s m args below meth c H locs lsA Hs hC hP hD hS hl
  refine va_iald hC.1 hC.2.1 hC.2.2.2.2.2.2.2.1 hP a 0 (jAt ha (jCnt_i hL)) rfl h1 hd ?_
  rw [h2]
  exact k p e s m args below meth c H locs lsA Hs hC hP hD hS hl
theorem J0_lald {G : jG} {Γ : jΓ} {w : jWd} {pc pc' : Nat} {ls : List (Option Value)} {st : List Value} {a n : Nat} {z : List (Nat × Nat)} {i : Int32} (j : Nat) (hd : decode (jcc Γ) pc = .ok (.laload, 1)) (hL : jly a = (1, n, z)) (ha : a < 84) (hi : i = nI j) (hj : j < n) (hn : n < 2 ^ 31) (hp : pc' = pc + 1) (k : J0 G Γ w pc' ls (.long (w.2 a j) :: st)) : J0 G Γ w pc ls (.int i :: .ref a :: st) := by
  subst hp
  obtain ⟨h1, h2⟩ := jin hi hj hn
  intro p e s m args below meth c H locs lsA Hs hC hP hD hS hl
  refine va_lald hC.1 hC.2.1 hC.2.2.2.2.2.2.2.1 hP a 1 (jAt ha (jCnt_l hL)) rfl h1 hd ?_
  rw [h2]
  exact k p e s m args below meth c H locs lsA Hs hC hP hD hS hl
theorem J0_iast {G : jG} {Γ : jΓ} {w : jWd} {pc pc' : Nat} {ls : List (Option Value)} {st : List Value} {a n : Nat} {z : List (Nat × Nat)} {i x : Int32} (j : Nat) (hd : decode (jcc Γ) pc = .ok (.iastore, 1)) (hL : jly a = (0, n, z)) (ha : a < 84) (hi : i = nI j) (hj : j < n) (hn : n < 2 ^ 31) (hp : pc' = pc + 1) (k : J0 G Γ (jset w a j x) pc' ls st) : J0 G Γ w pc ls (.int x :: .int i :: .ref a :: st) := by
  subst hp
  obtain ⟨h1, h2⟩ := jin hi hj hn
  intro p e s m args below meth c H locs lsA Hs hC hP hD hS hl
  have he : (jW G w).set a (jad G a, .inl (jcA G 0, n, .inl (upd (w.1 a) j x))) = jW G (jset w a j x) :=
    jW_set ha (fun b hb => ⟨by unfold jset; rw [jsetA_1, if_neg hb], rfl⟩) (by rw [jCnt_i hL]; unfold jset; rw [jsetA_1, if_pos rfl])
  refine va_iast hC.1 hC.2.1 hC.2.2.2.2.2.2.2.1 hP hD hS a 0 (jAt ha (jCnt_i hL)) rfl h1 hd (fun H1 locs1 hP1 hD1 hS1 => ?_)
  rw [h2, he] at hP1 hD1
  exact k p e s m args below meth c H1 locs1 lsA Hs hC hP1 hD1 hS1 hl
theorem J0_last {G : jG} {Γ : jΓ} {w : jWd} {pc pc' : Nat} {ls : List (Option Value)} {st : List Value} {a n : Nat} {z : List (Nat × Nat)} {i : Int32} {x : Int64} (j : Nat) (hd : decode (jcc Γ) pc = .ok (.lastore, 1)) (hL : jly a = (1, n, z)) (ha : a < 84) (hi : i = nI j) (hj : j < n) (hn : n < 2 ^ 31) (hp : pc' = pc + 1) (k : J0 G Γ (jsetL w a j x) pc' ls st) : J0 G Γ w pc ls (.long x :: .int i :: .ref a :: st) := by
  subst hp
  obtain ⟨h1, h2⟩ := jin hi hj hn
  intro p e s m args below meth c H locs lsA Hs hC hP hD hS hl
  have he : (jW G w).set a (jad G a, .inl (jcA G 1, n, .inr (.inl (vp_updL (w.2 a) j x)))) = jW G (jsetL w a j x) :=
    jW_set ha (fun b hb => ⟨rfl, by show _ = (if b = a then vp_updL (w.2 a) j x else w.2 b); rw [if_neg hb]⟩) (by rw [jCnt_l hL]; show Sum.inl (_, n, Sum.inr (Sum.inl (if a = a then vp_updL (w.2 a) j x else w.2 a))) = _; rw [if_pos rfl])
  refine va_last hC.1 hC.2.1 hC.2.2.2.2.2.2.2.1 hP hD hS a 1 (jAt ha (jCnt_l hL)) rfl h1 hd (fun H1 locs1 hP1 hD1 hS1 => ?_)
  rw [h2, he] at hP1 hD1
  exact k p e s m args below meth c H1 locs1 lsA Hs hC hP1 hD1 hS1 hl
theorem J0_alen {G : jG} {Γ : jΓ} {w : jWd} {pc pc' : Nat} {ls : List (Option Value)} {st : List Value} {a n : Nat} {z : List (Nat × Nat)} (hd : decode (jcc Γ) pc = .ok (.arraylength, 1)) (hL : jly a = (0, n, z)) (ha : a < 84) (hp : pc' = pc + 1) (k : J0 G Γ w pc' ls (.int (nI n) :: st)) : J0 G Γ w pc ls (.ref a :: st) := by
  subst hp
  intro p e s m args below meth c H locs lsA Hs hC hP hD hS hl
  exact va_alen hC.1 hC.2.1 hC.2.2.2.2.2.2.2.1 hP a 0 (jAt ha (jCnt_i hL)) rfl rfl hd (k p e s m args below meth c H locs lsA Hs hC hP hD hS hl)
/-- an array's place that is a cell -/
theorem J0_aald {G : jG} {Γ : jΓ} {w : jWd} {pc pc' : Nat} {ls : List (Option Value)} {st : List Value} {a b n ki : Nat} {rs : List (Nat × Nat)} {i : Int32} (j : Nat) (hd : decode (jcc Γ) pc = .ok (.aaload, 1)) (hL : jly a = (ki, n, rs)) (hk : ki = 2 ∨ ki = 3 ∨ ki = 4) (ha : a < 84) (hi : i = nI j) (hr : rs[j]? = some (2, b)) (hj : j < n) (hn : n < 2 ^ 31) (hp : pc' = pc + 1) (k : J0 G Γ w pc' ls (.ref b :: st)) : J0 G Γ w pc ls (.int i :: .ref a :: st) := by
  subst hp
  obtain ⟨h1, h2⟩ := jin hi hj hn
  intro p e s m args below meth c H locs lsA Hs hC hP hD hS hl
  have hk' := k p e s m args below meth c H locs lsA Hs hC hP hD hS hl
  have hv : va_rf (((fun j => (rs[j]?).map (fun q : Nat × Nat => jad G q.2)) : Nat → Option Nat) i.toNatClampNeg) = .ref (jad G b) := by
    rw [h2]
    simp [hr, va_rf]
  have hlt : i.toNatClampNeg < n := by omega
  have key : ∀ (c0 t0 : Nat) (ty : FieldType), jCnt G w a = .inl (jcA G c0, n, .inr (.inr (.inr (.inr (fun j => (rs[j]?).map (fun q : Nat × Nat => jad G q.2)))))) → (jTys G)[t0]? = some (jcA G c0, ty) → ty.isReference = true → W p G.1 e (jR Γ) s m args below meth c H locs (jcl Γ) (jsl Γ) (jZ Γ s args below) (F0 m pc lsA (.int i :: .ref (jad G a) :: st.map (jtr G))) := by
    intro c0 t0 ty hc0 ht0 hty
    exact W.aald (v := .ref (jad G b)) (ty := ty) hC.1 hC.2.1 (hP a _ (jAt ha hc0)) ((hC.2.2.2.2.2.2.2.1.2 t0 _ ht0).1 n (fun j => va_rf ((rs[j]?).map (fun q : Nat × Nat => jad G q.2)))) hty (fun q => by cases q) (by show ¬ (i < 0 ∨ (arrV _ _ _).slots.size ≤ _); rw [arrV_size]; exact h1) (by show (arrV _ _ _).slots[_]? = _; rw [arrV_read _ _ hlt]; exact congrArg some hv) rfl rfl hd hk'
  rcases hk with rfl | rfl | rfl
  · exact key 2 2 (.array .long) (by unfold jCnt; rw [hL]; rfl) rfl rfl
  · exact key 3 3 (.array .int) (by unfold jCnt; rw [hL]; rfl) rfl rfl
  · exact key 4 4 (.object RX4) (by unfold jCnt; rw [hL]; rfl) rfl rfl
/-- a field by its entry in a class's file -/
def jFl (own : String) (idx ci k : Nat) : Prop := ∃ (C : String) (T : u_T) (N : Nat), vwCl[ci]? = some (C, T, N) ∧ k < N ∧ (∀ w ∈ u_ws C T N, w ∈ jTbl) ∧ (T k).1 = C ∧
  (Cond.fieldLink own idx C (T k).2.1 (T k).2.2.1 ∈ jTbl ∨ ∃ host, Cond.fieldLinkNest own idx C (T k).2.1 (T k).2.2.1 host ∈ jNest)
def jFp (own : String) (idx ci k : Nat) (ty : FieldType) : Prop := ∃ (C : String) (T : u_T) (N : Nat) (ty0 : Nat → FieldType), vwCl[ci]? = some (C, T, N) ∧ k < N ∧ (∀ w ∈ u_ws C T N, w ∈ jTbl) ∧ (T k).1 = C ∧
  (Cond.fieldLink own idx C (T k).2.1 (T k).2.2.1 ∈ jTbl ∨ ∃ host, Cond.fieldLinkNest own idx C (T k).2.1 (T k).2.2.1 host ∈ jNest) ∧
  (∀ k, k < N → parseFieldDescriptor (T k).2.2.1 = some (ty0 k)) ∧ (∀ a, a < N → ∀ b, b < N → a ≠ b → (T a).2.1 ≠ (T b).2.1) ∧ (T k).2.2.2 = false ∧ parseFieldDescriptor (T k).2.2.1 = some ty
theorem J0_get {G : jG} {Γ : jΓ} {w : jWd} {pc pc' : Nat} {ls : List (Option Value)} {st : List Value} {a n ci k idx : Nat} {q : Nat × Nat} {sl : List (Nat × Nat)} {v : Value} (hd : decode (jcc Γ) pc = .ok (.getfield idx, 3)) (hf : jFl (jown Γ) idx ci k) (hL : jly a = (ci + 6, n, sl)) (ha : a < 84) (hq : sl[k]? = some q) (hv : jsv w a k q = v) (hp : pc' = pc + 3) (kk : J0 G Γ w pc' ls (v :: st)) : J0 G Γ w pc ls (.ref a :: st) := by
  subst hp
  intro p e s m args below meth c H locs lsA Hs hC hP hD hS hl
  obtain ⟨C, T, N, h1, h2, h3, h4, h5⟩ := hf
  have hfs : (jfs G w a 0 sl)[k]? = some (jtr G v) := by rw [jfs_get, hq, ← hv, Nat.zero_add]; rfl
  have hsame : ∀ x, s.fieldFound? (T k).1 (T k).2.1 (T k).2.2.1 = some x → s.fieldFound? C (T k).2.1 (T k).2.2.1 = some x := by rw [h4]; exact fun _ h => h
  have hk := kk p e s m args below meth c H locs lsA Hs hC hP hD hS hl
  rcases h5 with h5 | ⟨host, h5⟩
  · exact va_get hC.1 hC.2.1 hC.2.2.2.2.2.2.1 h3 hC.2.2.2.2.2.1 hC.2.2.2.2.2.2.2.1 hP a (jAt ha (jCnt_o hL)) h1 k h2 (hC.2.2.2.2.2.2.1 _ h5) hsame hfs hd hk
  · exact va_getN hC.1 hC.2.1 hC.2.2.2.2.2.2.1 h3 hC.2.2.2.2.2.1 hC.2.2.2.2.2.2.2.1 hP a (jAt ha (jCnt_o hL)) h1 k h2 (va_Nw.use rfl (hC.2.2.2.2.2.2.2.2.2.1 _ h5)) hsame hfs hd hk
theorem J0_getI {G : jG} {Γ : jΓ} {w : jWd} {pc pc' : Nat} {ls : List (Option Value)} {st : List Value} {a n ci k idx z : Nat} {sl : List (Nat × Nat)} (hd : decode (jcc Γ) pc = .ok (.getfield idx, 3)) (hf : jFl (jown Γ) idx ci k) (hL : jly a = (ci + 6, n, sl)) (ha : a < 84) (hq : sl[k]? = some (0, z)) (hp : pc' = pc + 3) (kk : J0 G Γ w pc' ls (.int (w.1 a k) :: st)) : J0 G Γ w pc ls (.ref a :: st) := J0_get hd hf hL ha hq rfl hp kk
theorem J0_getJ {G : jG} {Γ : jΓ} {w : jWd} {pc pc' : Nat} {ls : List (Option Value)} {st : List Value} {a n ci k idx z : Nat} {sl : List (Nat × Nat)} (hd : decode (jcc Γ) pc = .ok (.getfield idx, 3)) (hf : jFl (jown Γ) idx ci k) (hL : jly a = (ci + 6, n, sl)) (ha : a < 84) (hq : sl[k]? = some (1, z)) (hp : pc' = pc + 3) (kk : J0 G Γ w pc' ls (.long (w.2 a k) :: st)) : J0 G Γ w pc ls (.ref a :: st) := J0_get hd hf hL ha hq rfl hp kk
theorem J0_getR {G : jG} {Γ : jΓ} {w : jWd} {pc pc' : Nat} {ls : List (Option Value)} {st : List Value} {a b n ci k idx : Nat} {sl : List (Nat × Nat)} (hd : decode (jcc Γ) pc = .ok (.getfield idx, 3)) (hf : jFl (jown Γ) idx ci k) (hL : jly a = (ci + 6, n, sl)) (ha : a < 84) (hq : sl[k]? = some (2, b)) (hp : pc' = pc + 3) (kk : J0 G Γ w pc' ls (.ref b :: st)) : J0 G Γ w pc ls (.ref a :: st) := J0_get hd hf hL ha hq rfl hp kk
theorem jfs_set {G : jG} {w w' : jWd} {a k : Nat} {v : Value} : ∀ (sl : List (Nat × Nat)) (k0 : Nat) (_ : ∀ j q, k0 + j ≠ k0 + k → sl[j]? = some q → jsv w a (k0 + j) q = jsv w' a (k0 + j) q) (_ : ∀ q, sl[k]? = some q → v = jtr G (jsv w' a (k0 + k) q)), (jfs G w a k0 sl).set k v = jfs G w' a k0 sl := by
  intro sl k0 h1 h2
  apply List.ext_getElem?
  intro j
  rw [jfs_get G w' a sl k0 j]
  by_cases hj : j < sl.length
  · by_cases hjk : j = k
    · subst hjk
      rw [List.getElem?_set_self (by rw [jfs_len]; exact hj)]
      rw [List.getElem?_eq_getElem hj]
      exact congrArg some (h2 _ (List.getElem?_eq_getElem hj))
    · rw [List.getElem?_set_ne (fun q => hjk q.symm), jfs_get G w a sl k0 j, List.getElem?_eq_getElem hj]
      simp only [Option.map_some]
      rw [h1 j _ (by omega) (List.getElem?_eq_getElem hj)]
  · rw [List.getElem?_eq_none (by rw [List.length_set, jfs_len]; omega), List.getElem?_eq_none (by omega)]
    rfl
/-- a field is written: the world behind it is the one that differs there alone -/
theorem J0_put {G : jG} {Γ : jΓ} {w w' : jWd} {pc pc' : Nat} {ls : List (Option Value)} {st : List Value} {a n ci k idx : Nat} {q : Nat × Nat} {sl : List (Nat × Nat)} {v : Value} {ty : FieldType} (hd : decode (jcc Γ) pc = .ok (.putfield idx, 3)) (hf : jFp (jown Γ) idx ci k ty) (hL : jly a = (ci + 6, n, sl)) (ha : a < 84) (hq : sl[k]? = some q)
    (hn : narrow ty (jtr G v) = jtr G v) (hfit : fits ty (jtr G v) = true) (ho : ∀ b, b ≠ a → w.1 b = w'.1 b ∧ w.2 b = w'.2 b) (hs : ∀ j q, j ≠ k → jsv w a j q = jsv w' a j q) (hv : jtr G v = jtr G (jsv w' a k q)) (hp : pc' = pc + 3) (kk : J0 G Γ w' pc' ls st) : J0 G Γ w pc ls (v :: .ref a :: st) := by
  subst hp
  intro p e s m args below meth c H locs lsA Hs hC hP hD hS hl
  obtain ⟨C, T, N, ty0, h1, h2, h3, h4, h5, h6, h7, h8, h9⟩ := hf
  have hsame : ∀ x, s.fieldFound? (T k).1 (T k).2.1 (T k).2.2.1 = some x → s.fieldFound? C (T k).2.1 (T k).2.2.1 = some x := by rw [h4]; exact fun _ h => h
  have hkl : k < (jfs G w a 0 sl).length := by rw [jfs_len]; exact (List.getElem?_eq_some_iff.mp hq).1
  have he : (jW G w).set a (jad G a, .inr (ci, (jfs G w a 0 sl).set k (jtr G v))) = jW G w' :=
    jW_set ha (fun b hb => ho b hb) (by
      rw [jCnt_o hL]
      refine congrArg (fun z => Sum.inr (ci, z)) (jfs_set sl 0 (fun j q hj _ => hs _ q (by omega)) (fun q' hq' => ?_)).symm
      rw [hq] at hq'
      cases hq'
      rw [Nat.zero_add]
      exact hv)
  have hk : ∀ (H1 : Heap) (locs1 : List Loc), va_P (jD G) vwCl ((jW G w).set a (jad G a, .inr (ci, (jfs G w a 0 sl).set k (jtr G v)))) H1 → va_D (jA G) ((jW G w).set a (jad G a, .inr (ci, (jfs G w a 0 sl).set k (jtr G v)))) → va_S (jA G) Hs H1 locs1 → W p G.1 e (jR Γ) s m args below meth c H1 locs1 (jcl Γ) (jsl Γ) (jZ Γ s args below) (F0 m (pc + 3) lsA (st.map (jtr G))) := by
    intro H1 locs1 hP1 hD1 hS1
    rw [he] at hP1 hD1
    exact kk p e s m args below meth c H1 locs1 lsA Hs hC hP1 hD1 hS1 hl
  rcases h5 with h5 | ⟨host, h5⟩
  · exact va_put hC.1 hC.2.1 hC.2.2.2.2.2.2.1 h3 ty0 h6 h7 hC.2.2.2.2.2.1 hC.2.2.2.2.2.2.2.1 hP hD hS a (jAt ha (jCnt_o hL)) h1 k h2 (hC.2.2.2.2.2.2.1 _ h5) hsame h8 h9 hn hfit hkl hd hk
  · exact va_putN hC.1 hC.2.1 hC.2.2.2.2.2.2.1 h3 ty0 h6 h7 hC.2.2.2.2.2.1 hC.2.2.2.2.2.2.2.1 hP hD hS a (jAt ha (jCnt_o hL)) h1 k h2 (va_Nw.use rfl (hC.2.2.2.2.2.2.2.2.2.1 _ h5)) hsame h8 h9 hn hfit hkl hd hk
theorem jsv_ne {w : jWd} {a j k : Nat} (x : Int32) (q : Nat × Nat) (h : j ≠ k) : jsv w a j q = jsv (jset w a k x) a j q := by
  have e1 : (jset w a k x).1 a j = w.1 a j := by rw [jset_1, if_pos rfl, if_neg h]
  have e2 : (jset w a k x).2 a j = w.2 a j := rfl
  unfold jsv
  rw [e1, e2]
theorem J0_putI {G : jG} {Γ : jΓ} {w : jWd} {pc pc' : Nat} {ls : List (Option Value)} {st : List Value} {a n ci k idx z : Nat} {sl : List (Nat × Nat)} {x : Int32} (hd : decode (jcc Γ) pc = .ok (.putfield idx, 3)) (hf : jFp (jown Γ) idx ci k .int) (hL : jly a = (ci + 6, n, sl)) (ha : a < 84) (hq : sl[k]? = some (0, z)) (hp : pc' = pc + 3) (kk : J0 G Γ (jset w a k x) pc' ls st) : J0 G Γ w pc ls (.int x :: .ref a :: st) :=
  J0_put (w' := jset w a k x) hd hf hL ha hq rfl rfl (fun b hb => ⟨by unfold jset; rw [jsetA_1, if_neg hb], rfl⟩) (fun j q hj => jsv_ne x q hj) (by show Value.int x = .int ((jset w a k x).1 a k); rw [jset_1, if_pos rfl, if_pos rfl]) hp kk
theorem J0_putZ {G : jG} {Γ : jΓ} {w : jWd} {pc pc' : Nat} {ls : List (Option Value)} {st : List Value} {a n ci k idx z : Nat} {sl : List (Nat × Nat)} {x : Int32} (hd : decode (jcc Γ) pc = .ok (.putfield idx, 3)) (hf : jFp (jown Γ) idx ci k .boolean) (hL : jly a = (ci + 6, n, sl)) (ha : a < 84) (hq : sl[k]? = some (0, z)) (hx : x = 0 ∨ x = 1) (hp : pc' = pc + 3) (kk : J0 G Γ (jset w a k x) pc' ls st) : J0 G Γ w pc ls (.int x :: .ref a :: st) :=
  J0_put (w' := jset w a k x) hd hf hL ha hq (by rcases hx with rfl | rfl <;> rfl) (by rcases hx with rfl | rfl <;> rfl) (fun b hb => ⟨by unfold jset; rw [jsetA_1, if_neg hb], rfl⟩) (fun j q hj => jsv_ne x q hj) (by show Value.int x = .int ((jset w a k x).1 a k); rw [jset_1, if_pos rfl, if_pos rfl]) hp kk
theorem J0_putJ {G : jG} {Γ : jΓ} {w : jWd} {pc pc' : Nat} {ls : List (Option Value)} {st : List Value} {a n ci k idx z : Nat} {sl : List (Nat × Nat)} {x : Int64} (hd : decode (jcc Γ) pc = .ok (.putfield idx, 3)) (hf : jFp (jown Γ) idx ci k .long) (hL : jly a = (ci + 6, n, sl)) (ha : a < 84) (hq : sl[k]? = some (1, z)) (hp : pc' = pc + 3) (kk : J0 G Γ (jsetL w a k x) pc' ls st) : J0 G Γ w pc ls (.long x :: .ref a :: st) :=
  J0_put (w' := jsetL w a k x) hd hf hL ha hq rfl rfl (fun b hb => ⟨rfl, by show _ = (if b = a then vp_updL (w.2 a) k x else w.2 b); rw [if_neg hb]⟩) (fun j q hj => by
    have e2 : (jsetL w a k x).2 a j = w.2 a j := by rw [jsetL_2, if_pos rfl, if_neg hj]
    unfold jsv
    rw [e2]
    rfl) (by show Value.long x = .long ((jsetL w a k x).2 a k); rw [jsetL_2, if_pos rfl, if_pos rfl]) hp kk
/-- a text that is a field: which of the class's constants -/
theorem J0_putS {G : jG} {Γ : jΓ} {w : jWd} {pc pc' : Nat} {ls : List (Option Value)} {st : List Value} {a n ci k idx z j : Nat} {sl : List (Nat × Nat)} (hd : decode (jcc Γ) pc = .ok (.putfield idx, 3)) (hf : jFp (jown Γ) idx ci k (.object "java/lang/String")) (hL : jly a = (ci + 6, n, sl)) (ha : a < 84) (hq : sl[k]? = some (3, z)) (hj : j < 2 ^ 31) (hp : pc' = pc + 3) (kk : J0 G Γ (jset w a k (nI j)) pc' ls st) : J0 G Γ w pc ls (.ref (1002 + j) :: .ref a :: st) :=
  J0_put (w' := jset w a k (nI j)) hd hf hL ha hq rfl rfl (fun b hb => ⟨by unfold jset; rw [jsetA_1, if_neg hb], rfl⟩) (fun j q hj => jsv_ne _ q hj) (by
    show Value.ref (jad G (1002 + j)) = .ref (jad G (1002 + ((jset w a k (nI j)).1 a k).toNatClampNeg))
    rw [jset_1, if_pos rfl, if_pos rfl, nI_clamp hj]) hp kk
theorem J0_getS {G : jG} {Γ : jΓ} {w : jWd} {pc pc' : Nat} {ls : List (Option Value)} {st : List Value} {a n ci k idx z : Nat} {sl : List (Nat × Nat)} (hd : decode (jcc Γ) pc = .ok (.getfield idx, 3)) (hf : jFl (jown Γ) idx ci k) (hL : jly a = (ci + 6, n, sl)) (ha : a < 84) (hq : sl[k]? = some (3, z)) (hp : pc' = pc + 3) (kk : J0 G Γ w pc' ls (.ref (1002 + (w.1 a k).toNatClampNeg) :: st)) : J0 G Γ w pc ls (.ref a :: st) := J0_get hd hf hL ha hq rfl hp kk
theorem jCnt_5 {G : jG} {w : jWd} {a n : Nat} {z : List (Nat × Nat)} (hL : jly a = (5, n, z)) : jCnt G w a = .inl (jcA G 0, n, .inl (w.1 a)) := by unfold jCnt; rw [hL]; rfl
theorem J0_iald5 {G : jG} {Γ : jΓ} {w : jWd} {pc pc' : Nat} {ls : List (Option Value)} {st : List Value} {a n : Nat} {z : List (Nat × Nat)} {i : Int32} (j : Nat) (hd : decode (jcc Γ) pc = .ok (.iaload, 1)) (hL : jly a = (5, n, z)) (ha : a < 84) (hi : i = nI j) (hj : j < n) (hn : n < 2 ^ 31) (hp : pc' = pc + 1) (k : J0 G Γ w pc' ls (.int (w.1 a j) :: st)) : J0 G Γ w pc ls (.int i :: .ref a :: st) := by
  subst hp
  obtain ⟨h1, h2⟩ := jin hi hj hn
  intro p e s m args below meth c H locs lsA Hs hC hP hD hS hl
  refine va_iald hC.1 hC.2.1 hC.2.2.2.2.2.2.2.1 hP a 0 (jAt ha (jCnt_5 hL)) rfl h1 hd ?_
  rw [h2]
  exact k p e s m args below meth c H locs lsA Hs hC hP hD hS hl
theorem J0_iast5 {G : jG} {Γ : jΓ} {w : jWd} {pc pc' : Nat} {ls : List (Option Value)} {st : List Value} {a n : Nat} {z : List (Nat × Nat)} {i x : Int32} (j : Nat) (hd : decode (jcc Γ) pc = .ok (.iastore, 1)) (hL : jly a = (5, n, z)) (ha : a < 84) (hi : i = nI j) (hj : j < n) (hn : n < 2 ^ 31) (hp : pc' = pc + 1) (k : J0 G Γ (jset w a j x) pc' ls st) : J0 G Γ w pc ls (.int x :: .int i :: .ref a :: st) := by
  subst hp
  obtain ⟨h1, h2⟩ := jin hi hj hn
  intro p e s m args below meth c H locs lsA Hs hC hP hD hS hl
  have he : (jW G w).set a (jad G a, .inl (jcA G 0, n, .inl (upd (w.1 a) j x))) = jW G (jset w a j x) :=
    jW_set ha (fun b hb => ⟨by unfold jset; rw [jsetA_1, if_neg hb], rfl⟩) (by rw [jCnt_5 hL]; unfold jset; rw [jsetA_1, if_pos rfl])
  refine va_iast hC.1 hC.2.1 hC.2.2.2.2.2.2.2.1 hP hD hS a 0 (jAt ha (jCnt_5 hL)) rfl h1 hd (fun H1 locs1 hP1 hD1 hS1 => ?_)
  rw [h2, he] at hP1 hD1
  exact k p e s m args below meth c H1 locs1 lsA Hs hC hP1 hD1 hS1 hl
