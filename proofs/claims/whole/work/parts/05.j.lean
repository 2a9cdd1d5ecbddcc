/-! ===== J: walks over the whole world, its cells by their numbers ===== -/
/-- what the int cells and the long cells hold: cell, place -/
abbrev jWd : Type := (Nat → Nat → Int32) × (Nat → Nat → Int64)
/-- kind of a cell, how many places, what the places are (kind, number) -/
abbrev jLK : Type := Nat × Nat × List (Nat × Nat)
abbrev jG : Type := Launch × (Nat → ClassId) × (Nat → Nat → Nat) × (Nat → Nat) × (Nat → ClassId)
abbrev jad (G : jG) : Nat → Nat := G.2.2.2.1
abbrev jcA (G : jG) : Nat → ClassId := G.2.2.2.2
abbrev jD (G : jG) : va_G := (G.2.1, G.2.2.1)
def jBlkS (b : Nat) : List (Nat × Nat) := [(2, b + 1), (2, b + 2), (2, b + 3), (2, b + 4), (2, b + 5), (2, b + 6), (2, b + 7), (2, b + 8), (0, 0), (0, 0), (0, 0), (0, 0), (0, 0), (0, 0), (0, 0), (0, 0), (0, 0)]
def jTxtS (t n : Nat) : List (Nat × Nat) := [(2, n), (0, 0), (0, 0), (2, t + 1), (2, t + 2), (0, 0)]
def jBlk (b : Nat) : List jLK := [(6, 17, jBlkS b), (0, 8, []), (0, 8, []), (0, 8, []), (0, 8, []), (0, 8, []), (0, 60, []), (0, 24, []), (4, 2, [(2, b + 9), (2, b + 12)]), (10, 6, jTxtS (b + 9) 1002), (0, 60, []), (5, 60, []), (10, 6, jTxtS (b + 12) 1003), (0, 60, []), (5, 60, [])]
/-- the cells: the class's 0 .. 67, the reference's 68 .. 83; kind 5: rows in which a text is worked out -/
def jLY : List jLK := (12, 9, [(2, 1), (2, 16), (2, 31), (2, 46), (2, 48), (2, 57), (2, 59), (2, 67), (0, 0)]) :: (jBlk 1 ++ (jBlk 16 ++ (jBlk 31 ++ [
  (8, 6, [(2, 7), (2, 47), (0, 0), (0, 0), (0, 0), (3, 0)]), (0, 60, []),
  (7, 5, [(2, 49), (2, 54), (2, 55), (2, 56), (1, 0)]), (2, 4, [(2, 50), (2, 51), (2, 52), (2, 53)]), (1, 5, []), (1, 5, []), (1, 5, []), (1, 5, []), (1, 4, []), (0, 8, []), (0, 8, []),
  (11, 6, [(2, 58), (0, 0), (0, 0), (0, 0), (0, 0), (0, 0)]), (0, 30, []),
  (9, 3, [(2, 60), (2, 65), (2, 66)]), (3, 4, [(2, 61), (2, 62), (2, 63), (2, 64)]), (0, 24, []), (0, 24, []), (0, 24, []), (0, 24, []), (0, 4, []), (0, 4, []), (0, 7, []),
  (13, 24, [(2, 69), (2, 70), (2, 71), (0, 0), (2, 72), (2, 73), (2, 74), (2, 75), (2, 76), (2, 77), (2, 78), (1, 0), (2, 79), (2, 80), (2, 81), (2, 82), (0, 0), (0, 0), (0, 0), (0, 0), (0, 0), (2, 83), (0, 0), (0, 0)]),
  (0, 382, []), (0, 382, []), (0, 382, []), (0, 7, []), (0, 4, []), (0, 4, []), (0, 96, []), (1, 16, []), (1, 4, []), (1, 4, []), (0, 60, []), (0, 60, []), (5, 3, []), (5, 60, []), (0, 30, [])])))
def jly (i : Nat) : jLK := (jLY[i]?).getD (99, 0, [])
theorem jly_len : jLY.length = 84 := by decide +kernel
/-- values as they stand in the machine -/
def jtr (G : jG) : Value → Value
  | .ref i => .ref (jad G i)
  | v => v
def jsv (w : jWd) (i k : Nat) (q : Nat × Nat) : Value := match q with
  | (0, _) => .int (w.1 i k)
  | (1, _) => .long (w.2 i k)
  | (2, j) => .ref j
  | _ => .ref (1002 + (w.1 i k).toNatClampNeg)
def jfs (G : jG) (w : jWd) (i : Nat) : Nat → List (Nat × Nat) → List Value
  | _, [] => []
  | k, q :: r => jtr G (jsv w i k q) :: jfs G w i (k + 1) r
def jCntOf (G : jG) (w : jWd) (i : Nat) (L : jLK) : va_E := match L with
  | (0, n, _) => .inl (jcA G 0, n, .inl (w.1 i))
  | (1, n, _) => .inl (jcA G 1, n, .inr (.inl (w.2 i)))
  | (2, n, rs) => .inl (jcA G 2, n, .inr (.inr (.inr (.inr (fun j => (rs[j]?).map (fun q => jad G q.2))))))
  | (3, n, rs) => .inl (jcA G 3, n, .inr (.inr (.inr (.inr (fun j => (rs[j]?).map (fun q => jad G q.2))))))
  | (4, n, rs) => .inl (jcA G 4, n, .inr (.inr (.inr (.inr (fun j => (rs[j]?).map (fun q => jad G q.2))))))
  | (5, n, _) => .inl (jcA G 0, n, .inl (w.1 i))
  | (c + 6, _, sl) => .inr (c, jfs G w i 0 sl)
def jCnt (G : jG) (w : jWd) (i : Nat) : va_E := jCntOf G w i (jly i)
def jW (G : jG) (w : jWd) : va_W := (List.range 84).map (fun i => (jad G i, jCnt G w i))
def jTys (G : jG) : List (ClassId × FieldType) := [(jcA G 0, .int), (jcA G 1, .long), (jcA G 2, .array .long), (jcA G 3, .array .int), (jcA G 4, .object RX4)]
def jA (G : jG) : Nat → Prop := fun q => ∃ i, i < 84 ∧ q = jad G i
theorem jfs_get (G : jG) (w : jWd) (i : Nat) : ∀ (sl : List (Nat × Nat)) (k0 k : Nat), (jfs G w i k0 sl)[k]? = (sl[k]?).map (fun q => jtr G (jsv w i (k0 + k) q))
  | [], k0, k => by simp [jfs]
  | q :: r, k0, 0 => by simp [jfs]
  | q :: r, k0, k + 1 => by
    simp only [jfs, List.getElem?_cons_succ]
    rw [jfs_get G w i r (k0 + 1) k, show k0 + 1 + k = k0 + (k + 1) by omega]
theorem jfs_len (G : jG) (w : jWd) (i : Nat) : ∀ (sl : List (Nat × Nat)) (k0 : Nat), (jfs G w i k0 sl).length = sl.length
  | [], _ => rfl
  | q :: r, k0 => by simp [jfs, jfs_len G w i r]
theorem jW_get (G : jG) (w : jWd) {i : Nat} (h : i < 84) : (jW G w)[i]? = some (jad G i, jCnt G w i) := by
  simp [jW, List.getElem?_map, List.getElem?_range h]
theorem jCnt_congr {G : jG} {w w' : jWd} {i : Nat} (h1 : w.1 i = w'.1 i) (h2 : w.2 i = w'.2 i) : jCnt G w i = jCnt G w' i := by
  have hsv : ∀ k q, jsv w i k q = jsv w' i k q := by
    intro k q
    obtain ⟨a, b⟩ := q
    unfold jsv
    rw [h1, h2]
  have hfs : ∀ (sl : List (Nat × Nat)) (k0 : Nat), jfs G w i k0 sl = jfs G w' i k0 sl := by
    intro sl
    induction sl with
    | nil => intro _; rfl
    | cons q r ih => intro k0; simp only [jfs, hsv, ih]
  unfold jCnt jCntOf
  rw [h1, h2]
  split <;> simp only [hfs]
theorem jW_set {G : jG} {w w' : jWd} {i : Nat} {e : va_E} (h : i < 84) (ho : ∀ j, j ≠ i → w.1 j = w'.1 j ∧ w.2 j = w'.2 j) (he : jCnt G w' i = e) : (jW G w).set i (jad G i, e) = jW G w' := by
  apply List.ext_getElem?
  intro j
  by_cases hj : j < 84
  · by_cases hij : j = i
    · subst hij
      rw [jW_get G w' hj, List.getElem?_set_self (by simp [jW]; exact h), he]
    · rw [List.getElem?_set_ne (fun q => hij q.symm), jW_get G w hj, jW_get G w' hj, jCnt_congr (ho j hij).1 (ho j hij).2]
  · rw [List.getElem?_eq_none (by simp [jW]; omega), List.getElem?_eq_none (by simp [jW]; omega)]
/-- an int cell's place, a whole int cell; a long cell's place -/
def jsetA (w : jWd) (a : Nat) (f : Nat → Int32) : jWd := (fun a' => if a' = a then f else w.1 a', w.2)
def jset (w : jWd) (a k : Nat) (v : Int32) : jWd := jsetA w a (upd (w.1 a) k v)
def jsetL (w : jWd) (a k : Nat) (v : Int64) : jWd := (w.1, fun a' => if a' = a then vp_updL (w.2 a) k v else w.2 a')
theorem jsetA_1 (w : jWd) (a : Nat) (f : Nat → Int32) (a' : Nat) : (jsetA w a f).1 a' = if a' = a then f else w.1 a' := rfl
theorem jsetA_2 (w : jWd) (a : Nat) (f : Nat → Int32) : (jsetA w a f).2 = w.2 := rfl
theorem jset_1 (w : jWd) (a k : Nat) (v : Int32) (a' k' : Nat) : (jset w a k v).1 a' k' = if a' = a then (if k' = k then v else w.1 a k') else w.1 a' k' := by
  unfold jset
  rw [jsetA_1]
  by_cases h : a' = a
  · rw [if_pos h, if_pos h]; rfl
  · rw [if_neg h, if_neg h]
theorem jset_2 (w : jWd) (a k : Nat) (v : Int32) : (jset w a k v).2 = w.2 := rfl
theorem jsetL_1 (w : jWd) (a k : Nat) (v : Int64) : (jsetL w a k v).1 = w.1 := rfl
theorem jsetL_2 (w : jWd) (a k : Nat) (v : Int64) (a' k' : Nat) : (jsetL w a k v).2 a' k' = if a' = a then (if k' = k then v else w.2 a k') else w.2 a' k' := by
  show (if a' = a then vp_updL (w.2 a) k v else w.2 a') k' = _
  by_cases h : a' = a
  · rw [if_pos h, if_pos h]; rfl
  · rw [if_neg h, if_neg h]
/-- locals: listed by places -/
def jL (G : jG) : Nat → List (Option Value) → List (Nat × Value)
  | _, [] => []
  | i, none :: r => jL G (i + 1) r
  | i, some v :: r => (i, jtr G v) :: jL G (i + 1) r
theorem jL_mem (G : jG) : ∀ (ls : List (Option Value)) (i : Nat) (q : Nat × Value), q ∈ jL G i ls ↔ ∃ j v, ls[j]? = some (some v) ∧ q = (i + j, jtr G v)
  | [], i, q => by simp [jL]
  | none :: r, i, q => by
    rw [jL, jL_mem G r (i + 1) q]
    constructor
    · rintro ⟨j, v, h, rfl⟩
      exact ⟨j + 1, v, h, by rw [show i + (j + 1) = i + 1 + j by omega]⟩
    · rintro ⟨j, v, h, rfl⟩
      cases j with
      | zero => simp at h
      | succ j => exact ⟨j, v, h, by rw [show i + (j + 1) = i + 1 + j by omega]⟩
  | some u :: r, i, q => by
    rw [jL, List.mem_cons, jL_mem G r (i + 1) q]
    constructor
    · rintro (rfl | ⟨j, v, h, rfl⟩)
      · exact ⟨0, u, rfl, rfl⟩
      · exact ⟨j + 1, v, h, by rw [show i + (j + 1) = i + 1 + j by omega]⟩
    · rintro ⟨j, v, h, rfl⟩
      cases j with
      | zero => simp at h; subst h; exact Or.inl rfl
      | succ j => exact Or.inr ⟨j, v, h, by rw [show i + (j + 1) = i + 1 + j by omega]⟩
theorem jL_at {G : jG} {lsA : Array Slot} {nL : Nat} {ls : List (Option Value)} (h : lv_has lsA nL (jL G 0 ls)) {i : Nat} {v : Value} (hv : ls[i]? = some (some v)) : lsA[i]? = some (.val (jtr G v)) :=
  h.2.2 (i, jtr G v) ((jL_mem G ls 0 _).mpr ⟨i, v, hv, by simp⟩)
theorem jtr_cat (G : jG) (v : Value) : (jtr G v).category = v.category := by cases v <;> rfl
/-- locals behind a store at place i -/
def jSt (ls : List (Option Value)) (i : Nat) (v : Value) (ls' : List (Option Value)) : Prop :=
  ∀ j u, ls'[j]? = some (some u) → (j = i ∧ u = v) ∨ (j ≠ i ∧ (v.category = 2 → j ≠ i + 1) ∧ ls[j]? = some (some u) ∧ (j + 1 = i → u.category ≠ 2))
theorem jSt_1 {G : jG} {lsA : Array Slot} {nL i : Nat} {ls ls' : List (Option Value)} {v : Value} (h : lv_has lsA nL ((i, jtr G v) :: (jL G 0 ls).filter (fun q => !(q.1 == i) && !(q.1 + 1 == i && q.2.category == 2)))) (hs : jSt ls i v ls') : lv_has lsA nL (jL G 0 ls') := by
  refine ⟨h.1, h.2.1, fun q hq => h.2.2 q ?_⟩
  obtain ⟨j, u, hj, rfl⟩ := (jL_mem G ls' 0 q).mp hq
  rcases hs j u hj with ⟨rfl, rfl⟩ | ⟨h1, -, h3, h4⟩
  · simp
  · refine List.mem_cons_of_mem _ (List.mem_filter.mpr ⟨(jL_mem G ls 0 _).mpr ⟨j, u, h3, rfl⟩, ?_⟩)
    simp only [Nat.zero_add, jtr_cat, Bool.and_eq_true, Bool.not_eq_true', beq_eq_false_iff_ne, ne_eq, Bool.and_eq_false_iff]
    refine ⟨h1, ?_⟩
    by_cases e : j + 1 = i
    · exact Or.inr (h4 e)
    · exact Or.inl e
theorem jSt_2 {G : jG} {lsA : Array Slot} {nL i : Nat} {ls ls' : List (Option Value)} {v : Value} (hc : v.category = 2) (h : lv_has lsA nL ((i, jtr G v) :: (jL G 0 ls).filter (fun q => !(q.1 == i) && (!(q.1 == i + 1) && !(q.1 + 1 == i && q.2.category == 2))))) (hs : jSt ls i v ls') : lv_has lsA nL (jL G 0 ls') := by
  refine ⟨h.1, h.2.1, fun q hq => h.2.2 q ?_⟩
  obtain ⟨j, u, hj, rfl⟩ := (jL_mem G ls' 0 q).mp hq
  rcases hs j u hj with ⟨rfl, rfl⟩ | ⟨h1, h2, h3, h4⟩
  · simp
  · refine List.mem_cons_of_mem _ (List.mem_filter.mpr ⟨(jL_mem G ls 0 _).mpr ⟨j, u, h3, rfl⟩, ?_⟩)
    simp only [Nat.zero_add, jtr_cat, Bool.and_eq_true, Bool.not_eq_true', beq_eq_false_iff_ne, ne_eq, Bool.and_eq_false_iff]
    refine ⟨h1, h2 hc, ?_⟩
    by_cases e : j + 1 = i
    · exact Or.inr (h4 e)
    · exact Or.inl e
/-- no long -/
def jnl : Option Value → Bool
  | some (.long _) => false
  | some (.double _) => false
  | _ => true
theorem jSt_0 {v : Value} (hc : v.category = 1) (a : Option Value) (r : List (Option Value)) : jSt (a :: r) 0 v (some v :: r) := by
  intro j u h
  cases j with
  | zero => simp at h; exact Or.inl ⟨rfl, h.symm⟩
  | succ j => exact Or.inr ⟨by omega, fun q => (by rw [hc] at q; cases q), h, by omega⟩
theorem jSt_0L {v : Value} (a b : Option Value) (r : List (Option Value)) : jSt (a :: b :: r) 0 v (some v :: none :: r) := by
  intro j u h
  match j with
  | 0 => simp at h; exact Or.inl ⟨rfl, h.symm⟩
  | 1 => simp at h
  | j + 2 => exact Or.inr ⟨by omega, fun _ => by omega, h, by omega⟩
theorem jSt_s {v : Value} {a : Option Value} {r r' : List (Option Value)} {i : Nat} (h : jSt r i v r') (ha : i = 0 → jnl a = true) : jSt (a :: r) (i + 1) v (a :: r') := by
  intro j u hj
  cases j with
  | zero =>
    simp at hj
    subst hj
    refine Or.inr ⟨by omega, fun _ => by omega, rfl, fun e => ?_⟩
    have h2 := ha (by omega)
    cases u <;> simp [jnl, Value.category] at h2 ⊢
  | succ j =>
    rcases h j u hj with ⟨rfl, rfl⟩ | ⟨h1, h2, h3, h4⟩
    · exact Or.inl ⟨rfl, rfl⟩
    · exact Or.inr ⟨by omega, fun q => by have := h2 q; omega, h3, fun e => h4 (by omega)⟩
/-! ===== the context ===== -/
def jNestW : Cond → Bool
  | .fieldLinkNest .. => true
  | .methodLinkNest .. => true
  | _ => false
/-- the tables' words that stay, whatever is called; the nest mates' words -/
def jTbl : List Cond := lw_tbl.filter goodWord
def jNest : List Cond := lw_tbl.filter jNestW
theorem jTbl_in {k : Nat} {w : Cond} (h : lw_tbl[k]? = some w) (hg : goodWord w = true) : w ∈ jTbl := List.mem_filter.mpr ⟨List.mem_of_getElem? h, hg⟩
theorem jNest_in {k : Nat} {w : Cond} (h : lw_tbl[k]? = some w) (hg : jNestW w = true) : w ∈ jNest := List.mem_filter.mpr ⟨List.mem_of_getElem? h, hg⟩
theorem jTbl_good : ∀ w ∈ jTbl, goodWord w = true := fun _ h => (List.mem_filter.mp h).2
def jNw (U : State) : Prop := ∀ w ∈ jNest, va_Nw w U
theorem jNw.warm {s U : State} (hW : s.WarmedH U.vm) (h : jNw s) : jNw U := by
  intro w hw
  have h1 := (List.mem_filter.mp hw).2
  have h2 := h w hw
  cases w <;> first | exact va_Nw.warmF hW h2 | exact va_Nw.warmM hW h2 | (simp [jNestW] at h1)
theorem jNw.same {u U : State} (he : u.vm = U.vm) (h : jNw u) : jNw U := by
  intro w hw
  have h1 := (List.mem_filter.mp hw).2
  refine va_Nw.same ?_ he (h w hw)
  cases w <;> first | rfl | (simp [jNestW] at h1)
def jAbv (k : Nat) : Value := .int (([-1, 0, 0, 0, 1, 2, 0] : List Int32).getD k 0)
def jBodL : List Int32 := [10, 11, 12, 13, 20, 11, 12, 21, 10, 30, 12, 13, 10, 11, 40, 13, 50, 11, 51, 21, 10, 60, 12, 13, 70, 71, 12, 13]
def jBod (k : Nat) : Value := .int (jBodL.getD k 0)
def jStrB (i : Nat) : List Int32 := if i = 0 then [119, 107, 110] else [115, 116, 110]
/-- what is static: never written -/
def jStr (G : jG) (i : Nat) (U : State) (H : Heap) : Prop := va_O "java/lang/String" (jad G (1002 + i)) (jA G) U H ∧ va_OF "java/lang/String" "value" "[B" (.ref (jad G (1010 + i))) (jad G (1002 + i)) (jA G) U H ∧ va_OF "java/lang/String" "coder" "B" (.int 0) (jad G (1002 + i)) (jA G) U H ∧ va_T .byte (jad G (1010 + i)) 3 (fun k => .int ((jStrB i).getD k 0)) (jA G) U H
def jS (G : jG) (U : State) (H : Heap) : Prop := va_Z "PictureBlock" "ABOVE" "[I" (.ref (jad G 1000)) (jA G) U H ∧ va_T .int (jad G 1000) 7 jAbv (jA G) U H ∧ va_Z "PictureBlock$Voices" "BODIES" "[I" (.ref (jad G 1001)) (jA G) U H ∧ va_T .int (jad G 1001) 28 jBod (jA G) U H ∧
  va_Z "java/lang/String" "COMPACT_STRINGS" "Z" (.int 1) (jA G) U H ∧ jStr G 0 U H ∧ jStr G 1 U H
theorem jS.moved {G : jG} {u U : State} {H : Heap} (hvm : u.vm.Alike U.vm) (h : jS G u H) : jS G U H := by
  obtain ⟨h1, h2, h3, h4, h5, ⟨a1, a2, a3, a4⟩, b1, b2, b3, b4⟩ := h
  exact ⟨h1.moved hvm, h2.moved hvm, h3.moved hvm, h4.moved hvm, h5.moved hvm, ⟨a1.moved hvm, a2.moved hvm, a3.moved hvm, a4.moved hvm⟩, b1.moved hvm, b2.moved hvm, b3.moved hvm, b4.moved hvm⟩
theorem jS.kept {G : jG} {U : State} {H H1 : Heap} (h : jS G U H) (hq : ∀ a : Nat, a < H.size → ¬ jA G a → H1[a]? = H[a]?) : jS G U H1 := by
  obtain ⟨h1, h2, h3, h4, h5, ⟨a1, a2, a3, a4⟩, b1, b2, b3, b4⟩ := h
  exact ⟨h1.kept hq, h2.kept hq, h3.kept hq, h4.kept hq, h5.kept hq, ⟨a1.kept hq, a2.kept hq, a3.kept hq, a4.kept hq⟩, b1.kept hq, b2.kept hq, b3.kept hq, b4.kept hq⟩
/-- the world at a state -/
def jH (G : jG) (w : jWd) (U : State) : Prop := va_P (jD G) vwCl (jW G w) U.heap ∧ va_K (jD G) vwCl (jTys G) U ∧ va_D (jA G) (jW G w) ∧ jS G U U.heap ∧ jNw U
/-- a method: owner, code, locals, answer's type, room, cells, slots, what is known of the entry, the end -/
abbrev jΓ : Type := String × ByteArray × Nat × Option FieldType × Room × Nat × Nat × (State → Array Value → Heap → Prop) × (State → Array Value → List Frame → State → Prop)
abbrev jown (Γ : jΓ) : String := Γ.1
abbrev jcc (Γ : jΓ) : ByteArray := Γ.2.1
abbrev jnL (Γ : jΓ) : Nat := Γ.2.2.1
abbrev jret (Γ : jΓ) : Option FieldType := Γ.2.2.2.1
abbrev jR (Γ : jΓ) : Room := Γ.2.2.2.2.1
abbrev jcl (Γ : jΓ) : Nat := Γ.2.2.2.2.2.1
abbrev jsl (Γ : jΓ) : Nat := Γ.2.2.2.2.2.2.1
abbrev jE (Γ : jΓ) : State → Array Value → Heap → Prop := Γ.2.2.2.2.2.2.2.1
abbrev jZ (Γ : jΓ) : State → Array Value → List Frame → State → Prop := Γ.2.2.2.2.2.2.2.2
def jC (G : jG) (Γ : jΓ) (p : Program) (s : State) (m : MethodId) (args : Array Value) (meth : Method) (c : Code) (Hs : Heap) : Prop :=
  p.tables.exec = Jvm.exec ∧ c.code = jcc Γ ∧ meth.sig.returnType = jret Γ ∧ meth.locks = false ∧ c.maxLocals = jnL Γ ∧ s.vm.findClass (jown Γ) = some m.cls ∧ (∀ w ∈ jTbl, w.before args s = true) ∧ va_K (jD G) vwCl (jTys G) s ∧ jS G s Hs ∧ jNw s ∧ jE Γ s args Hs
/-- from this place of the method, in this world, it comes to its end -/
def J0 (G : jG) (Γ : jΓ) (w : jWd) (pc : Nat) (ls : List (Option Value)) (st : List Value) : Prop :=
  ∀ (p : Program) (e : Env) (s : State) (m : MethodId) (args : Array Value) (below : List Frame) (meth : Method) (c : Code) (H : Heap) (locs : List Loc) (lsA : Array Slot) (Hs : Heap), jC G Γ p s m args meth c Hs →
    va_P (jD G) vwCl (jW G w) H → va_D (jA G) (jW G w) → va_S (jA G) Hs H locs → lv_has lsA (jnL Γ) (jL G 0 ls) →
    W p G.1 e (jR Γ) s m args below meth c H locs (jcl Γ) (jsl Γ) (jZ Γ s args below) (F0 m pc lsA (st.map (jtr G)))
/-- the room of a method that calls d deep -/
def jRm (d : Nat) : Room := { frames := d, cells := 0, slots := 0, locals := 40 * d }
def jQ (G : jG) (Q : Option Value → jWd → Prop) : Array Value → State → Outcome → State → Prop := fun _ st oc t => ∃ (r : Option Value) (w : jWd), oc = .returned (r.map (jtr G)) ∧ Q r w ∧ va_P (jD G) vwCl (jW G w) t.heap ∧ va_D (jA G) (jW G w) ∧ va_F (jA G) st t
abbrev jM0 (G : jG) (d : Nat) (own : String) (cc : ByteArray) (nL : Nat) (ret : Option FieldType) (Q : Option Value → jWd → Prop) : jΓ :=
  (own, cc, nL, ret, jRm d, 0, 0, fun s _ Hs => Hs = s.heap, fun s args below => MQ below (jQ G Q) args s 0 0 (jA G))
/-- a method's contract: called so in this world it returns so -/
def jK0 (G : jG) (d : Nat) (y : MethodName) (cc : ByteArray) (nL : Nat) (ret : Option FieldType) (args : List Value) (w : jWd) (Q : Option Value → jWd → Prop) : Prop :=
  Met G.1 y (Cond.code y cc nL ret :: jTbl) (jRm d) (va_Pc (args.map (jtr G)) (jH G w)) (jQ G Q) 0 0 (jA G)
theorem jK0_of {G : jG} {d : Nat} {y : MethodName} {own : String} {cc : ByteArray} {nL : Nat} {ret : Option FieldType} {args : List Value} {w : jWd} {Q : Option Value → jWd → Prop} (ls : List (Option Value)) (hy : plainName y.cls = true) (ho : y.cls = own) (hn : (lg_sl (args.map (jtr G))).length ≤ nL) (hl : jL G 0 ls = lv_args 0 (args.map (jtr G)))
    (body : J0 G (jM0 G d own cc nL ret Q) w 0 ls []) : jK0 G d y cc nL ret args w Q := by
  refine Met.ofW (cc := cc) (maxL := nL) (ret := ret) hy rfl ?_
  intro p e s m args' below meth c s₁ B hml hv
  obtain ⟨rfl, hP, hK, hD, hS, hN⟩ := hv
  have hts := atoms_spec (ws := Cond.code y cc nL ret :: jTbl) B.pre
  have hown : s.vm.findClass own = some m.cls := ho ▸ findClass_of_methodNamed B.named
  have hl0 := lv_entry (args.map (jtr G)) (n := nL) hn
  rw [lg_entry_eq]
  rw [← hl] at hl0
  exact body p e s m _ below meth c s.heap [] _ s.heap ⟨B.exec, B.bytes, B.returns, B.notSynchronized, hml, hown, fun w hw => hts w (List.mem_cons_of_mem _ hw), hK, hS, hN, rfl⟩ hP hD va_S.rf hl0
theorem jK0_post {G : jG} {d : Nat} {y : MethodName} {cc : ByteArray} {nL : Nat} {ret : Option FieldType} {args : List Value} {w : jWd} {Q Q' : Option Value → jWd → Prop} (h : jK0 G d y cc nL ret args w Q) (hq : ∀ r w', Q r w' → Q' r w') : jK0 G d y cc nL ret args w Q' := by
  intro p e ha hc hk s m args' below hf happ hP hx
  obtain ⟨k, o, h1, h2, h3, ⟨r, w', q1, q2, q3⟩, h4⟩ := h p e ha hc hk s m args' below hf happ hP hx
  exact ⟨k, o, h1, h2, h3, ⟨r, w', q1, hq r w' q2, q3⟩, h4⟩
