/-! ===== the law: its walk over both ===== -/
/-! THE CLAIM OUT OF ONE WALK OF THE LAW'S BODY. Your part is whole_start (and what it stands on); all else here is the same for every law, but numbers. -/
def R_law : String := "PictureBlockLaw"
def lw_P (b : Addr) (xs : List Int32) (args : Array Value) (s : State) : Prop := args = #[.ref b] ∧ s.IntsAt b xs ∧ xs.length ≤ 3072 ∧ (Jvm.Cond.and given_1 narrow_1).before args s = true
def lw_Q (_ : Array Value) (s : State) (o : Outcome) (t : State) : Prop := o = .returned (some (.int 1)) ∧ Framed s o t [] 600000 7302250
def lw_Z (below : List Frame) (a : Array Value) (s : State) : State → Prop := fun t => ∃ o, t.status = .running ∧ Ended t below o ∧ lw_Q a s o t
/-- the law's own end, with 1 on the stack, nothing written that was there before, its room as the claim has it -/
theorem lw_ret {p : Program} {l : Launch} {e : Env} {s : State} {m : MethodId} {below : List Frame} {meth : Method} {c : Code} {b : Nat} (hx : p.tables.exec = Jvm.exec) (hb : c.code = code) (hr : meth.sig.returnType = ret) (hlocks : meth.locks = false) {pc : Nat} {H : Heap} {ls : Array Slot} (hdg : decode code pc = .ok (.ireturn, 1)) : W p l e room_1 s m #[Value.ref b] below meth c H [] 600000 7302250 (lw_Z below #[Value.ref b] s) (F0 m pc ls [.int 1]) := by
  intro T hT X
  obtain ⟨fs, hret, hrun, hended, hW, hframe⟩ := X.leave (v := some (.int 1)) (hlocks := hlocks) (fun h => by rw [hr] at h; cases h)
  have hmeth' : T.vm.method? m = some meth := X.method'
  refine ⟨T.setFrames fs, ?_, .returned (some (.int 1)), hrun, hended, rfl, ⟨_, rfl⟩, hW, hframe⟩
  jvm_step X.here [X.here.top, hx, hb, hdg, hmeth', hr, ret, narrow_b1]
  (try refine ⟨rfl, ?_⟩); (try refine ⟨rfl, ?_⟩)
  first | (intro acts; rw [hret _ acts rfl rfl rfl]) | rw [hret _ _ rfl rfl rfl]
  exact Steps.refl _
/-- what holds at the law's entry: the machine, the code, the tables' words (any of lw_tbl by 'hts w (by decide +kernel)'), the script of L ints xs at the cell b, what the Statement gives of the start (any of its parts by flat_of_before) -/
def lw_At (p : Program) (s : State) (m : MethodId) (meth : Method) (c : Code) (b L : Nat) (xs : Nat → Int32) : Prop :=
  p.tables.exec = Jvm.exec ∧ c.code = code ∧ meth.sig.returnType = ret ∧ c.maxLocals = 4 ∧ s.vm.findClass R_law = some m.cls ∧ (∀ w ∈ lw_tbl, w.before #[Value.ref b] s = true) ∧ va_X b L xs s s.heap ∧ b < s.heap.size ∧ meth.locks = false ∧ (Jvm.Cond.and given_1 narrow_1).before #[Value.ref b] s = true
/-! the law's walk over both sides' world -/
/-- what is known at the law's loop: the script at b, both sides' cells are new ones -/
abbrev lwG (G : jG) (b L : Nat) (xs : Nat → Int32) : jΓ :=
  (RL, cL_law, 4, ret, room_1, 600000, 7302250, fun s args Hs => args = #[Value.ref b] ∧ va_X b L xs s Hs ∧ b < Hs.size ∧ ¬ jA G b ∧ ∀ i, i < 84 → s.heap.size ≤ jad G i, fun s _ below => lw_Z below #[Value.ref b] s)
abbrev lwL (i : Nat) : List (Option Value) := [some (.ref 1020), some (.ref 0), some (.ref 68), some (.int (nI i))]
theorem J_wret {G : jG} {b L : Nat} {xs : Nat → Int32} {w : jWd} {pc : Nat} {ls : List (Option Value)} (hd : decode cL_law pc = .ok (.ireturn, 1)) : J G (lwG G b L xs) w pc ls [.int 1] := by
  intro w2 _ p e s m args below meth c H locs lsA Hs hC hP hD hS hl
  obtain ⟨hx, hb, hr, hlocks, -, -, -, -, -, -, hE⟩ := hC
  obtain ⟨rfl, -, -, -, hfr⟩ := hE
  refine va_forget (fun q hq => ?_) (lw_ret hx hb hr hlocks hd)
  obtain ⟨i, hi, e⟩ := hS.2.2 q hq
  rw [e]
  exact hfr i hi
theorem J_sld {G : jG} {b L : Nat} {xs : Nat → Int32} {w : jWd} {pc pc' : Nat} {ls : List (Option Value)} {st : List Value} {i : Int32} (j : Nat) (hd : decode cL_law pc = .ok (.iaload, 1)) (hb : jad G 1020 = b) (hL : L ≤ 3072) (hi : i = nI j) (hj : j < L) (hp : pc' = pc + 1) (k : J G (lwG G b L xs) w pc' ls (.int (xs j) :: st)) : J G (lwG G b L xs) w pc ls (.int i :: .ref 1020 :: st) := by
  subst hp hi
  intro w2 hw p e s m args below meth c H locs lsA Hs hC hP hD hS hl
  have hk := k w2 hw p e s m args below meth c H locs lsA Hs hC hP hD hS hl
  obtain ⟨-, hX, hbl, hbA, -⟩ := hC.2.2.2.2.2.2.2.2.2.2
  rw [show (Value.int (nI j) :: Value.ref 1020 :: st).map (jtr G) = .int (nI j) :: .ref b :: st.map (jtr G) from by rw [List.map_cons, List.map_cons, ← hb]; rfl]
  refine va_sld hC.1 hC.2.1 hX hbl hbA hS (vp_in_nI hj (by omega)) hd ?_
  rw [nI_clamp (by omega)]
  exact hk
theorem J_slen {G : jG} {b L : Nat} {xs : Nat → Int32} {w : jWd} {pc pc' : Nat} {ls : List (Option Value)} {st : List Value} (hd : decode cL_law pc = .ok (.arraylength, 1)) (hb : jad G 1020 = b) (hp : pc' = pc + 1) (k : J G (lwG G b L xs) w pc' ls (.int (nI L) :: st)) : J G (lwG G b L xs) w pc ls (.ref 1020 :: st) := by
  subst hp
  intro w2 hw p e s m args below meth c H locs lsA Hs hC hP hD hS hl
  have hk := k w2 hw p e s m args below meth c H locs lsA Hs hC hP hD hS hl
  obtain ⟨-, hX, hbl, hbA, -⟩ := hC.2.2.2.2.2.2.2.2.2.2
  rw [show (Value.ref 1020 :: st).map (jtr G) = .ref b :: st.map (jtr G) from by rw [List.map_cons, ← hb]; rfl]
  exact va_slen hC.1 hC.2.1 hX hbl hbA hS hd hk
/-- one number of the script -/
theorem J_arg {G : jG} {b L : Nat} {xs : Nat → Int32} {w : jWd} {pc : Nat} {i : Nat} {st : List Value} (j : Nat) {v : Int32} {n : Int} (hv : v = nI j) (hn : Int32.ofInt n = v) (hb : jad G 1020 = b) (hL : L ≤ 3072) (hj : i + j < L) (h1 : decode cL_law pc = .ok (.aload_n 0, 1)) (h2 : decode cL_law (pc + 1) = .ok (.iload_n 3, 1)) (h3 : decode cL_law (pc + 2) = .ok (.iconst n, 1)) (h4 : decode cL_law (pc + 3) = .ok (.iadd, 1)) (h5 : decode cL_law (pc + 4) = .ok (.iaload, 1)) (k : J G (lwG G b L xs) w (pc + 5) (lwL i) (.int (xs (i + j)) :: st)) : J G (lwG G b L xs) w pc (lwL i) st := by
  refine J_aload_n (pc' := pc + 1) h1 rfl rfl ?_
  refine J_iload_n (pc' := pc + 2) h2 rfl rfl ?_
  refine J_iconst (v := v) (pc' := pc + 3) h3 hn rfl ?_
  refine J_iadd (pc' := pc + 4) h4 rfl ?_
  exact J_sld (i + j) (pc' := pc + 5) h5 hb hL (jadd rfl hv) hj rfl k
theorem lw_room {G : jG} {b L : Nat} {xs : Nat → Int32} {d nL : Nat} (hd : d ≤ 100) (hn : nL ≤ 100) : jroom (lwG G b L xs) d nL := ⟨⟨by show d + 1 ≤ 2048; omega, by show 8 + (nL + 11) + 40 * d ≤ 84000; omega⟩, Nat.le_refl _, Nat.le_refl _⟩
/-- both sides stand alike -/
def lwR (w : jWd) : Prop := abX w 1 = abM (w.1 69) ∧ restX w = restM w ∧ XInv w ∧ MInv w ∧ Gd (abX w 1) (abX w 16) (abM (w.1 70)) (restX w)
theorem lwR_mid {w w1 : jWd} {q : sg × sg × sg} (hR : lwR w) (h1 : BQ w w1 q) : w1.1 69 = w.1 69 ∧ w1.1 70 = w.1 70 ∧ restM w1 = restM w ∧ MInv w1 := by
  have e69 := (h1.2.2.2.2 69 (by omega)).1
  have e70 := (h1.2.2.2.2 70 (by omega)).1
  exact ⟨e69, e70, restM_congr (fun a q1 _ _ _ => (h1.2.2.2.2 a q1).1), by rw [e69]; exact hR.2.2.2.1.1, by rw [e70]; exact hR.2.2.2.1.2⟩
theorem lwR_end {α : Type} {w w1 w2 : jWd} {q q2 : α × sg × sg × sg} (hG : Gq q q2) (h1 : BQ w w1 q.2) (h2 : RQ w1 w2 q2.2) : lwR w2 := by
  obtain ⟨a1, a2, a3, a4, -⟩ := h1
  obtain ⟨b1, b2, b3, b4, b5⟩ := h2
  obtain ⟨-, g2, g3, g4⟩ := hG
  have x1 : abX w2 1 = abX w1 1 := abX_congr (fun a _ q => (b5 a (by omega)).1)
  have x2 : abX w2 16 = abX w1 16 := abX_congr (fun a _ q => (b5 a (by omega)).1)
  have x3 : restX w2 = restX w1 := restX_congr (fun a q => (b5 a (by omega)).1)
  refine ⟨by rw [x1, a1, b1]; exact g2, by rw [x3, a3, b3]; exact g3, ⟨xB_congr (fun a _ q => (b5 a (by omega)).1) a4.1, xB_congr (fun a _ q => (b5 a (by omega)).1) a4.2.1, xB_congr (fun a _ q => (b5 a (by omega)).1) a4.2.2⟩, b4, ?_⟩
  rw [x1, a1, x2, a2, x3, a3, b2]
  exact g4
theorem lg_cmp_0 {x y : Int64} (h : x = y) : lg_cmp x y = 0 := by
  subst h
  unfold lg_cmp
  rw [if_neg (Int64.lt_irrefl), if_pos rfl]
