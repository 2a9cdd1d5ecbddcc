/-! ===== creation: worlds that grow ===== -/
/-! creation: worlds that grow -/
theorem va_AOA.moved {ty : FieldType} {u U : State} (hvm : u.vm.Alike U.vm) (h : va_AOA ty u) : va_AOA ty U := by
  unfold va_AOA Cond.before Cond.holds at h
  simp only [Cond.value, beq_iff_eq] at h
  cases hc : u.vm.findClass (FieldType.array ty).toString with
  | none => simp [hc] at h
  | some comp =>
    simp only [hc, Option.bind_some, Option.bind_eq_some_iff, Option.map_eq_some_iff] at h
    obtain ⟨c, h2, k, h3, hb⟩ := h
    obtain ⟨k', hk', he⟩ := hvm.2.2 _ _ h3
    have hi : (U.vm.classes.findIdx? fun (x : Class) => match x.kind with | .array component _ => component == comp | _ => false) = some c := by
      have e3 : U.vm.bare = u.vm.bare := by first | exact hvm.bare_eq | exact hvm.bare_eq.symm
      have e1 := va_idx_bare U.vm comp
      rw [e3] at e1
      exact e1.symm.trans ((va_idx_bare u.vm comp).trans h2)
    have hkind : k'.kind = k.kind := by rw [he]
    have f1 : U.vm.findClass (FieldType.array ty).toString = some comp := by rw [hvm.findClass]; exact hc
    have f2 : U.vm.findClass ("[" ++ (FieldType.array ty).toString) = u.vm.findClass ("[" ++ (FieldType.array ty).toString) := by rw [hvm.findClass]
    unfold va_AOA Cond.before Cond.holds
    simp only [Cond.value]
    rw [f1, Option.bind_some]
    refine (congrArg (fun o : Option Nat => (o.bind (fun c => (U.vm.classes[c]?).map fun (k : Class) => match k.kind with | .array _ t => decide (t = FieldType.array ty) && decide (U.vm.findClass ("[" ++ (FieldType.array ty).toString) = some c) | _ => false) == some true)) hi).trans ?_
    rw [f2]
    simp only [Option.bind_some, hk', Option.map_some, hkind]
    exact (congrArg (fun b : Bool => (some b == some true)) hb).trans rfl
/-- launch, class numbers, array classes, the constant texts' addresses -/
abbrev kzT : Type := Launch × va_G × (Nat → ClassId) × (Nat → Nat)
abbrev kzD (T : kzT) : va_G := T.2.1
abbrev kzA (T : kzT) : Nat → ClassId := T.2.2.1
def kzY (T : kzT) : List (ClassId × FieldType) := [(kzA T 0, .int), (kzA T 1, .long), (kzA T 2, .array .long), (kzA T 3, .array .int), (kzA T 4, .object RX4)]
/-- what is known at a state -/
def kzK (T : kzT) (U : State) : Prop := va_K (kzD T) vwCl (kzY T) U ∧ jNw U ∧ va_AOA .long U ∧ va_AOA .int U ∧ va_AO RX4 U ∧ vk_R RX0 35 "wkn" (T.2.2.2 0) U ∧ vk_R RX0 40 "stn" (T.2.2.2 1) U ∧ vk_R RX2 15 "" (T.2.2.2 2) U
theorem kzK.same {T : kzT} {u U : State} (hv : U.vm = u.vm) (h : kzK T u) : kzK T U := by
  have hA : u.vm.Alike U.vm := by rw [hv]; exact Vm.Alike.refl u.vm
  obtain ⟨h1, h2, h3, h4, h5, h6, h7, h8⟩ := h
  exact ⟨h1.moved hA, h2.same hv.symm, h3.moved hA, h4.moved hA, h5.moved hA, h6.same hv, h7.same hv, h8.same hv⟩
theorem kzK.warm {T : kzT} {s U : State} (hW : s.WarmedH U.vm) (h : kzK T s) : kzK T U := by
  obtain ⟨h1, h2, h3, h4, h5, h6, h7, h8⟩ := h
  exact ⟨h1.moved hW.alike, h2.warm hW, h3.moved hW.alike, h4.moved hW.alike, h5.moved hW.alike, h6.warm hW, h7.warm hW, h8.warm hW⟩
/-- a method: owner, code, locals, answer's type, room, what is known of the entry, the end -/
abbrev kzG : Type := String × ByteArray × Nat × Option FieldType × Room × (State → Array Value → Method → (Nat → Prop) → Prop) × (State → Array Value → List Frame → (Nat → Prop) → State → Prop)
abbrev kzo (Γ : kzG) : String := Γ.1
abbrev kzc (Γ : kzG) : ByteArray := Γ.2.1
abbrev kzn (Γ : kzG) : Nat := Γ.2.2.1
abbrev kzr (Γ : kzG) : Option FieldType := Γ.2.2.2.1
abbrev kzR (Γ : kzG) : Room := Γ.2.2.2.2.1
abbrev kzE (Γ : kzG) : State → Array Value → Method → (Nat → Prop) → Prop := Γ.2.2.2.2.2.1
abbrev kzZ (Γ : kzG) : State → Array Value → List Frame → (Nat → Prop) → State → Prop := Γ.2.2.2.2.2.2
def kzC (T : kzT) (Γ : kzG) (p : Program) (s : State) (m : MethodId) (args : Array Value) (meth : Method) (c : Code) (A : Nat → Prop) : Prop :=
  p.tables.exec = Jvm.exec ∧ c.code = kzc Γ ∧ meth.sig.returnType = kzr Γ ∧ meth.locks = false ∧ c.maxLocals = kzn Γ ∧ s.vm.findClass (kzo Γ) = some m.cls ∧ (∀ w ∈ jTbl, w.before args s = true) ∧ kzK T s ∧ (∀ q : Nat, s.heap.size ≤ q → A q) ∧ kzE Γ s args meth A
/-- from this place, with this world, cells and slots made so far -/
def KZ (T : kzT) (Γ : kzG) (ws : va_W) (cs sl pc : Nat) (ls : List (Nat × Value)) (st : List Value) : Prop :=
  ∀ (p : Program) (e : Env) (s : State) (m : MethodId) (args : Array Value) (below : List Frame) (meth : Method) (c : Code) (H : Heap) (locs : List Loc) (lsA : Array Slot) (A : Nat → Prop), kzC T Γ p s m args meth c A →
    va_P (kzD T) vwCl ws H → va_D A ws → va_S A s.heap H locs → lv_has lsA (kzn Γ) ls →
    W p T.1 e (kzR Γ) s m args below meth c H locs cs sl (kzZ Γ s args below A) (F0 m pc lsA st)
section KZR
variable {T : kzT} {Γ : kzG} {ws : va_W} {cs sl pc pc' : Nat} {ls : List (Nat × Value)} {st : List Value}
theorem KZ_aload {n : Fin 4} {x : Nat} (k0 : Nat) (hd : decode (kzc Γ) pc = .ok (.aload_n n, 1)) (hv : ls[k0]? = some ((n : Nat), .ref x)) (hp : pc' = pc + 1) (k : KZ T Γ ws cs sl pc' ls (.ref x :: st)) : KZ T Γ ws cs sl pc ls st := by
  subst hp
  intro p e s m args below meth c H locs lsA A hC hP hD hS hl
  exact lv_aload_n hC.1 hC.2.1 hd rfl (lv_at hl k0 hv) (k p e s m args below meth c H locs lsA A hC hP hD hS hl)
theorem KZ_iload {n : Fin 4} {x : Int32} (k0 : Nat) (hd : decode (kzc Γ) pc = .ok (.iload_n n, 1)) (hv : ls[k0]? = some ((n : Nat), .int x)) (hp : pc' = pc + 1) (k : KZ T Γ ws cs sl pc' ls (.int x :: st)) : KZ T Γ ws cs sl pc ls st := by
  subst hp
  intro p e s m args below meth c H locs lsA A hC hP hD hS hl
  exact lv_iload_n hC.1 hC.2.1 hd rfl (lv_at hl k0 hv) (k p e s m args below meth c H locs lsA A hC hP hD hS hl)
theorem KZ_iconst {n : Int} {v : Int32} (hd : decode (kzc Γ) pc = .ok (.iconst n, 1)) (hv : Int32.ofInt n = v) (hp : pc' = pc + 1) (k : KZ T Γ ws cs sl pc' ls (.int v :: st)) : KZ T Γ ws cs sl pc ls st := by
  subst hp
  intro p e s m args below meth c H locs lsA A hC hP hD hS hl
  exact lv_iconst hC.1 hC.2.1 hd hv (k p e s m args below meth c H locs lsA A hC hP hD hS hl)
theorem KZ_bipush {n : Int} {v : Int32} (hd : decode (kzc Γ) pc = .ok (.bipush n, 2)) (hv : (Int8.ofInt n).toInt32 = v) (hp : pc' = pc + 2) (k : KZ T Γ ws cs sl pc' ls (.int v :: st)) : KZ T Γ ws cs sl pc ls st := by
  subst hp
  intro p e s m args below meth c H locs lsA A hC hP hD hS hl
  exact lv_bipush hC.1 hC.2.1 hd hv (k p e s m args below meth c H locs lsA A hC hP hD hS hl)
theorem KZ_sipush {n : Int} {v : Int32} (hd : decode (kzc Γ) pc = .ok (.sipush n, 3)) (hv : (Int16.ofInt n).toInt32 = v) (hp : pc' = pc + 3) (k : KZ T Γ ws cs sl pc' ls (.int v :: st)) : KZ T Γ ws cs sl pc ls st := by
  subst hp
  intro p e s m args below meth c H locs lsA A hC hP hD hS hl
  exact lv_sipush hC.1 hC.2.1 hd hv (k p e s m args below meth c H locs lsA A hC hP hD hS hl)
theorem KZ_lconst {n : Fin 2} {v : Int64} (hd : decode (kzc Γ) pc = .ok (.lconst n, 1)) (hv : Int64.ofNat (n : Nat) = v) (hp : pc' = pc + 1) (k : KZ T Γ ws cs sl pc' ls (.long v :: st)) : KZ T Γ ws cs sl pc ls st := by
  subst hp
  intro p e s m args below meth c H locs lsA A hC hP hD hS hl
  exact lv_lconst hC.1 hC.2.1 hd hv (k p e s m args below meth c H locs lsA A hC hP hD hS hl)
theorem KZ_dup {v : Value} (hd : decode (kzc Γ) pc = .ok (.dup, 1)) (hv : v.category = 1) (hp : pc' = pc + 1) (k : KZ T Γ ws cs sl pc' ls (v :: v :: st)) : KZ T Γ ws cs sl pc ls (v :: st) := by
  subst hp
  intro p e s m args below meth c H locs lsA A hC hP hD hS hl
  exact lv_dup hC.1 hC.2.1 hd hv (k p e s m args below meth c H locs lsA A hC hP hD hS hl)
theorem KZ_ldc {idx j : Nat} {tx : String} (hd : decode (kzc Γ) pc = .ok (.ldc idx, 2)) (hw : ∀ s, kzK T s → vk_R (kzo Γ) idx tx (T.2.2.2 j) s) (hp : pc' = pc + 2) (k : KZ T Γ ws cs sl pc' ls (.ref (T.2.2.2 j) :: st)) : KZ T Γ ws cs sl pc ls st := by
  subst hp
  intro p e s m args below meth c H locs lsA A hC hP hD hS hl
  exact va_ldcS hC.1 hC.2.1 hC.2.2.2.2.2.1 (hw s hC.2.2.2.2.2.2.2.1) hd (k p e s m args below meth c H locs lsA A hC hP hD hS hl)
theorem KZ_oi {idx x : Nat} (hd : decode (kzc Γ) pc = .ok (.invokespecial idx, 3)) (h1 : Cond.methodLink (kzo Γ) idx Lib.objectInit ∈ jTbl) (h2 : Cond.instanceMethod Lib.objectInit ∈ jTbl) (h3 : Cond.code Lib.objectInit ⟨#[0xb1]⟩ 1 none ∈ jTbl) (hr : 1 ≤ (kzR Γ).frames ∧ 12 ≤ (kzR Γ).locals) (hp : pc' = pc + 3) (k : KZ T Γ ws cs sl pc' ls []) : KZ T Γ ws cs sl pc ls [.ref x] := by
  subst hp
  intro p e s m args below meth c H locs lsA A hC hP hD hS hl
  have hts := hC.2.2.2.2.2.2.1
  exact W.objInit hC.1 hC.2.1 hC.2.2.2.2.2.1 (hts _ h1) (hts _ h2) (hts _ h3) rfl (by rw [hC.2.2.2.2.1]; exact hl.1) rfl hd hr.1 hr.2 (W.eq (g2 := F0 m (pc + 3) lsA []) rfl (k p e s m args below meth c H locs lsA A hC hP hD hS hl))
theorem KZ_new {ci N idx cs' sl' : Nat} {C : String} {TT : u_T} (ty : Nat → FieldType) {fs : List Value} (hd : decode (kzc Γ) pc = .ok (.new idx, 3)) (hc : vwCl[ci]? = some (C, TT, N)) (hu : ∀ w ∈ u_ws C TT N, w ∈ jTbl) (hty : ∀ k, k < N → parseFieldDescriptor (TT k).2.2.1 = some (ty k)) (hcl : Cond.classLink (kzo Γ) idx C ∈ jTbl) (hinst : Cond.instantiable C N ∈ jTbl) (hini : Cond.initialized C ∈ jTbl) (hfs : ∀ j, j < N → defaultValue (ty j) = vp_V fs j) (hr : cs + 1 ≤ (kzR Γ).cells ∧ sl + N ≤ (kzR Γ).slots) (hcs : cs' = cs + 1 ∧ sl' = sl + N) (hp : pc' = pc + 3) (k : ∀ q : Nat, KZ T Γ (ws ++ [(q, .inr (ci, fs))]) cs' sl' pc' ls (.ref q :: st)) : KZ T Γ ws cs sl pc ls st := by
  obtain ⟨rfl, rfl⟩ := hcs
  subst hp
  intro p e s m args below meth c H locs lsA A hC hP hD hS hl
  have hts := hC.2.2.2.2.2.2.1
  exact va_new hC.1 hC.2.1 hts hu ty hty hC.2.2.2.2.2.1 (hts _ hcl) (hts _ hinst) (hts _ hini) hC.2.2.2.2.2.2.2.1.1 hP hD hS hC.2.2.2.2.2.2.2.2.1 hc hfs hr.1 hr.2 hd (fun q H1 hP1 hD1 hS1 => k q p e s m args below meth c H1 locs lsA A hC hP1 hD1 hS1 hl)
theorem kz_same {D : va_G} {cl : List vw_C} {tys : List (ClassId × FieldType)} {U : State} {cA c0 : ClassId} {ty : FieldType} {t0 : Nat} (hK : va_K D cl (tys ++ [(cA, ty)]) U) (h0 : tys[t0]? = some (c0, ty)) : cA = c0 := by
  have h1 := (hK.2 tys.length (cA, ty) (by simp)).2
  have h2 := (hK.2 t0 (c0, ty) (by rw [List.getElem?_append_left (List.getElem?_eq_some_iff.mp h0).1]; exact h0)).2
  have key : ∀ c, va_RA U c ty → U.vm.findClass ("[" ++ ty.toString) = some c := fun c h => by
    cases ty with
    | object C => obtain ⟨kA, comp, -, -, -, h4⟩ := h; exact h4
    | _ => exact h
  exact Option.some.inj ((key _ h1).symm.trans (key _ h2))
theorem KZ_newI {n : Int32} {N cs' sl' : Nat} (hd : decode (kzc Γ) pc = .ok (.newarray .int, 2)) (hw : Cond.arrayClass .int ∈ jTbl) (hn : n = nI N) (hN : N ≤ 1000) (hr : cs + 1 ≤ (kzR Γ).cells ∧ sl + N ≤ (kzR Γ).slots) (hcs : cs' = cs + 1 ∧ sl' = sl + N) (hp : pc' = pc + 2) (k : ∀ q : Nat, KZ T Γ (ws ++ [(q, .inl (kzA T 0, N, .inl (fun _ => 0)))]) cs' sl' pc' ls (.ref q :: st)) : KZ T Γ ws cs sl pc ls (.int n :: st) := by
  obtain ⟨rfl, rfl⟩ := hcs
  subst hp hn
  intro p e s m args below meth c H locs lsA A hC hP hD hS hl
  have hts := hC.2.2.2.2.2.2.1
  refine va_newa (atype := .int) (ty := .int) (N' := N) (a0 := (N, .inl (fun _ => 0))) hC.1 hC.2.1 (hts _ hw) rfl hC.2.2.2.2.2.2.2.1.1 hP hD hS hC.2.2.2.2.2.2.2.2.1 (fun cA => rfl) (nI_pos (by omega)) (nI_clamp (by omega)) (by show N * 4 ≤ _; omega) hr.1 hr.2 hd (fun q cA H1 hK1 hP1 hD1 hS1 => ?_)
  have e0 : cA = kzA T 0 := kz_same (t0 := 0) hK1 rfl
  subst e0
  exact k q p e s m args below meth c H1 locs lsA A hC hP1 hD1 hS1 hl
theorem KZ_newJ {n : Int32} {N cs' sl' : Nat} (hd : decode (kzc Γ) pc = .ok (.newarray .long, 2)) (hw : Cond.arrayClass .long ∈ jTbl) (hn : n = nI N) (hN : N ≤ 1000) (hr : cs + 1 ≤ (kzR Γ).cells ∧ sl + N ≤ (kzR Γ).slots) (hcs : cs' = cs + 1 ∧ sl' = sl + N) (hp : pc' = pc + 2) (k : ∀ q : Nat, KZ T Γ (ws ++ [(q, .inl (kzA T 1, N, .inr (.inl (fun _ => 0))))]) cs' sl' pc' ls (.ref q :: st)) : KZ T Γ ws cs sl pc ls (.int n :: st) := by
  obtain ⟨rfl, rfl⟩ := hcs
  subst hp hn
  intro p e s m args below meth c H locs lsA A hC hP hD hS hl
  have hts := hC.2.2.2.2.2.2.1
  refine va_newa (atype := .long) (ty := .long) (N' := N) (a0 := (N, .inr (.inl (fun _ => 0)))) hC.1 hC.2.1 (hts _ hw) rfl hC.2.2.2.2.2.2.2.1.1 hP hD hS hC.2.2.2.2.2.2.2.2.1 (fun cA => rfl) (nI_pos (by omega)) (nI_clamp (by omega)) (by show N * 8 ≤ _; omega) hr.1 hr.2 hd (fun q cA H1 hK1 hP1 hD1 hS1 => ?_)
  have e0 : cA = kzA T 1 := kz_same (t0 := 1) hK1 rfl
  subst e0
  exact k q p e s m args below meth c H1 locs lsA A hC hP1 hD1 hS1 hl
theorem KZ_newT {n : Int32} {N idx cs' sl' : Nat} (hd : decode (kzc Γ) pc = .ok (.anewarray idx, 3)) (hcl : Cond.classLink (kzo Γ) idx RX4 ∈ jTbl) (hn : n = nI N) (hN : N ≤ 1000) (hr : cs + 1 ≤ (kzR Γ).cells ∧ sl + N ≤ (kzR Γ).slots) (hcs : cs' = cs + 1 ∧ sl' = sl + N) (hp : pc' = pc + 3) (k : ∀ q : Nat, KZ T Γ (ws ++ [(q, .inl (kzA T 4, N, .inr (.inr (.inr (.inr (fun _ => none))))))]) cs' sl' pc' ls (.ref q :: st)) : KZ T Γ ws cs sl pc ls (.int n :: st) := by
  obtain ⟨rfl, rfl⟩ := hcs
  subst hp hn
  intro p e s m args below meth c H locs lsA A hC hP hD hS hl
  have hts := hC.2.2.2.2.2.2.1
  refine va_newq (N' := N) hC.1 hC.2.1 hC.2.2.2.2.2.1 (hts _ hcl) hC.2.2.2.2.2.2.2.1.2.2.2.2.1 hC.2.2.2.2.2.2.2.1.1 hP hD hS hC.2.2.2.2.2.2.2.2.1 (nI_pos (by omega)) (nI_clamp (by omega)) (by omega) hr.1 hr.2 hd (fun q cA H1 hK1 hP1 hD1 hS1 => ?_)
  have e0 : cA = kzA T 4 := kz_same (t0 := 4) hK1 rfl
  subst e0
  exact k q p e s m args below meth c H1 locs lsA A hC hP1 hD1 hS1 hl
theorem kz_pl {l : List Nat} {f : Nat → va_E} {e : va_E} : va_pl l (vr_up f l e) = l.map (fun a => (a, e)) := by
  unfold va_pl
  exact List.map_congr_left (fun a ha => by rw [vr_up_in ha])
theorem kz_row4 (r : Nat → Nat) : (fun i : Nat => if i < 4 then some (r i) else none) = fun i => ([r 0, r 1, r 2, r 3] : List Nat)[i]? := by
  funext i
  match i with
  | 0 => rfl
  | 1 => rfl
  | 2 => rfl
  | 3 => rfl
  | i + 4 => rfl
/-- four rows of K places each -/
theorem KZ_mna {k0 n0 : Int32} {K idx cs' sl' : Nat} {ty : FieldType} (t1 t2 : Nat) {z : vp_A} (hty : ty = .long ∨ ty = .int) (hd : decode (kzc Γ) pc = .ok (.multianewarray idx 2, 4)) (hcl : Cond.classLink (kzo Γ) idx ("[" ++ (FieldType.array ty).toString) ∈ jTbl) (hw : Cond.arrayClass ty ∈ jTbl) (ht1 : (kzY T)[t1]? = some (kzA T t1, ty)) (ht2 : (kzY T)[t2]? = some (kzA T t2, .array ty)) (hn : n0 = nI 4) (hk : k0 = nI K) (hK : K ≤ 1000) (hz : ∀ c : ClassId, Jvm.Free.Multi.innerC c K (defaultValue ty) = vp_cell c z) (hr : cs + (1 + 4) ≤ (kzR Γ).cells ∧ sl + (4 + 4 * K) ≤ (kzR Γ).slots) (hcs : cs' = cs + 1 + 4 ∧ sl' = sl + 4 + 4 * K) (hp : pc' = pc + 4) (k : ∀ (q : Nat) (r : Nat → Nat), KZ T Γ (ws ++ [(q, .inl (kzA T t2, 4, .inr (.inr (.inr (.inr (fun i => ([r 0, r 1, r 2, r 3] : List Nat)[i]?)))))), (r 0, .inl (kzA T t1, z)), (r 1, .inl (kzA T t1, z)), (r 2, .inl (kzA T t1, z)), (r 3, .inl (kzA T t1, z))]) cs' sl' pc' ls (.ref q :: st)) : KZ T Γ ws cs sl pc ls (.int k0 :: .int n0 :: st) := by
  obtain ⟨rfl, rfl⟩ := hcs
  subst hp hn hk
  intro p e s m args below meth c H locs lsA A hC hP hD hS hl
  have hts := hC.2.2.2.2.2.2.1
  have hKK := hC.2.2.2.2.2.2.2.1
  have hover : va_AOA ty s := by rcases hty with rfl | rfl; exact hKK.2.2.1; exact hKK.2.2.2.1
  have hcy : s.vm.findClass (FieldType.array ty).toString = some (kzA T t1) := by
    have h := (hKK.1.2 t1 _ ht1).2
    rcases hty with rfl | rfl
    · exact h
    · exact h
  have hP0 : va_P (kzD T) vwCl (ws ++ va_pl [] (fun _ => .inr (0, []))) H := by
    show va_P (kzD T) vwCl (ws ++ []) H
    rw [List.append_nil]; exact hP
  have hD0 : va_D A (ws ++ va_pl [] (fun _ => .inr (0, []))) := by
    show va_D A (ws ++ [])
    rw [List.append_nil]; exact hD
  refine va_mna (ty := ty) (N' := 4) (K' := K) (z := z) hC.1 hC.2.1 hC.2.2.2.2.2.1 (hts _ hcl) hover (hts _ hw) hcy hKK.1 hP0 hD0 hS hC.2.2.2.2.2.2.2.2.1 (nI_pos (by omega)) (nI_pos (by omega)) (nI_clamp (by omega)) (nI_clamp (by omega)) (by decide) (by rcases hty with rfl | rfl; (show K * 8 ≤ _; omega); (show K * 4 ≤ _; omega)) (by omega) (by rcases hty with rfl | rfl <;> rfl) (by rcases hty with rfl | rfl <;> rfl) hr.1 hr.2 hz hd (fun q r cA H1 _ _ hK1 hP1 hD1 hS1 => ?_)
  have e0 : cA = kzA T t2 := kz_same (t0 := t2) hK1 ht2
  subst e0
  have ew : (ws ++ [(q, Sum.inl (kzA T t2, 4, Sum.inr (Sum.inr (Sum.inr (Sum.inr (fun i => if i < 4 then some (r i) else none))))))]) ++ va_pl ([] ++ (List.range 4).map r) (vr_up (fun _ => .inr (0, [])) ((List.range 4).map r) (.inl (kzA T t1, z))) = ws ++ [(q, Sum.inl (kzA T t2, 4, Sum.inr (Sum.inr (Sum.inr (Sum.inr (fun i => ([r 0, r 1, r 2, r 3] : List Nat)[i]?)))))), (r 0, .inl (kzA T t1, z)), (r 1, .inl (kzA T t1, z)), (r 2, .inl (kzA T t1, z)), (r 3, .inl (kzA T t1, z))] := by
    rw [List.nil_append, kz_pl, kz_row4, List.append_assoc]
    rfl
  rw [ew] at hP1 hD1
  exact k q r p e s m args below meth c H1 locs lsA A hC hP1 hD1 hS1 hl
/-- a constructor writes a field of its own -/
def kzF (own : String) (idx ci k : Nat) (ty : FieldType) (fin : Bool) : Prop := ∃ (C : String) (TT : u_T) (N : Nat) (ty0 : Nat → FieldType), vwCl[ci]? = some (C, TT, N) ∧ k < N ∧ (∀ w ∈ u_ws C TT N, w ∈ jTbl) ∧ (TT k).1 = C ∧ Cond.fieldLink own idx C (TT k).2.1 (TT k).2.2.1 ∈ jTbl ∧
  (∀ k, k < N → parseFieldDescriptor (TT k).2.2.1 = some (ty0 k)) ∧ (∀ a, a < N → ∀ b, b < N → a ≠ b → (TT a).2.1 ≠ (TT b).2.1) ∧ (TT k).2.2.2 = fin ∧ parseFieldDescriptor (TT k).2.2.1 = some ty ∧ C = own
theorem KZ_put {idx ci k : Nat} {ty : FieldType} {fin : Bool} {v : Value} {fs : List Value} {a : Nat} (q0 : Nat) {ws' : va_W} (hd : decode (kzc Γ) pc = .ok (.putfield idx, 3)) (hf : kzF (kzo Γ) idx ci k ty fin) (hin : ∀ s args meth A, kzE Γ s args meth A → meth.name = "<init>") (he : ws[q0]? = some (a, .inr (ci, fs))) (hl0 : k < fs.length) (hn : narrow ty v = v) (hfit : fits ty v = true) (hw : ws.set q0 (a, .inr (ci, fs.set k v)) = ws') (hp : pc' = pc + 3) (kk : KZ T Γ ws' cs sl pc' ls st) : KZ T Γ ws cs sl pc ls (v :: .ref a :: st) := by
  subst hp hw
  intro p e s m args below meth c H locs lsA A hC hP hD hS hl
  obtain ⟨C, TT, N, ty0, h1, h2, h3, h4, h5, h6, h7, h8, h9, h10⟩ := hf
  have hts := hC.2.2.2.2.2.2.1
  have hsame : ∀ x, s.fieldFound? (TT k).1 (TT k).2.1 (TT k).2.2.1 = some x → s.fieldFound? C (TT k).2.1 (TT k).2.2.1 = some x := by rw [h4]; exact fun _ h => h
  have hk := fun (H1 : Heap) (locs1 : List Loc) hP1 hD1 hS1 => kk p e s m args below meth c H1 locs1 lsA A hC hP1 hD1 hS1 hl
  cases fin with
  | true => exact va_putF hC.1 hC.2.1 hts h3 ty0 h6 h7 hC.2.2.2.2.2.1 hC.2.2.2.2.2.2.2.1.1 hP hD hS q0 he h1 k h2 (hts _ h5) hsame h8 (hin s args meth A hC.2.2.2.2.2.2.2.2.2) (h4.trans h10) h9 hn hfit hl0 hd hk
  | false => exact va_put hC.1 hC.2.1 hts h3 ty0 h6 h7 hC.2.2.2.2.2.1 hC.2.2.2.2.2.2.2.1.1 hP hD hS q0 he h1 k h2 (hts _ h5) hsame h8 h9 hn hfit hl0 hd hk
theorem KZ_get {idx ci k : Nat} {v : Value} {fs : List Value} {a : Nat} (q0 : Nat) (hd : decode (kzc Γ) pc = .ok (.getfield idx, 3)) (hf : jFl (kzo Γ) idx ci k) (he : ws[q0]? = some (a, .inr (ci, fs))) (hv : fs[k]? = some v) (hp : pc' = pc + 3) (kk : KZ T Γ ws cs sl pc' ls (v :: st)) : KZ T Γ ws cs sl pc ls (.ref a :: st) := by
  subst hp
  intro p e s m args below meth c H locs lsA A hC hP hD hS hl
  obtain ⟨C, TT, N, h1, h2, h3, h4, h5⟩ := hf
  have hts := hC.2.2.2.2.2.2.1
  have hsame : ∀ x, s.fieldFound? (TT k).1 (TT k).2.1 (TT k).2.2.1 = some x → s.fieldFound? C (TT k).2.1 (TT k).2.2.1 = some x := by rw [h4]; exact fun _ h => h
  have hk := kk p e s m args below meth c H locs lsA A hC hP hD hS hl
  rcases h5 with h5 | ⟨host, h5⟩
  · exact va_get hC.1 hC.2.1 hts h3 hC.2.2.2.2.2.1 hC.2.2.2.2.2.2.2.1.1 hP q0 he h1 k h2 (hts _ h5) hsame hv hd hk
  · exact va_getN hC.1 hC.2.1 hts h3 hC.2.2.2.2.2.1 hC.2.2.2.2.2.2.2.1.1 hP q0 he h1 k h2 (va_Nw.use rfl (hC.2.2.2.2.2.2.2.1.2.1 _ h5)) hsame hv hd hk
theorem KZ_iast {i x : Int32} {a n : Nat} {f : Nat → Int32} (q0 j : Nat) {ws' : va_W} (hd : decode (kzc Γ) pc = .ok (.iastore, 1)) (he : ws[q0]? = some (a, .inl (kzA T 0, n, .inl f))) (hi : i = nI j) (hj : j < n) (hn : n ≤ 1000) (hw : ws.set q0 (a, .inl (kzA T 0, n, .inl (upd f j x))) = ws') (hp : pc' = pc + 1) (kk : KZ T Γ ws' cs sl pc' ls st) : KZ T Γ ws cs sl pc ls (.int x :: .int i :: .ref a :: st) := by
  subst hp hw
  obtain ⟨h1, h2⟩ := jin hi hj (by omega)
  intro p e s m args below meth c H locs lsA A hC hP hD hS hl
  refine va_iast hC.1 hC.2.1 hC.2.2.2.2.2.2.2.1.1 hP hD hS q0 0 he rfl h1 hd (fun H1 locs1 hP1 hD1 hS1 => ?_)
  rw [h2] at hP1 hD1
  exact kk p e s m args below meth c H1 locs1 lsA A hC hP1 hD1 hS1 hl
/-- a text is laid into an array of texts -/
theorem KZ_ast {i : Int32} {a n v : Nat} {f : Nat → Option Nat} {vs : List Value} (q0 qk j : Nat) {ws' : va_W} (hd : decode (kzc Γ) pc = .ok (.aastore, 1)) (he : ws[q0]? = some (a, .inl (kzA T 4, n, .inr (.inr (.inr (.inr f)))))) (hv : ws[qk]? = some (v, .inr (4, vs))) (hi : i = nI j) (hj : j < n) (hn : n ≤ 1000) (hw : ws.set q0 (a, .inl (kzA T 4, n, .inr (.inr (.inr (.inr (va_up f j (some v))))))) = ws') (hp : pc' = pc + 1) (kk : KZ T Γ ws' cs sl pc' ls st) : KZ T Γ ws cs sl pc ls (.ref v :: .int i :: .ref a :: st) := by
  subst hp hw
  obtain ⟨h1, h2⟩ := jin hi hj (by omega)
  intro p e s m args below meth c H locs lsA A hC hP hD hS hl
  refine va_astq hC.1 hC.2.1 hC.2.2.2.2.2.2.2.1.1 hP hD hS q0 4 qk 4 he rfl hv rfl h1 hd (fun H1 locs1 hP1 hD1 hS1 => ?_)
  rw [h2] at hP1 hD1
  exact kk p e s m args below meth c H1 locs1 lsA A hC hP1 hD1 hS1 hl
end KZR
/-- a constructor's contract: its object is new, what it makes lies behind it -/
def kzM (T : kzT) (d : Nat) (y : MethodName) (cc : ByteArray) (nL h0 ci : Nat) (fs as : List Value) (mc ms : Nat) (post : (Nat → Nat) → va_W) : Prop :=
  ∀ sz : Nat, Met T.1 y (Cond.code y cc nL none :: jTbl) ({ frames := d, cells := mc, slots := ms, locals := 40 * d } : Room) (va_Pc (.ref h0 :: as) (fun U => U.heap.size = sz ∧ va_P (kzD T) vwCl [(h0, .inr (ci, fs))] U.heap ∧ va_D (fun _ => True) [(h0, .inr (ci, fs))] ∧ kzK T U))
    (va_Qv (fun _ : Nat → Nat => True) (fun q t => va_P (kzD T) vwCl (post q) t.heap ∧ va_D (va_A [(h0, .inr (ci, fs))] sz) (post q)) (va_A [(h0, .inr (ci, fs))] sz)) mc ms (va_A [(h0, .inr (ci, fs))] sz)
abbrev kzMG (T : kzT) (own : String) (cc : ByteArray) (nL d mc ms : Nat) (ws0 : va_W) (post : (Nat → Nat) → va_W) : kzG :=
  (own, cc, nL, none, { frames := d, cells := mc, slots := ms, locals := 40 * d }, fun s _ meth A => A = va_A ws0 s.heap.size ∧ meth.name = "<init>", fun s args below A => MQ below (va_Qv (fun _ : Nat → Nat => True) (fun q t => va_P (kzD T) vwCl (post q) t.heap ∧ va_D A (post q)) A) args s mc ms A)
theorem kzM_of {T : kzT} {d : Nat} {y : MethodName} {own : String} {cc : ByteArray} {nL h0 ci : Nat} {fs as : List Value} {mc ms : Nat} {post : (Nat → Nat) → va_W} (hy : plainName y.cls = true) (ho : y.cls = own) (hi : y.name = "<init>") (hn : (lg_sl (.ref h0 :: as)).length ≤ nL)
    (body : KZ T (kzMG T own cc nL d mc ms [(h0, .inr (ci, fs))] post) [(h0, .inr (ci, fs))] 0 0 0 (lv_args 0 (.ref h0 :: as)) []) : kzM T d y cc nL h0 ci fs as mc ms post := by
  intro sz
  refine Met.ofW (cc := cc) (maxL := nL) (ret := none) hy rfl ?_
  intro p e s m args' below meth c s₁ B hml hv
  obtain ⟨rfl, hsz, hP, hD, hK⟩ := hv
  have hts := atoms_spec (ws := Cond.code y cc nL none :: jTbl) B.pre
  have hown : s.vm.findClass own = some m.cls := ho ▸ findClass_of_methodNamed B.named
  have hin : meth.name = "<init>" := (name_of_methodNamed B.named B.method).1.trans hi
  subst hsz
  have hl0 := lv_entry (.ref h0 :: as) (n := nL) hn
  rw [lg_entry_eq]
  exact body p e s m _ below meth c s.heap [] _ (va_A [(h0, .inr (ci, fs))] s.heap.size) ⟨B.exec, B.bytes, B.returns, B.notSynchronized, hml, hown, fun w hw => hts w (List.mem_cons_of_mem _ hw), hK, fun q h => Or.inr h, rfl, hin⟩ hP hD.self va_S.rf hl0
theorem KZ_vret {T : kzT} {own : String} {cc : ByteArray} {nL d mc ms : Nat} {ws0 ws : va_W} {post : (Nat → Nat) → va_W} {pc : Nat} {ls : List (Nat × Value)} (q : Nat → Nat) (hd : decode cc pc = .ok (.return_, 1)) (hq : post q = ws) : KZ T (kzMG T own cc nL d mc ms ws0 post) ws mc ms pc ls [] := by
  subst hq
  intro p e s m args below meth c H locs lsA A hC hP hD hS hl
  have hlocks : meth.locks = false := hC.2.2.2.1
  exact W.vret hC.1 hC.2.1 hC.2.2.1 (fun t ht hW => ⟨⟨q, rfl, trivial, by rw [ht]; exact hP, hD⟩, hS.F ht⟩) hS.2.2 hd hlocks
theorem kz_R (wr : va_W) (x : Nat × va_E) : (List.range wr.length).map (fun i => (wr ++ [x])[i]?) = wr.map some := by
  apply List.ext_getElem?
  intro j
  rw [List.getElem?_map, List.getElem?_map]
  by_cases h : j < wr.length
  · rw [List.getElem?_range h, Option.map_some, List.getElem?_append_left h, List.getElem?_eq_getElem h]; rfl
  · rw [List.getElem?_eq_none (by rw [List.length_range]; omega), List.getElem?_eq_none (by omega)]; rfl
theorem kz_I (wr : va_W) (x : Nat × va_E) : [wr.length].map (fun i => (wr ++ [x])[i]?) = [x].map some := by
  simp
/-- what a constructor's call site links -/
def kzL (own : String) (idx : Nat) (y : MethodName) (n : Nat) : Prop := jLk own idx y n ∧ Cond.instanceMethod y ∈ jTbl ∧ y.name = "<init>"
theorem KZ_call {T : kzT} {Γ : kzG} {wr : va_W} {cs sl cs' sl' pc pc' : Nat} {ls : List (Nat × Value)} {rest : List Value} {d idx n nL h0 ci : Nat} {y : MethodName} {cc : ByteArray} {fs : List Value} {mc ms : Nat} {post : (Nat → Nat) → va_W} (As : List Value) {st : List Value} (hst : st = As.reverse ++ .ref h0 :: rest) (hd : decode (kzc Γ) pc = .ok (.invokespecial idx, 3)) (hk : kzL (kzo Γ) idx y n) (hcode : Cond.code y cc nL none ∈ jTbl) (hM : kzM T d y cc nL h0 ci fs As mc ms post) (hn : As.length = n) (hnd : va_nd (List.range wr.length) = true) (hr : d + 1 ≤ (kzR Γ).frames ∧ 8 + (nL + 11) + 40 * d ≤ (kzR Γ).locals) (hf : cs + mc ≤ (kzR Γ).cells ∧ sl + ms ≤ (kzR Γ).slots) (hw : (rest.map fun v => v.category).sum ≤ 8) (hcs : cs' = cs + mc ∧ sl' = sl + ms) (hp : pc' = pc + 3) (kk : ∀ q : Nat → Nat, KZ T Γ (wr ++ post q) cs' sl' pc' ls rest) : KZ T Γ (wr ++ [(h0, .inr (ci, fs))]) cs sl pc ls st := by
  obtain ⟨rfl, rfl⟩ := hcs
  subst hp hst
  intro p e s m args below meth c H locs lsA A hC hP hD hS hl
  have hts := hC.2.2.2.2.2.2.1
  have hKK := hC.2.2.2.2.2.2.2.1
  have hx : CallFix p m c (kzc Γ) (kzn Γ) s args jTbl (kzo Γ) := ⟨hC.1, hC.2.1, hC.2.2.2.2.1, hC.2.2.2.2.2.1, hts⟩
  obtain ⟨⟨h1, h2, h3⟩, hin, hname⟩ := hk
  have hPc := hP.sub (ws' := [(h0, .inr (ci, fs))]) [wr.length] (by simp)
  have hDc := hD.sub (ws' := [(h0, .inr (ci, fs))]) [wr.length] (by simp [va_nd]) (kz_I wr _)
  have hFc := va_free (wc := [(h0, .inr (ci, fs))]) hD hS hC.2.2.2.2.2.2.2.2.1 [wr.length] (kz_I wr _)
  have hpre : PreS s H (va_Pc (.ref h0 :: As) (fun U => U.heap.size = H.size ∧ va_P (kzD T) vwCl [(h0, .inr (ci, fs))] U.heap ∧ va_D (fun _ => True) [(h0, .inr (ci, fs))] ∧ kzK T U)) (.ref h0 :: As) := by
    refine ⟨fun a U g mk q => ?_, fun U hU hW => ?_⟩
    · obtain ⟨q0, q1, q2, q3, q4⟩ := q
      exact ⟨q0, q1, q2, q3, q4.same (u := U) (U := U.calling g mk a) rfl⟩
    · exact ⟨rfl, by rw [hU], by rw [hU]; exact hPc, hDc.weaken (fun _ _ _ _ => trivial), hKK.warm hW⟩
  have goes : ∀ hr2 : va_Run p T.1 e (kzR Γ) s m args below meth c H locs cs sl mc ms (F0 m pc lsA (As.reverse ++ .ref h0 :: rest)) rest (va_Qv (fun _ : Nat → Nat => True) (fun q t => va_P (kzD T) vwCl (post q) t.heap ∧ va_D (va_A [(h0, .inr (ci, fs))] H.size) (post q)) (va_A [(h0, .inr (ci, fs))] H.size) (Value.ref h0 :: As).toArray) (va_A [(h0, .inr (ci, fs))] H.size), W p T.1 e (kzR Γ) s m args below meth c H locs cs sl (kzZ Γ s args below A) (F0 m pc lsA (As.reverse ++ .ref h0 :: rest)) := by
    intro hr2
    refine va_callv hr2 hS (fun q _ h => hFc q h) hFc (fun u t H1 locs1 ht hvm hw2 hB hz1 hk1 hS1 => ?_)
    obtain ⟨hP1, hD1⟩ := hB
    rw [ht] at hP1
    obtain ⟨hP2, hD2⟩ := va_join (wr := wr) (w1 := post u) hP hD [wr.length] (List.range wr.length) (kz_I wr _) (kz_R wr _) hnd (fun i hi => by have := List.mem_range.mp hi; simp; omega) hk1 hFc hP1 hD1
    exact kk u p e s m args below meth c H1 locs1 lsA A hC hP2 hD2 hS1 hl
  have hroom : 2 * (F0 m pc lsA (As.reverse ++ .ref h0 :: rest)).monitorRoom + (rest.map fun v => v.category).sum ≤ 8 := lv_room hw
  rcases h3 with h3 | ⟨host, h3⟩
  · exact goes (va_runI hx (hM H.size) ⟨callB_of n hts (jGood hcode) rfl rfl rfl (hts _ h2) (hts _ h3) h1 hr, hname, hts _ hin⟩ hpre rfl hn hl.1 rfl hroom hd hf)
  · exact goes (va_runIN hx (hM H.size) ⟨va_cnB n hts (jGood hcode) rfl rfl rfl (hKK.2.1 _ h3) (hts _ h2) h1 hr, hname, hts _ hin⟩ hpre rfl hn hl.1 rfl hroom hd hf)
