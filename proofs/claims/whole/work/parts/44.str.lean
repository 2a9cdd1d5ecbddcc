/-! ===== strings ===== -/
theorem jS_str {G : jG} {U : State} {H : Heap} {i : Nat} (hi : i < 2) (h : jS G U H) : jStr G i U H := by
  match i, hi with
  | 0, _ => exact h.2.2.2.2.2.1
  | 1, _ => exact h.2.2.2.2.2.2
theorem J0_getSv {G : jG} {d : Nat} {own : String} {cc : ByteArray} {nL : Nat} {ret : Option FieldType} {Q : Option Value → jWd → Prop} {w : jWd} {pc pc' idx : Nat} {ls : List (Option Value)} {st : List Value} (i : Nat) (hd : decode cc pc = .ok (.getfield idx, 3)) (hw : Cond.fieldLink own idx "java/lang/String" "value" "[B" ∈ jTbl) (hi : i < 2) (hp : pc' = pc + 3) (k : J0 G (jM0 G d own cc nL ret Q) w pc' ls (.ref (1010 + i) :: st)) : J0 G (jM0 G d own cc nL ret Q) w pc ls (.ref (1002 + i) :: st) := by
  subst hp
  intro p e s m args below meth c H locs lsA Hs hC hP hD hS hl
  have hH : Hs = s.heap := hC.2.2.2.2.2.2.2.2.2.2
  subst hH
  exact vk_getf hC.1 hC.2.1 (jS_str hi hC.2.2.2.2.2.2.2.2.1).2.1 hS hC.2.2.2.2.2.1 (hC.2.2.2.2.2.2.1 _ hw) (fun _ h => h) hd (k p e s m args below meth c H locs lsA s.heap hC hP hD hS hl)
theorem J_getSv {G : jG} {d : Nat} {own : String} {cc : ByteArray} {nL : Nat} {ret : Option FieldType} {Q : Option Value → jWd → Prop} {w : jWd} {pc pc' idx : Nat} {ls : List (Option Value)} {st : List Value} (i : Nat) (hd : decode cc pc = .ok (.getfield idx, 3)) (hw : Cond.fieldLink own idx "java/lang/String" "value" "[B" ∈ jTbl) (hi : i < 2) (hp : pc' = pc + 3) (k : J G (jM G d own cc nL ret Q) w pc' ls (.ref (1010 + i) :: st)) : J G (jM G d own cc nL ret Q) w pc ls (.ref (1002 + i) :: st) := fun w2 hqw => J0_getSv i hd hw hi hp (k w2 hqw)
theorem J0_getSc {G : jG} {d : Nat} {own : String} {cc : ByteArray} {nL : Nat} {ret : Option FieldType} {Q : Option Value → jWd → Prop} {w : jWd} {pc pc' idx : Nat} {ls : List (Option Value)} {st : List Value} (i : Nat) (hd : decode cc pc = .ok (.getfield idx, 3)) (hw : Cond.fieldLink own idx "java/lang/String" "coder" "B" ∈ jTbl) (hi : i < 2) (hp : pc' = pc + 3) (k : J0 G (jM0 G d own cc nL ret Q) w pc' ls (.int 0 :: st)) : J0 G (jM0 G d own cc nL ret Q) w pc ls (.ref (1002 + i) :: st) := by
  subst hp
  intro p e s m args below meth c H locs lsA Hs hC hP hD hS hl
  have hH : Hs = s.heap := hC.2.2.2.2.2.2.2.2.2.2
  subst hH
  exact vk_getf hC.1 hC.2.1 (jS_str hi hC.2.2.2.2.2.2.2.2.1).2.2.1 hS hC.2.2.2.2.2.1 (hC.2.2.2.2.2.2.1 _ hw) (fun _ h => h) hd (k p e s m args below meth c H locs lsA s.heap hC hP hD hS hl)
theorem J_getSc {G : jG} {d : Nat} {own : String} {cc : ByteArray} {nL : Nat} {ret : Option FieldType} {Q : Option Value → jWd → Prop} {w : jWd} {pc pc' idx : Nat} {ls : List (Option Value)} {st : List Value} (i : Nat) (hd : decode cc pc = .ok (.getfield idx, 3)) (hw : Cond.fieldLink own idx "java/lang/String" "coder" "B" ∈ jTbl) (hi : i < 2) (hp : pc' = pc + 3) (k : J G (jM G d own cc nL ret Q) w pc' ls (.int 0 :: st)) : J G (jM G d own cc nL ret Q) w pc ls (.ref (1002 + i) :: st) := fun w2 hqw => J0_getSc i hd hw hi hp (k w2 hqw)
theorem J0_gets2 {G : jG} {d : Nat} {own : String} {cc : ByteArray} {nL : Nat} {ret : Option FieldType} {Q : Option Value → jWd → Prop} {w : jWd} {pc pc' idx : Nat} {ls : List (Option Value)} {st : List Value} (hd : decode cc pc = .ok (.getstatic idx, 3)) (hw : Cond.fieldLink own idx "java/lang/String" "COMPACT_STRINGS" "Z" ∈ jTbl) (hp : pc' = pc + 3) (k : J0 G (jM0 G d own cc nL ret Q) w pc' ls (.int 1 :: st)) : J0 G (jM0 G d own cc nL ret Q) w pc ls (st) := by
  subst hp
  intro p e s m args below meth c H locs lsA Hs hC hP hD hS hl
  have hH : Hs = s.heap := hC.2.2.2.2.2.2.2.2.2.2
  subst hH
  exact va_gets hC.1 hC.2.1 hC.2.2.2.2.2.2.2.2.1.2.2.2.2.1 hS hC.2.2.2.2.2.1 (hC.2.2.2.2.2.2.1 _ hw) (fun _ h => h) hd (k p e s m args below meth c H locs lsA s.heap hC hP hD hS hl)
theorem J_gets2 {G : jG} {d : Nat} {own : String} {cc : ByteArray} {nL : Nat} {ret : Option FieldType} {Q : Option Value → jWd → Prop} {w : jWd} {pc pc' idx : Nat} {ls : List (Option Value)} {st : List Value} (hd : decode cc pc = .ok (.getstatic idx, 3)) (hw : Cond.fieldLink own idx "java/lang/String" "COMPACT_STRINGS" "Z" ∈ jTbl) (hp : pc' = pc + 3) (k : J G (jM G d own cc nL ret Q) w pc' ls (.int 1 :: st)) : J G (jM G d own cc nL ret Q) w pc ls (st) := fun w2 hqw => J0_gets2 hd hw hp (k w2 hqw)
theorem J0_alenS {G : jG} {d : Nat} {own : String} {cc : ByteArray} {nL : Nat} {ret : Option FieldType} {Q : Option Value → jWd → Prop} {w : jWd} {pc pc' : Nat} {ls : List (Option Value)} {st : List Value} (i : Nat) (hd : decode cc pc = .ok (.arraylength, 1)) (hi : i < 2) (hp : pc' = pc + 1) (k : J0 G (jM0 G d own cc nL ret Q) w pc' ls (.int 3 :: st)) : J0 G (jM0 G d own cc nL ret Q) w pc ls (.ref (1010 + i) :: st) := by
  subst hp
  intro p e s m args below meth c H locs lsA Hs hC hP hD hS hl
  have hH : Hs = s.heap := hC.2.2.2.2.2.2.2.2.2.2
  subst hH
  exact va_tlen hC.1 hC.2.1 (jS_str hi hC.2.2.2.2.2.2.2.2.1).2.2.2 hS rfl hd (k p e s m args below meth c H locs lsA s.heap hC hP hD hS hl)
theorem J_alenS {G : jG} {d : Nat} {own : String} {cc : ByteArray} {nL : Nat} {ret : Option FieldType} {Q : Option Value → jWd → Prop} {w : jWd} {pc pc' : Nat} {ls : List (Option Value)} {st : List Value} (i : Nat) (hd : decode cc pc = .ok (.arraylength, 1)) (hi : i < 2) (hp : pc' = pc + 1) (k : J G (jM G d own cc nL ret Q) w pc' ls (.int 3 :: st)) : J G (jM G d own cc nL ret Q) w pc ls (.ref (1010 + i) :: st) := fun w2 hqw => J0_alenS i hd hi hp (k w2 hqw)
theorem J0_aldS {G : jG} {d : Nat} {own : String} {cc : ByteArray} {nL : Nat} {ret : Option FieldType} {Q : Option Value → jWd → Prop} {w : jWd} {pc pc' : Nat} {ls : List (Option Value)} {st : List Value} {x : Int32} (i j : Nat) (hd : decode cc pc = .ok (.baload, 1)) (hx : x = nI j) (hj : j < 3) (hi : i < 2) (hp : pc' = pc + 1) (k : J0 G (jM0 G d own cc nL ret Q) w pc' ls (.int ((jStrB i).getD j 0) :: st)) : J0 G (jM0 G d own cc nL ret Q) w pc ls (.int x :: .ref (1010 + i) :: st) := by
  subst hp
  obtain ⟨h1, h2⟩ := jin hx hj (by omega)
  intro p e s m args below meth c H locs lsA Hs hC hP hD hS hl
  have hH : Hs = s.heap := hC.2.2.2.2.2.2.2.2.2.2
  subst hH
  exact va_tb hC.1 hC.2.1 (jS_str hi hC.2.2.2.2.2.2.2.2.1).2.2.2 hS h1 (by rw [h2]; rfl) hd (k p e s m args below meth c H locs lsA s.heap hC hP hD hS hl)
theorem J_aldS {G : jG} {d : Nat} {own : String} {cc : ByteArray} {nL : Nat} {ret : Option FieldType} {Q : Option Value → jWd → Prop} {w : jWd} {pc pc' : Nat} {ls : List (Option Value)} {st : List Value} {x : Int32} (i j : Nat) (hd : decode cc pc = .ok (.baload, 1)) (hx : x = nI j) (hj : j < 3) (hi : i < 2) (hp : pc' = pc + 1) (k : J G (jM G d own cc nL ret Q) w pc' ls (.int ((jStrB i).getD j 0) :: st)) : J G (jM G d own cc nL ret Q) w pc ls (.int x :: .ref (1010 + i) :: st) := fun w2 hqw => J0_aldS i j hd hx hj hi hp (k w2 hqw)
theorem J0_bret {G : jG} {d : Nat} {own : String} {cc : ByteArray} {nL : Nat} {Q : Option Value → jWd → Prop} {w : jWd} {pc : Nat} {ls : List (Option Value)} (hd : decode cc pc = .ok (.ireturn, 1)) (h : Q (some (.int 0)) w) : J0 G (jM0 G d own cc nL (some .byte) Q) w pc ls [.int 0] := by
  intro p e s m args below meth c H locs lsA Hs hC hP hD hS hl
  have hH : Hs = s.heap := hC.2.2.2.2.2.2.2.2.2.2
  subst hH
  have hlocks : meth.locks = false := hC.2.2.2.1
  have hn : narrow .byte (.int 0) = .int 0 := rfl
  exact W.zret hC.1 hC.2.1 hC.2.2.1 hn (fun t ht hW => ⟨some (.int 0), w, rfl, h, by rw [ht]; exact hP, hD, hS.F ht⟩) hS.2.2 hd hlocks
theorem J_bret {G : jG} {d : Nat} {own : String} {cc : ByteArray} {nL : Nat} {Q : Option Value → jWd → Prop} {w : jWd} {pc : Nat} {ls : List (Option Value)} (hd : decode cc pc = .ok (.ireturn, 1)) (h : Q (some (.int 0)) w) : J G (jM G d own cc nL (some .byte) Q) w pc ls [.int 0] := fun w2 hqw => J0_bret hd ⟨w, h, hqw⟩
theorem J0_callT {G : jG} {Γ : jΓ} {w : jWd} {pc pc' : Nat} {ls : List (Option Value)} {rest : List Value} {i d idx n nL : Nat} {y : MethodName} {cc : ByteArray} {ret : Option FieldType} {Q : Option Value → jWd → Prop} (As : List Value) {st : List Value} (hst : st = As.reverse ++ .ref (1002 + i) :: rest) (hd : decode (jcc Γ) pc = .ok (.invokevirtual idx, 3)) (hk : jLkV (jown Γ) idx y n) (hcode : Cond.code y cc nL ret ∈ jTbl) (hM : jK0 G d y cc nL ret (.ref (1002 + i) :: As) w Q)
    (hi : i < 2) (hcy : y.cls = "java/lang/String") (hn : As.length = n) (hr : jroom Γ d nL) (hΓ : ∀ s args Hs, jE Γ s args Hs → Hs = s.heap) (hw : (rest.map fun v => v.category).sum ≤ 8) (hp : pc' = pc + 3)
    (kk : ∀ r w', Q r w' → J0 G Γ w' pc' ls (r.toList ++ rest)) : J0 G Γ w pc ls st := by
  subst hp hst
  intro p e s m args below meth c H locs lsA Hs hC hP hD hS hl
  have hx : CallFix p m c (jcc Γ) (jnL Γ) s args jTbl (jown Γ) := ⟨hC.1, hC.2.1, hC.2.2.2.2.1, hC.2.2.2.2.2.1, hC.2.2.2.2.2.2.1⟩
  have hpre := jPre (.ref (1002 + i) :: As) hC hP hD hS
  have hHs := hΓ _ _ _ hC.2.2.2.2.2.2.2.2.2.2
  have hS2 : va_S (jA G) s.heap H locs := hHs ▸ hS
  have hrecv := va_Orecv (jS_str hi (hHs ▸ hC.2.2.2.2.2.2.2.2.1 : jS G s s.heap)).1 hS2
  rw [← hcy] at hrecv
  have hts := hC.2.2.2.2.2.2.1
  have hmap : (As.reverse ++ .ref (1002 + i) :: rest).map (jtr G) = (As.map (jtr G)).reverse ++ .ref (jad G (1002 + i)) :: rest.map (jtr G) := by simp [List.map_reverse]; rfl
  rw [hmap]
  have hroom : 2 * (F0 m pc lsA ((As.map (jtr G)).reverse ++ .ref (jad G (1002 + i)) :: rest.map (jtr G))).monitorRoom + ((rest.map (jtr G)).map fun v => v.category).sum ≤ 8 := lv_room (by rw [jcats]; exact hw)
  have goes : ∀ hr2 : va_Run p G.1 e (jR Γ) s m args below meth c H locs (jcl Γ) (jsl Γ) 0 0 (F0 m pc lsA ((As.map (jtr G)).reverse ++ .ref (jad G (1002 + i)) :: rest.map (jtr G))) (rest.map (jtr G)) (jQ G Q (Value.ref (jad G (1002 + i)) :: As.map (jtr G)).toArray) (jA G), W p G.1 e (jR Γ) s m args below meth c H locs (jcl Γ) (jsl Γ) (jZ Γ s args below) (F0 m pc lsA ((As.map (jtr G)).reverse ++ .ref (jad G (1002 + i)) :: rest.map (jtr G))) := by
    intro hr2
    refine jBack hr2 hS (fun r w' H1 locs1 hq hP1 hD1 hS1 => ?_)
    have h := kk r w' hq p e s m args below meth c H1 locs1 lsA Hs hC hP1 hD1 hS1 hl
    rw [List.map_append] at h
    cases r <;> exact h
  rcases jCallB hC hk.1 hcode hr with cw | ⟨host, cw⟩
  · exact goes (va_runV hx hM ⟨cw, hts _ hk.2.1, hts _ hk.2.2⟩ ⟨hpre.1, hrecv, hpre.2⟩ rfl (by rw [List.length_map]; exact hn) hl.1 rfl hroom hd ⟨hr.2.1, hr.2.2⟩)
  · exact goes (va_runVN hx hM ⟨cw, hts _ hk.2.1, hts _ hk.2.2⟩ ⟨hpre.1, hrecv, hpre.2⟩ rfl (by rw [List.length_map]; exact hn) hl.1 rfl hroom hd ⟨hr.2.1, hr.2.2⟩)
theorem J_T0v {G : jG} {D : Nat} {own : String} {C0 : ByteArray} {N0 : Nat} {R0 : Option FieldType} {Q0 : Option Value → jWd → Prop} {w w1 : jWd} {pc pc' : Nat} {ls : List (Option Value)} {rest : List Value} {i d idx nL : Nat} {y : MethodName} {cc : ByteArray} {ret : Option FieldType} {v : Value}  (hd : decode C0 pc = .ok (.invokevirtual idx, 3)) (hk : jLkV own idx y 0) (hcode : Cond.code y cc nL ret ∈ jTbl) (hM : jKd G d y cc nL ret [.ref (1002 + i)] w (some v) w1) (hi : i < 2) (hcy : y.cls = "java/lang/String") (hr : jroom (jM G D own C0 N0 R0 Q0) d nL) (hw : (rest.map fun v => v.category).sum ≤ 8) (hp : pc' = pc + 3) (kk : J G (jM G D own C0 N0 R0 Q0) w1 pc' ls (v :: rest)) : J G (jM G D own C0 N0 R0 Q0) w pc ls (.ref (1002 + i) :: rest) := fun w2 hqw => J0_callT [] rfl hd hk hcode (hM w2 hqw) hi hcy rfl hr (fun _ _ _ h => h) hw hp (fun r w' hc => by obtain ⟨w3, ⟨h1, h3⟩, h2⟩ := hc; subst h1; subst h3; exact kk w' h2)
theorem J_T1v {G : jG} {D : Nat} {own : String} {C0 : ByteArray} {N0 : Nat} {R0 : Option FieldType} {Q0 : Option Value → jWd → Prop} {w w1 : jWd} {pc pc' : Nat} {ls : List (Option Value)} {rest : List Value} {i d idx nL : Nat} {y : MethodName} {cc : ByteArray} {ret : Option FieldType} {v : Value} {x1 : Value} (hd : decode C0 pc = .ok (.invokevirtual idx, 3)) (hk : jLkV own idx y 1) (hcode : Cond.code y cc nL ret ∈ jTbl) (hM : jKd G d y cc nL ret [.ref (1002 + i), x1] w (some v) w1) (hi : i < 2) (hcy : y.cls = "java/lang/String") (hr : jroom (jM G D own C0 N0 R0 Q0) d nL) (hw : (rest.map fun v => v.category).sum ≤ 8) (hp : pc' = pc + 3) (kk : J G (jM G D own C0 N0 R0 Q0) w1 pc' ls (v :: rest)) : J G (jM G D own C0 N0 R0 Q0) w pc ls (x1 :: .ref (1002 + i) :: rest) := fun w2 hqw => J0_callT [x1] rfl hd hk hcode (hM w2 hqw) hi hcy rfl hr (fun _ _ _ h => h) hw hp (fun r w' hc => by obtain ⟨w3, ⟨h1, h3⟩, h2⟩ := hc; subst h1; subst h3; exact kk w' h2)
theorem J_T2v {G : jG} {D : Nat} {own : String} {C0 : ByteArray} {N0 : Nat} {R0 : Option FieldType} {Q0 : Option Value → jWd → Prop} {w w1 : jWd} {pc pc' : Nat} {ls : List (Option Value)} {rest : List Value} {i d idx nL : Nat} {y : MethodName} {cc : ByteArray} {ret : Option FieldType} {v : Value} {x1 x2 : Value} (hd : decode C0 pc = .ok (.invokevirtual idx, 3)) (hk : jLkV own idx y 2) (hcode : Cond.code y cc nL ret ∈ jTbl) (hM : jKd G d y cc nL ret [.ref (1002 + i), x1, x2] w (some v) w1) (hi : i < 2) (hcy : y.cls = "java/lang/String") (hr : jroom (jM G D own C0 N0 R0 Q0) d nL) (hw : (rest.map fun v => v.category).sum ≤ 8) (hp : pc' = pc + 3) (kk : J G (jM G D own C0 N0 R0 Q0) w1 pc' ls (v :: rest)) : J G (jM G D own C0 N0 R0 Q0) w pc ls (x2 :: x1 :: .ref (1002 + i) :: rest) := fun w2 hqw => J0_callT [x1, x2] rfl hd hk hcode (hM w2 hqw) hi hcy rfl hr (fun _ _ _ h => h) hw hp (fun r w' hc => by obtain ⟨w3, ⟨h1, h3⟩, h2⟩ := hc; subst h1; subst h3; exact kk w' h2)
theorem lk_RJ0_633 : jLkV RJ0 633 yJ0_indexOf_7cf53 2 := ⟨⟨⟨by decide +kernel, by decide +kernel, by decide +kernel⟩, jTbl_in (k := 118) (by decide +kernel) rfl, Or.inl (jTbl_in (k := 555) (by decide +kernel) rfl)⟩, jTbl_in (k := 556) (by decide +kernel) rfl, jTbl_in (k := 557) (by decide +kernel) rfl⟩
theorem lk_RJ0_492 : jLkV RJ0 492 yJ0_isLatin1_aae02 0 := ⟨⟨⟨by decide +kernel, by decide +kernel, by decide +kernel⟩, jTbl_in (k := 118) (by decide +kernel) rfl, Or.inl (jTbl_in (k := 559) (by decide +kernel) rfl)⟩, jTbl_in (k := 560) (by decide +kernel) rfl, jTbl_in (k := 561) (by decide +kernel) rfl⟩
theorem lk_RJ0_505 : jLkV RJ0 505 yJ0_length_8abf5 0 := ⟨⟨⟨by decide +kernel, by decide +kernel, by decide +kernel⟩, jTbl_in (k := 118) (by decide +kernel) rfl, Or.inl (jTbl_in (k := 565) (by decide +kernel) rfl)⟩, jTbl_in (k := 566) (by decide +kernel) rfl, jTbl_in (k := 567) (by decide +kernel) rfl⟩
theorem lk_RJ0_335 : jLkV RJ0 335 yJ0_coder_7d493 0 := ⟨⟨⟨by decide +kernel, by decide +kernel, by decide +kernel⟩, jTbl_in (k := 118) (by decide +kernel) rfl, Or.inl (jTbl_in (k := 569) (by decide +kernel) rfl)⟩, jTbl_in (k := 570) (by decide +kernel) rfl, jTbl_in (k := 571) (by decide +kernel) rfl⟩
theorem lk_RJ0_637 : jLkS RJ0 637 yJ1_indexOf_4cfef 4 := ⟨⟨⟨by decide +kernel, by decide +kernel, by decide +kernel⟩, jTbl_in (k := 119) (by decide +kernel) rfl, Or.inl (jTbl_in (k := 573) (by decide +kernel) rfl)⟩, jTbl_in (k := 574) (by decide +kernel) rfl⟩
theorem lk_RJ1_88 : jLkS RJ1 88 yJ1_canEncode_9a6ad 1 := ⟨⟨⟨by decide +kernel, by decide +kernel, by decide +kernel⟩, jTbl_in (k := 119) (by decide +kernel) rfl, Or.inl (jTbl_in (k := 576) (by decide +kernel) rfl)⟩, jTbl_in (k := 577) (by decide +kernel) rfl⟩
theorem lk_RJ1_95 : jLkS RJ1 95 yJ1_indexOfChar_4cfef 4 := ⟨⟨⟨by decide +kernel, by decide +kernel, by decide +kernel⟩, jTbl_in (k := 119) (by decide +kernel) rfl, Or.inl (jTbl_in (k := 581) (by decide +kernel) rfl)⟩, jTbl_in (k := 582) (by decide +kernel) rfl⟩
theorem lm_RJ1_92 : Cond.methodLink RJ1 92 Lib.Math.max.name ∈ jTbl := jTbl_in (k := 579) (by decide +kernel) rfl
theorem lm_RJ1_38 : Cond.methodLink RJ1 38 Lib.Math.min.name ∈ jTbl := jTbl_in (k := 580) (by decide +kernel) rfl
theorem gs_RJ0_38 : Cond.fieldLink RJ0 38 "java/lang/String" "COMPACT_STRINGS" "Z" ∈ jTbl := jTbl_in (k := 563) (by decide +kernel) rfl
theorem fS_RJ0_9 : Cond.fieldLink RJ0 9 "java/lang/String" "value" "[B" ∈ jTbl := jTbl_in (k := 1438) (by decide +kernel) rfl
theorem fS_RJ0_15 : Cond.fieldLink RJ0 15 "java/lang/String" "coder" "B" ∈ jTbl := jTbl_in (k := 1437) (by decide +kernel) rfl
theorem cd_J0_indexOf_7cf53 : Cond.code yJ0_indexOf_7cf53 cJ0_indexOf_7cf53 3 (some .int) ∈ jTbl := jTbl_in (k := 558) (by decide +kernel) rfl
theorem cd_J0_isLatin1_aae02 : Cond.code yJ0_isLatin1_aae02 cJ0_isLatin1_aae02 1 (some .boolean) ∈ jTbl := jTbl_in (k := 562) (by decide +kernel) rfl
theorem cd_J0_length_8abf5 : Cond.code yJ0_length_8abf5 cJ0_length_8abf5 1 (some .int) ∈ jTbl := jTbl_in (k := 568) (by decide +kernel) rfl
theorem cd_J0_coder_7d493 : Cond.code yJ0_coder_7d493 cJ0_coder_7d493 1 (some .byte) ∈ jTbl := jTbl_in (k := 572) (by decide +kernel) rfl
theorem cd_J1_indexOf_4cfef : Cond.code yJ1_indexOf_4cfef cJ1_indexOf_4cfef 4 (some .int) ∈ jTbl := jTbl_in (k := 575) (by decide +kernel) rfl
theorem cd_J1_canEncode_9a6ad : Cond.code yJ1_canEncode_9a6ad cJ1_canEncode_9a6ad 1 (some .boolean) ∈ jTbl := jTbl_in (k := 578) (by decide +kernel) rfl
theorem cd_J1_indexOfChar_4cfef : Cond.code yJ1_indexOfChar_4cfef cJ1_indexOfChar_4cfef 6 (some .int) ∈ jTbl := jTbl_in (k := 583) (by decide +kernel) rfl
set_option maxHeartbeats 4000000 in
set_option maxRecDepth 100000 in
theorem k_sCoder {G : jG} {w : jWd} {i : Nat} (hSi : i < 2) : jKd G 0 yJ0_coder_7d493 cJ0_coder_7d493 1 (some .byte) [.ref (1002 + i)] w (some (.int 0)) w := by
  refine jK_of (own := "java/lang/String") [some (.ref (1002 + i))] pnString rfl (Nat.le_of_ble_eq_true rfl) rfl ?_
  refine J_gets2 (pc' := 3) dJ0_coder_7d493_0 gs_RJ0_38 rfl ?_
  refine J_if_eq 13 (pc' := 6) dJ0_coder_7d493_3 (by decide) rfl (fun h_3 => absurd h_3 (by decide)) (fun h_3 => ?_)
  refine J_aload_n (pc' := 7) dJ0_coder_7d493_6 rfl rfl ?_
  refine J_getSc i (pc' := 10) dJ0_coder_7d493_7 fS_RJ0_15 hSi rfl ?_
  refine J_goto (pc' := 0) 14 dJ0_coder_7d493_10 (by decide) ?_
  exact J_bret dJ0_coder_7d493_14  ⟨rfl, rfl⟩
set_option maxHeartbeats 4000000 in
set_option maxRecDepth 100000 in
theorem k_sLatin {G : jG} {w : jWd} {i : Nat} (hSi : i < 2) : jKd G 0 yJ0_isLatin1_aae02 cJ0_isLatin1_aae02 1 (some .boolean) [.ref (1002 + i)] w (some (.int 1)) w := by
  refine jK_of (own := "java/lang/String") [some (.ref (1002 + i))] pnString rfl (Nat.le_of_ble_eq_true rfl) rfl ?_
  refine J_gets2 (pc' := 3) dJ0_isLatin1_aae02_0 gs_RJ0_38 rfl ?_
  refine J_if_eq 17 (pc' := 6) dJ0_isLatin1_aae02_3 (by decide) rfl (fun h_3 => absurd h_3 (by decide)) (fun h_3 => ?_)
  refine J_aload_n (pc' := 7) dJ0_isLatin1_aae02_6 rfl rfl ?_
  refine J_getSc i (pc' := 10) dJ0_isLatin1_aae02_7 fS_RJ0_15 hSi rfl ?_
  refine J_if_ne 17 (pc' := 13) dJ0_isLatin1_aae02_10 (by decide) rfl (fun h_10 => absurd (by decide) h_10) (fun h_10 => ?_)
  refine J_iconst (v := 1) (pc' := 14) dJ0_isLatin1_aae02_13 (by decide) rfl ?_
  refine J_goto (pc' := 0) 18 dJ0_isLatin1_aae02_14 (by decide) ?_
  exact J_zret dJ0_isLatin1_aae02_18 (Or.inr rfl) ⟨rfl, rfl⟩
set_option maxHeartbeats 4000000 in
set_option maxRecDepth 100000 in
theorem k_sLen {G : jG} {w : jWd} {i : Nat} (hSi : i < 2) : jKd G 1 yJ0_length_8abf5 cJ0_length_8abf5 1 (some .int) [.ref (1002 + i)] w (some (.int 3)) w := by
  refine jK_of (own := "java/lang/String") [some (.ref (1002 + i))] pnString rfl (Nat.le_of_ble_eq_true rfl) rfl ?_
  refine J_aload_n (pc' := 1) dJ0_length_8abf5_0 rfl rfl ?_
  refine J_getSv i (pc' := 4) dJ0_length_8abf5_1 fS_RJ0_9 hSi rfl ?_
  refine J_alenS i (pc' := 5) dJ0_length_8abf5_4 hSi rfl ?_
  refine J_aload_n (pc' := 6) dJ0_length_8abf5_5 rfl rfl ?_
  refine J_T0v (pc' := 9) dJ0_length_8abf5_6 lk_RJ0_335 cd_J0_coder_7d493 (k_sCoder hSi) hSi rfl (jroom_of rfl) (Nat.le_of_ble_eq_true rfl) rfl ?_
  refine J_ishr (pc' := 10) dJ0_length_8abf5_9 rfl ?_
  exact J_iret dJ0_length_8abf5_10  ⟨rfl, rfl⟩
set_option maxHeartbeats 4000000 in
set_option maxRecDepth 100000 in
theorem k_sEnc {G : jG} {w : jWd} {x : Int32} (h0 : 0 ≤ x) (h1 : x ≤ 255) : jKd G 0 yJ1_canEncode_9a6ad cJ1_canEncode_9a6ad 1 (some .boolean) [.int x] w (some (.int 1)) w := by
  refine jK_of (own := "java/lang/StringLatin1") [some (.int x)] pnStringLatin1 rfl (Nat.le_of_ble_eq_true rfl) rfl ?_
  refine J_iload_n (pc' := 1) dJ1_canEncode_9a6ad_0 rfl rfl ?_
  refine J_if_lt 15 (pc' := 4) dJ1_canEncode_9a6ad_1 (by decide) rfl (fun h_1 => absurd h_1 (Int32.not_lt.mpr h0)) (fun h_1 => ?_)
  refine J_iload_n (pc' := 5) dJ1_canEncode_9a6ad_4 rfl rfl ?_
  refine J_sipush (v := 255) (pc' := 8) dJ1_canEncode_9a6ad_5 (by decide) rfl ?_
  refine J_icmp_gt 15 (pc' := 11) dJ1_canEncode_9a6ad_8 (by decide) rfl (fun h_8 => absurd h_8 (Int32.not_lt.mpr h1)) (fun h_8 => ?_)
  refine J_iconst (v := 1) (pc' := 12) dJ1_canEncode_9a6ad_11 (by decide) rfl ?_
  refine J_goto (pc' := 0) 16 dJ1_canEncode_9a6ad_12 (by decide) ?_
  exact J_zret dJ1_canEncode_9a6ad_16 (Or.inr rfl) ⟨rfl, rfl⟩
def sIx (i : Nat) (x : Int32) : Nat → Nat → Int32
  | 0, _ => -1
  | n + 1, j => if (jStrB i).getD j 0 = x then nI j else sIx i x n (j + 1)
set_option maxHeartbeats 4000000 in
set_option maxRecDepth 100000 in
theorem l_ix {G : jG} {w : jWd} {i : Nat} (hSi : i < 2) {x : Int32} : ∀ n j : Nat, j + n = 3 → J G (jM G 0 "java/lang/StringLatin1" cJ1_indexOfChar_4cfef 6 (some .int) ((fun r' w' => r' = some (.int (sIx i x.toInt8.toInt32 n j)) ∧ w' = w))) w 7 [some (.ref (1010 + i)), some (.int x), some (.int 0), some (.int 3), some (.int x.toInt8.toInt32), some (.int (nI j))] [] := by
  intro n
  induction n with
  | zero =>
    intro j hi
    refine J_iload (pc' := 9) dJ1_indexOfChar_4cfef_7 rfl rfl ?_
    refine J_iload_n (pc' := 10) dJ1_indexOfChar_4cfef_9 rfl rfl ?_
    refine J_icmp_ge 31 (pc' := 13) dJ1_indexOfChar_4cfef_10 (by decide) rfl (fun h_10 => ?_) (fun h_10 => absurd (by rw [show (3 : Int32) = nI 3 from by decide]; exact nI_le (by omega) (by omega)) h_10)
    refine J_iconst (v := -1) (pc' := 32) dJ1_indexOfChar_4cfef_31 (by decide) rfl ?_
    exact J_iret dJ1_indexOfChar_4cfef_32  ⟨rfl, rfl⟩
  | succ n ih =>
    intro j hi
    refine J_iload (pc' := 9) dJ1_indexOfChar_4cfef_7 rfl rfl ?_
    refine J_iload_n (pc' := 10) dJ1_indexOfChar_4cfef_9 rfl rfl ?_
    refine J_icmp_ge 31 (pc' := 13) dJ1_indexOfChar_4cfef_10 (by decide) rfl (fun h_10 => absurd h_10 (by rw [show (3 : Int32) = nI 3 from by decide]; exact nI_ge (by omega) (by omega))) (fun h_10 => ?_)
    refine J_aload_n (pc' := 14) dJ1_indexOfChar_4cfef_13 rfl rfl ?_
    refine J_iload (pc' := 16) dJ1_indexOfChar_4cfef_14 rfl rfl ?_
    refine J_aldS i j (pc' := 17) dJ1_indexOfChar_4cfef_16 rfl (by omega) hSi rfl ?_
    refine J_iload (pc' := 19) dJ1_indexOfChar_4cfef_17 rfl rfl ?_
    refine J_icmp_ne 25 (pc' := 22) dJ1_indexOfChar_4cfef_19 (by decide) rfl (fun h_19 => ?_) (fun h_19 => ?_)
    · refine J_iinc (pc' := 28) dJ1_indexOfChar_4cfef_25 rfl (Nat.le_of_ble_eq_true rfl) (jst5 rfl rfl) rfl ?_
      refine J_goto (pc' := 0) 7 dJ1_indexOfChar_4cfef_28 (by decide) ?_
      have h2 := ih (j + 1) (by omega)
      rw [show sIx i x.toInt8.toInt32 (n + 1) j = sIx i x.toInt8.toInt32 n (j + 1) from if_neg h_19]
      rw [← z1 j] at h2
      exact h2
    · refine J_iload (pc' := 24) dJ1_indexOfChar_4cfef_22 rfl rfl ?_
      exact J_iret dJ1_indexOfChar_4cfef_24  (by rw [show sIx i x.toInt8.toInt32 (n + 1) j = nI j from if_pos (by first | exact h_19 | exact Decidable.not_not.mp h_19)]; exact ⟨rfl, rfl⟩)
set_option maxHeartbeats 4000000 in
set_option maxRecDepth 100000 in
theorem k_sIxc {G : jG} {w : jWd} {i : Nat} (hSi : i < 2) {x : Int32} : jKd G 0 yJ1_indexOfChar_4cfef cJ1_indexOfChar_4cfef 6 (some .int) [.ref (1010 + i), .int x, .int 0, .int 3] w (some (.int (sIx i x.toInt8.toInt32 3 0))) w := by
  refine jK_of (own := "java/lang/StringLatin1") [some (.ref (1010 + i)), some (.int x), some (.int 0), some (.int 3), none, none] pnStringLatin1 rfl (Nat.le_of_ble_eq_true rfl) rfl ?_
  refine J_iload_n (pc' := 1) dJ1_indexOfChar_4cfef_0 rfl rfl ?_
  refine J_i2b (pc' := 2) dJ1_indexOfChar_4cfef_1 rfl ?_
  refine J_istore (pc' := 4) dJ1_indexOfChar_4cfef_2 (Nat.le_of_ble_eq_true rfl) (jst4 rfl rfl) rfl ?_
  refine J_iload_n (pc' := 5) dJ1_indexOfChar_4cfef_4 rfl rfl ?_
  refine J_istore (pc' := 7) dJ1_indexOfChar_4cfef_5 (Nat.le_of_ble_eq_true rfl) (jst5 rfl rfl) rfl ?_
  exact l_ix hSi 3 0 rfl
set_option maxHeartbeats 4000000 in
set_option maxRecDepth 100000 in
theorem k_sIxL {G : jG} {w : jWd} {i : Nat} (hSi : i < 2) {x : Int32} (h0 : 0 ≤ x) (h1 : x ≤ 255) : jKd G 1 yJ1_indexOf_4cfef cJ1_indexOf_4cfef 4 (some .int) [.ref (1010 + i), .int x, .int 0, .int 3] w (some (.int (sIx i x.toInt8.toInt32 3 0))) w := by
  refine jK_of (own := "java/lang/StringLatin1") [some (.ref (1010 + i)), some (.int x), some (.int 0), some (.int 3)] pnStringLatin1 rfl (Nat.le_of_ble_eq_true rfl) rfl ?_
  refine J_iload_n (pc' := 1) dJ1_indexOf_4cfef_0 rfl rfl ?_
  refine J_S1v (pc' := 4) dJ1_indexOf_4cfef_1 lk_RJ1_88 cd_J1_canEncode_9a6ad (k_sEnc h0 h1) (jroom_of rfl) (Nat.le_of_ble_eq_true rfl) rfl ?_
  refine J_if_ne 9 (pc' := 7) dJ1_indexOf_4cfef_4 (by decide) rfl (fun h_4 => ?_) (fun h_4 => absurd h_4 (by decide))
  refine J_iload_n (pc' := 10) dJ1_indexOf_4cfef_9 rfl rfl ?_
  refine J_iconst (v := 0) (pc' := 11) dJ1_indexOf_4cfef_10 (by decide) rfl ?_
  refine J_mmax (pc' := 14) dJ1_indexOf_4cfef_11 lm_RJ1_92 rfl rfl ?_
  refine J_istore_n (pc' := 15) dJ1_indexOf_4cfef_14 (Nat.le_of_ble_eq_true rfl) (jst2 rfl rfl) rfl ?_
  refine J_iload_n (pc' := 16) dJ1_indexOf_4cfef_15 rfl rfl ?_
  refine J_aload_n (pc' := 17) dJ1_indexOf_4cfef_16 rfl rfl ?_
  refine J_alenS i (pc' := 18) dJ1_indexOf_4cfef_17 hSi rfl ?_
  refine J_mmin (pc' := 21) dJ1_indexOf_4cfef_18 lm_RJ1_38 rfl rfl ?_
  refine J_istore_n (pc' := 22) dJ1_indexOf_4cfef_21 (Nat.le_of_ble_eq_true rfl) (jst3 rfl rfl) rfl ?_
  refine J_iload_n (pc' := 23) dJ1_indexOf_4cfef_22 rfl rfl ?_
  refine J_iload_n (pc' := 24) dJ1_indexOf_4cfef_23 rfl rfl ?_
  refine J_icmp_lt 29 (pc' := 27) dJ1_indexOf_4cfef_24 (by decide) rfl (fun h_24 => ?_) (fun h_24 => absurd (by decide) h_24)
  refine J_aload_n (pc' := 30) dJ1_indexOf_4cfef_29 rfl rfl ?_
  refine J_iload_n (pc' := 31) dJ1_indexOf_4cfef_30 rfl rfl ?_
  refine J_iload_n (pc' := 32) dJ1_indexOf_4cfef_31 rfl rfl ?_
  refine J_iload_n (pc' := 33) dJ1_indexOf_4cfef_32 rfl rfl ?_
  refine J_S4v (pc' := 36) dJ1_indexOf_4cfef_33 lk_RJ1_95 cd_J1_indexOfChar_4cfef (k_sIxc hSi) (jroom_of rfl) (Nat.le_of_ble_eq_true rfl) rfl ?_
  exact J_iret dJ1_indexOf_4cfef_36  ⟨rfl, rfl⟩
set_option maxHeartbeats 4000000 in
set_option maxRecDepth 100000 in
theorem k_sIx2 {G : jG} {w : jWd} {i : Nat} (hSi : i < 2) {x : Int32} (h0 : 0 ≤ x) (h1 : x ≤ 255) : jKd G 2 yJ0_indexOf_7cf53 cJ0_indexOf_7cf53 3 (some .int) [.ref (1002 + i), .int x, .int 0] w (some (.int (sIx i x.toInt8.toInt32 3 0))) w := by
  refine jK_of (own := "java/lang/String") [some (.ref (1002 + i)), some (.int x), some (.int 0)] pnString rfl (Nat.le_of_ble_eq_true rfl) rfl ?_
  refine J_aload_n (pc' := 1) dJ0_indexOf_7cf53_0 rfl rfl ?_
  refine J_T0v (pc' := 4) dJ0_indexOf_7cf53_1 lk_RJ0_492 cd_J0_isLatin1_aae02 (k_sLatin hSi) hSi rfl (jroom_of rfl) (Nat.le_of_ble_eq_true rfl) rfl ?_
  refine J_if_eq 23 (pc' := 7) dJ0_indexOf_7cf53_4 (by decide) rfl (fun h_4 => absurd h_4 (by decide)) (fun h_4 => ?_)
  refine J_aload_n (pc' := 8) dJ0_indexOf_7cf53_7 rfl rfl ?_
  refine J_getSv i (pc' := 11) dJ0_indexOf_7cf53_8 fS_RJ0_9 hSi rfl ?_
  refine J_iload_n (pc' := 12) dJ0_indexOf_7cf53_11 rfl rfl ?_
  refine J_iload_n (pc' := 13) dJ0_indexOf_7cf53_12 rfl rfl ?_
  refine J_aload_n (pc' := 14) dJ0_indexOf_7cf53_13 rfl rfl ?_
  refine J_T0v (pc' := 17) dJ0_indexOf_7cf53_14 lk_RJ0_505 cd_J0_length_8abf5 (k_sLen hSi) hSi rfl (jroom_of rfl) (Nat.le_of_ble_eq_true rfl) rfl ?_
  refine J_S4v (pc' := 20) dJ0_indexOf_7cf53_17 lk_RJ0_637 cd_J1_indexOf_4cfef (k_sIxL hSi h0 h1) (jroom_of rfl) (Nat.le_of_ble_eq_true rfl) rfl ?_
  refine J_goto (pc' := 0) 36 dJ0_indexOf_7cf53_20 (by decide) ?_
  exact J_iret dJ0_indexOf_7cf53_36  ⟨rfl, rfl⟩
set_option maxHeartbeats 4000000 in
set_option maxRecDepth 100000 in
theorem k_sIx {G : jG} {w : jWd} {i : Nat} (hSi : i < 2) {x : Int32} (h0 : 0 ≤ x) (h1 : x ≤ 255) : jKd G 3 yJ0_indexOf_0f7a4 cJ0_indexOf_0f7a4 2 (some .int) [.ref (1002 + i), .int x] w (some (.int (sIx i x.toInt8.toInt32 3 0))) w := by
  refine jK_of (own := "java/lang/String") [some (.ref (1002 + i)), some (.int x)] pnString rfl (Nat.le_of_ble_eq_true rfl) rfl ?_
  refine J_aload_n (pc' := 1) dJ0_indexOf_0f7a4_0 rfl rfl ?_
  refine J_iload_n (pc' := 2) dJ0_indexOf_0f7a4_1 rfl rfl ?_
  refine J_iconst (v := 0) (pc' := 3) dJ0_indexOf_0f7a4_2 (by decide) rfl ?_
  refine J_T2v (pc' := 6) dJ0_indexOf_0f7a4_3 lk_RJ0_633 cd_J0_indexOf_7cf53 (k_sIx2 hSi h0 h1) hSi rfl (jroom_of rfl) (Nat.le_of_ble_eq_true rfl) rfl ?_
  exact J_iret dJ0_indexOf_0f7a4_6  ⟨rfl, rfl⟩
