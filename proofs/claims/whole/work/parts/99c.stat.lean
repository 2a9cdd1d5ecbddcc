/-! ===== what the Statement gives of the start ===== -/
/-! what the Statement gives of the start -/
/-- the static rows, the constant texts -/
def lwS (SA : Nat → Nat) (A : Nat → Prop) (s : State) (H : Heap) : Prop := va_Z "PictureBlock" "ABOVE" "[I" (.ref (SA 1000)) A s H ∧ va_T .int (SA 1000) 7 jAbv A s H ∧ va_Z "PictureBlock$Voices" "BODIES" "[I" (.ref (SA 1001)) A s H ∧ va_T .int (SA 1001) 28 jBod A s H ∧ va_Z "java/lang/String" "COMPACT_STRINGS" "Z" (.int 1) A s H ∧
  ∀ i, i < 2 → va_O "java/lang/String" (SA (1002 + i)) A s H ∧ va_OF "java/lang/String" "value" "[B" (.ref (SA (1010 + i))) (SA (1002 + i)) A s H ∧ va_OF "java/lang/String" "coder" "B" (.int 0) (SA (1002 + i)) A s H ∧ va_T .byte (SA (1010 + i)) 3 (fun k => .int ((jStrB i).getD k 0)) A s H
def lwTm (i : Nat) : Term := match i with
  | 0 => (.string "PictureBlock$Block" 35)
  | 1 => (.string "PictureBlock$Block" 40)
  | _ => (.string "PictureBlock$Reader" 15)
def lwLn : List Nat := [3, 3, 0]
def lwBy : List (List Int32) := [[119, 107, 110], [115, 116, 110], []]
set_option maxHeartbeats 4000000 in
set_option maxRecDepth 100000 in
theorem lw_stat {b : Nat} {s : State} (hgv : (Jvm.Cond.and given_1 narrow_1).before #[Value.ref b] s = true) (hts : ∀ w ∈ lw_tbl, w.before #[Value.ref b] s = true) {A : Nat → Prop} (hA : ∀ a : Nat, a < s.heap.size → ¬ A a) : ∃ SA : Nat → Nat, lwS SA A s s.heap ∧ ∀ i, i < 3 → (lwTm i).eval #[Value.ref b] s none [] s = some (.ref (SA (1002 + i))) := by
  have hs := flat_of_before _ hgv
  obtain ⟨t0, ev0, hT0⟩ := va_Tof (tm := .static "PictureBlock" "ABOVE" "[I") (N := 7) (f := jAbv) (A := A) (by decide) (hs (.arrayOf (.static "PictureBlock" "ABOVE" "[I") .int) (by decide +kernel)) (va_eqt (hs (.eq (.length (.static "PictureBlock" "ABOVE" "[I")) (.int 7)) (by decide +kernel))) (fun j hj => match j, hj with
    | 0, _ => va_eqt (hs (.eq (.elem (.static "PictureBlock" "ABOVE" "[I") (.int 0)) (.int (-1))) (by decide +kernel))
    | 1, _ => va_eqt (hs (.eq (.elem (.static "PictureBlock" "ABOVE" "[I") (.int 1)) (.int 0)) (by decide +kernel))
    | 2, _ => va_eqt (hs (.eq (.elem (.static "PictureBlock" "ABOVE" "[I") (.int 2)) (.int 0)) (by decide +kernel))
    | 3, _ => va_eqt (hs (.eq (.elem (.static "PictureBlock" "ABOVE" "[I") (.int 3)) (.int 0)) (by decide +kernel))
    | 4, _ => va_eqt (hs (.eq (.elem (.static "PictureBlock" "ABOVE" "[I") (.int 4)) (.int 1)) (by decide +kernel))
    | 5, _ => va_eqt (hs (.eq (.elem (.static "PictureBlock" "ABOVE" "[I") (.int 5)) (.int 2)) (by decide +kernel))
    | 6, _ => va_eqt (hs (.eq (.elem (.static "PictureBlock" "ABOVE" "[I") (.int 6)) (.int 0)) (by decide +kernel))
    | j + 7, h => absurd h (by omega)) hA
  obtain ⟨t1, ev1, hT1⟩ := va_Tof (tm := .static "PictureBlock$Voices" "BODIES" "[I") (N := 28) (f := jBod) (A := A) (by decide) (hs (.arrayOf (.static "PictureBlock$Voices" "BODIES" "[I") .int) (by decide +kernel)) (va_eqt (hs (.eq (.length (.static "PictureBlock$Voices" "BODIES" "[I")) (.int 28)) (by decide +kernel))) (fun j hj => match j, hj with
    | 0, _ => va_eqt (hs (.eq (.elem (.static "PictureBlock$Voices" "BODIES" "[I") (.int 0)) (.int 10)) (by decide +kernel))
    | 1, _ => va_eqt (hs (.eq (.elem (.static "PictureBlock$Voices" "BODIES" "[I") (.int 1)) (.int 11)) (by decide +kernel))
    | 2, _ => va_eqt (hs (.eq (.elem (.static "PictureBlock$Voices" "BODIES" "[I") (.int 2)) (.int 12)) (by decide +kernel))
    | 3, _ => va_eqt (hs (.eq (.elem (.static "PictureBlock$Voices" "BODIES" "[I") (.int 3)) (.int 13)) (by decide +kernel))
    | 4, _ => va_eqt (hs (.eq (.elem (.static "PictureBlock$Voices" "BODIES" "[I") (.int 4)) (.int 20)) (by decide +kernel))
    | 5, _ => va_eqt (hs (.eq (.elem (.static "PictureBlock$Voices" "BODIES" "[I") (.int 5)) (.int 11)) (by decide +kernel))
    | 6, _ => va_eqt (hs (.eq (.elem (.static "PictureBlock$Voices" "BODIES" "[I") (.int 6)) (.int 12)) (by decide +kernel))
    | 7, _ => va_eqt (hs (.eq (.elem (.static "PictureBlock$Voices" "BODIES" "[I") (.int 7)) (.int 21)) (by decide +kernel))
    | 8, _ => va_eqt (hs (.eq (.elem (.static "PictureBlock$Voices" "BODIES" "[I") (.int 8)) (.int 10)) (by decide +kernel))
    | 9, _ => va_eqt (hs (.eq (.elem (.static "PictureBlock$Voices" "BODIES" "[I") (.int 9)) (.int 30)) (by decide +kernel))
    | 10, _ => va_eqt (hs (.eq (.elem (.static "PictureBlock$Voices" "BODIES" "[I") (.int 10)) (.int 12)) (by decide +kernel))
    | 11, _ => va_eqt (hs (.eq (.elem (.static "PictureBlock$Voices" "BODIES" "[I") (.int 11)) (.int 13)) (by decide +kernel))
    | 12, _ => va_eqt (hs (.eq (.elem (.static "PictureBlock$Voices" "BODIES" "[I") (.int 12)) (.int 10)) (by decide +kernel))
    | 13, _ => va_eqt (hs (.eq (.elem (.static "PictureBlock$Voices" "BODIES" "[I") (.int 13)) (.int 11)) (by decide +kernel))
    | 14, _ => va_eqt (hs (.eq (.elem (.static "PictureBlock$Voices" "BODIES" "[I") (.int 14)) (.int 40)) (by decide +kernel))
    | 15, _ => va_eqt (hs (.eq (.elem (.static "PictureBlock$Voices" "BODIES" "[I") (.int 15)) (.int 13)) (by decide +kernel))
    | 16, _ => va_eqt (hs (.eq (.elem (.static "PictureBlock$Voices" "BODIES" "[I") (.int 16)) (.int 50)) (by decide +kernel))
    | 17, _ => va_eqt (hs (.eq (.elem (.static "PictureBlock$Voices" "BODIES" "[I") (.int 17)) (.int 11)) (by decide +kernel))
    | 18, _ => va_eqt (hs (.eq (.elem (.static "PictureBlock$Voices" "BODIES" "[I") (.int 18)) (.int 51)) (by decide +kernel))
    | 19, _ => va_eqt (hs (.eq (.elem (.static "PictureBlock$Voices" "BODIES" "[I") (.int 19)) (.int 21)) (by decide +kernel))
    | 20, _ => va_eqt (hs (.eq (.elem (.static "PictureBlock$Voices" "BODIES" "[I") (.int 20)) (.int 10)) (by decide +kernel))
    | 21, _ => va_eqt (hs (.eq (.elem (.static "PictureBlock$Voices" "BODIES" "[I") (.int 21)) (.int 60)) (by decide +kernel))
    | 22, _ => va_eqt (hs (.eq (.elem (.static "PictureBlock$Voices" "BODIES" "[I") (.int 22)) (.int 12)) (by decide +kernel))
    | 23, _ => va_eqt (hs (.eq (.elem (.static "PictureBlock$Voices" "BODIES" "[I") (.int 23)) (.int 13)) (by decide +kernel))
    | 24, _ => va_eqt (hs (.eq (.elem (.static "PictureBlock$Voices" "BODIES" "[I") (.int 24)) (.int 70)) (by decide +kernel))
    | 25, _ => va_eqt (hs (.eq (.elem (.static "PictureBlock$Voices" "BODIES" "[I") (.int 25)) (.int 71)) (by decide +kernel))
    | 26, _ => va_eqt (hs (.eq (.elem (.static "PictureBlock$Voices" "BODIES" "[I") (.int 26)) (.int 12)) (by decide +kernel))
    | 27, _ => va_eqt (hs (.eq (.elem (.static "PictureBlock$Voices" "BODIES" "[I") (.int 27)) (.int 13)) (by decide +kernel))
    | j + 28, h => absurd h (by omega)) hA
  have hZ0 := va_Zof (A := A) (hts _ (List.mem_of_getElem? (i := 473) (by decide +kernel))) (hts _ (List.mem_of_getElem? (i := 109) (by decide +kernel))) ev0 hA
  have hZ1 := va_Zof (A := A) (hts _ (List.mem_of_getElem? (i := 858) (by decide +kernel))) (hts _ (List.mem_of_getElem? (i := 114) (by decide +kernel))) ev1 hA
  have hZ2 := va_Zof (C := "java/lang/String") (n := "COMPACT_STRINGS") (d := "Z") (A := A) (hts _ (List.mem_of_getElem? (i := 564) (by decide +kernel))) (hts _ (List.mem_of_getElem? (i := 118) (by decide +kernel))) (va_eqt (hs (.eq (.static "java/lang/String" "COMPACT_STRINGS" "Z") (.int 1)) (by decide +kernel))) hA
  obtain ⟨adK, adV, ⟨hK, hne⟩, hev⟩ := vk_Sof (args := #[Value.ref b]) (s := s) (N := 3) (tm := lwTm) (len := lwLn) (byt := lwBy) (A := A)
    (fun i hi => match i, hi with
    | 0, _ => by decide
    | 1, _ => by decide
    | 2, _ => by decide
    | i + 3, h => absurd h (by omega))
    (fun i hi => match i, hi with
    | 0, _ => hs (.exactly (.string "PictureBlock$Block" 35) "java/lang/String") (by decide +kernel)
    | 1, _ => hs (.exactly (.string "PictureBlock$Block" 40) "java/lang/String") (by decide +kernel)
    | 2, _ => hs (.exactly (.string "PictureBlock$Reader" 15) "java/lang/String") (by decide +kernel)
    | i + 3, h => absurd h (by omega))
    (fun i hi => match i, hi with
    | 0, _ => hs (.eq (.field (.string "PictureBlock$Block" 35) "java/lang/String" "coder" "B") (.int 0)) (by decide +kernel)
    | 1, _ => hs (.eq (.field (.string "PictureBlock$Block" 40) "java/lang/String" "coder" "B") (.int 0)) (by decide +kernel)
    | 2, _ => hs (.eq (.field (.string "PictureBlock$Reader" 15) "java/lang/String" "coder" "B") (.int 0)) (by decide +kernel)
    | i + 3, h => absurd h (by omega))
    (fun i hi => match i, hi with
    | 0, _ => hs (.arrayOf (.field (.string "PictureBlock$Block" 35) "java/lang/String" "value" "[B") .byte) (by decide +kernel)
    | 1, _ => hs (.arrayOf (.field (.string "PictureBlock$Block" 40) "java/lang/String" "value" "[B") .byte) (by decide +kernel)
    | 2, _ => hs (.arrayOf (.field (.string "PictureBlock$Reader" 15) "java/lang/String" "value" "[B") .byte) (by decide +kernel)
    | i + 3, h => absurd h (by omega))
    (fun i hi => match i, hi with
    | 0, _ => hs (.eq (.length (.field (.string "PictureBlock$Block" 35) "java/lang/String" "value" "[B")) (.int 3)) (by decide +kernel)
    | 1, _ => hs (.eq (.length (.field (.string "PictureBlock$Block" 40) "java/lang/String" "value" "[B")) (.int 3)) (by decide +kernel)
    | 2, _ => hs (.eq (.length (.field (.string "PictureBlock$Reader" 15) "java/lang/String" "value" "[B")) (.int 0)) (by decide +kernel)
    | i + 3, h => absurd h (by omega))
    (fun i hi j hj => match i, hi, j, hj with
    | 0, _, 0, _ => hs (.eq (.elem (.field (.string "PictureBlock$Block" 35) "java/lang/String" "value" "[B") (.int 0)) (.int 119)) (by decide +kernel)
    | 0, _, 1, _ => hs (.eq (.elem (.field (.string "PictureBlock$Block" 35) "java/lang/String" "value" "[B") (.int 1)) (.int 107)) (by decide +kernel)
    | 0, _, 2, _ => hs (.eq (.elem (.field (.string "PictureBlock$Block" 35) "java/lang/String" "value" "[B") (.int 2)) (.int 110)) (by decide +kernel)
    | 1, _, 0, _ => hs (.eq (.elem (.field (.string "PictureBlock$Block" 40) "java/lang/String" "value" "[B") (.int 0)) (.int 115)) (by decide +kernel)
    | 1, _, 1, _ => hs (.eq (.elem (.field (.string "PictureBlock$Block" 40) "java/lang/String" "value" "[B") (.int 1)) (.int 116)) (by decide +kernel)
    | 1, _, 2, _ => hs (.eq (.elem (.field (.string "PictureBlock$Block" 40) "java/lang/String" "value" "[B") (.int 2)) (.int 110)) (by decide +kernel)
    | 0, _, j + 3, h => absurd h (by show ¬ j + 3 < 3; omega)
    | 1, _, j + 3, h => absurd h (by show ¬ j + 3 < 3; omega)
    | 2, _, j, h => absurd h (by show ¬ j < 0; omega)
    | i + 3, h, _, _ => absurd h (by omega))
    (fun i j hi hj hij => match i, hi, j, hj, hij with
    | 0, _, 1, _, _ => Or.inl (hs (.not (.eq (.string "PictureBlock$Block" 35) (.string "PictureBlock$Block" 40))) (by decide +kernel))
    | 1, _, 0, _, _ => Or.inr (hs (.not (.eq (.string "PictureBlock$Block" 35) (.string "PictureBlock$Block" 40))) (by decide +kernel))
    | 0, _, 2, _, _ => Or.inl (hs (.not (.eq (.string "PictureBlock$Block" 35) (.string "PictureBlock$Reader" 15))) (by decide +kernel))
    | 2, _, 0, _, _ => Or.inr (hs (.not (.eq (.string "PictureBlock$Block" 35) (.string "PictureBlock$Reader" 15))) (by decide +kernel))
    | 1, _, 2, _, _ => Or.inl (hs (.not (.eq (.string "PictureBlock$Block" 40) (.string "PictureBlock$Reader" 15))) (by decide +kernel))
    | 2, _, 1, _, _ => Or.inr (hs (.not (.eq (.string "PictureBlock$Block" 40) (.string "PictureBlock$Reader" 15))) (by decide +kernel))
    | 0, _, 0, _, h => absurd rfl h
    | 1, _, 1, _, h => absurd rfl h
    | 2, _, 2, _, h => absurd rfl h
    | i + 3, h, _, _, _ => absurd h (by omega)
    | 0, _, j + 3, h, _ => absurd h (by omega)
    | 1, _, j + 3, h, _ => absurd h (by omega)
    | 2, _, j + 3, h, _ => absurd h (by omega)) hA
  refine ⟨fun k => if k = 1000 then t0 else if k = 1001 then t1 else if k < 1010 then adK (k - 1002) else adV (k - 1010), ⟨hZ0, hT0, hZ1, hT1, hZ2, fun i hi => ?_⟩, fun i hi => ?_⟩
  · obtain rfl | rfl : i = 0 ∨ i = 1 := by omega
    · obtain ⟨k1, k2, k3, k4⟩ := hK 0 (by omega)
      exact ⟨k1, k3, k2, k4⟩
    · obtain ⟨k1, k2, k3, k4⟩ := hK 1 (by omega)
      exact ⟨k1, k3, k2, k4⟩
  · have e := hev i hi
    obtain rfl | rfl | rfl : i = 0 ∨ i = 1 ∨ i = 2 := by omega
    · exact e
    · exact e
    · exact e
set_option maxHeartbeats 4000000 in
set_option maxRecDepth 100000 in
theorem lw_kz (l : Launch) {b : Nat} {s : State} (hts : ∀ w ∈ lw_tbl, w.before #[Value.ref b] s = true) {SA : Nat → Nat} (hev : ∀ i, i < 3 → (lwTm i).eval #[Value.ref b] s none [] s = some (.ref (SA (1002 + i)))) : ∃ (D : va_G) (cA : Nat → ClassId), kzK (l, D, cA, fun j => SA (1002 + j)) s := by
  have hj : ∀ w ∈ jTbl, w.before #[Value.ref b] s = true := fun w hw => hts w (List.mem_filter.mp hw).1
  obtain ⟨c0, iS0, hKn0⟩ := u_known (C := RX0) (T := TX0) (N := 17) (n := 17) hj ju0 (hj _ kz_i0)
  obtain ⟨c1, iS1, hKn1⟩ := u_known (C := RX1) (T := TX1) (N := 5) (n := 5) hj ju1 (hj _ kz_i1)
  obtain ⟨c2, iS2, hKn2⟩ := u_known (C := RX2) (T := TX2) (N := 6) (n := 6) hj ju2 (hj _ kz_i2)
  obtain ⟨c3, iS3, hKn3⟩ := u_known (C := RX3) (T := TX3) (N := 3) (n := 3) hj ju3 (hj _ kz_i3)
  obtain ⟨c4, iS4, hKn4⟩ := u_known (C := RX4) (T := TX4) (N := 6) (n := 6) hj ju4 (hj _ kz_i4)
  obtain ⟨c5, iS5, hKn5⟩ := u_known (C := RX5) (T := TX5) (N := 6) (n := 6) hj ju5 (hj _ kz_i5)
  obtain ⟨c6, iS6, hKn6⟩ := u_known (C := RX6) (T := TX6) (N := 9) (n := 9) hj ju6 (hj _ kz_i6)
  obtain ⟨c7, iS7, hKn7⟩ := u_known (C := RX7) (T := TX7) (N := 24) (n := 24) hj ju7 (hj _ kz_i7)
  obtain ⟨dC, dI, hKc⟩ : ∃ (dC : Nat → ClassId) (dI : Nat → Nat → Nat), ∀ (k : Nat) (q : vw_C), vwCl[k]? = some q → u_Kn s q.1 q.2.1 q.2.2 (dC k) (dI k) := by
    refine ⟨fun k => ([c0, c1, c2, c3, c4, c5, c6, c7] : List ClassId).getD k 0, fun k => ([iS0, iS1, iS2, iS3, iS4, iS5, iS6, iS7] : List (Nat → Nat)).getD k (fun _ => 0), fun k q hq => ?_⟩
    match k, hq with
    | 0, hq => cases hq; exact hKn0
    | 1, hq => cases hq; exact hKn1
    | 2, hq => cases hq; exact hKn2
    | 3, hq => cases hq; exact hKn3
    | 4, hq => cases hq; exact hKn4
    | 5, hq => cases hq; exact hKn5
    | 6, hq => cases hq; exact hKn6
    | 7, hq => cases hq; exact hKn7
    | k + 8, hq => simp [vwCl] at hq
  obtain ⟨a0, k0, p0, f0, g0, h0⟩ := Cond.arrayClass_spec (hj _ kz_aint)
  obtain ⟨a1, k1, p1, f1, g1, h1⟩ := Cond.arrayClass_spec (hj _ kz_along)
  have hoL : (Cond.arrayOver (.array .long)).before #[Value.ref b] s = true := hts _ (List.mem_of_getElem? (i := 284) (by decide +kernel))
  have hoI : (Cond.arrayOver (.array .int)).before #[Value.ref b] s = true := hts _ (List.mem_of_getElem? (i := 339) (by decide +kernel))
  have hoT : (Cond.arrayOver (.object RX4)).before #[Value.ref b] s = true := hts _ (List.mem_of_getElem? (i := 140) (by decide +kernel))
  obtain ⟨p2, a2, k2, -, g2, h2, f2⟩ := Cond.arrayOver_specA hoL
  obtain ⟨p3, a3, k3, -, g3, h3, f3⟩ := Cond.arrayOver_specA hoI
  obtain ⟨p4, a4, k4, e4, -, g4, h4, f4⟩ := Cond.arrayOver_spec hoT
  refine ⟨(dC, dI), fun i => ([a0, a1, a2, a3, a4] : List ClassId).getD i 0, ⟨hKc, fun k q hq => ?_⟩, fun w hw => ?_, hoL, hoI, hoT, vk_R.of (hts _ (List.mem_of_getElem? (i := 142) (by decide +kernel))) (hev 0 (by omega)), vk_R.of (hts _ (List.mem_of_getElem? (i := 171) (by decide +kernel))) (hev 1 (by omega)), vk_R.of (hts _ (List.mem_of_getElem? (i := 255) (by decide +kernel))) (hev 2 (by omega))⟩
  · match k, hq with
    | 0, hq => cases hq; exact ⟨fun n z => ⟨fun k h => (by cases h), k0, g0, p0, h0⟩, f0⟩
    | 1, hq => cases hq; exact ⟨fun n z => ⟨fun k h => (by cases h), k1, g1, p1, h1⟩, f1⟩
    | 2, hq => cases hq; exact ⟨fun n z => ⟨fun k h => (by cases h), k2, g2, p2, h2⟩, f2⟩
    | 3, hq => cases hq; exact ⟨fun n z => ⟨fun k h => (by cases h), k3, g3, p3, h3⟩, f3⟩
    | 4, hq => cases hq; exact ⟨fun n z => ⟨fun k h => (by cases h), k4, g4, p4, h4⟩, k4, p4, g4, h4, e4, f4⟩
    | k + 5, hq => simp [kzY] at hq
  · have h1 := (List.mem_filter.mp hw)
    have h2 := hts w h1.1
    have h3 := h1.2
    cases w <;> first | exact va_Nw.of rfl h2 | (simp [jNestW] at h3)
