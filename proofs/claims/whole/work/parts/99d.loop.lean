/-! ===== the law: its loop, its start ===== -/
/-! the law's loop, its start -/
set_option maxHeartbeats 4000000 in
set_option maxRecDepth 100000 in
theorem lw_sw {G : jG} {b L : Nat} {xs : Nat → Int32} (hb : jad G 1020 = b) (hL : L ≤ 3072) {i : Nat} (hi : i + 6 ≤ L) (hK : ∀ w, lwR w → J G (lwG G b L xs) w 1418 (lwL i) []) {w : jWd} (hR : lwR w) : J G (lwG G b L xs) w 27 (lwL i) [] := by
  refine J_aload_n (pc' := 28) dL_law_27 rfl rfl ?_
  refine J_iload_n (pc' := 29) dL_law_28 rfl rfl ?_
  refine J_sld i (pc' := 30) dL_law_29 hb hL rfl (by omega) rfl ?_
  refine J_bipush (v := 63) (pc' := 32) dL_law_30 (by decide) rfl ?_
  refine J_iand (pc' := 33) dL_law_32 rfl ?_
  by_cases e0 : xs i &&& 63 = 0
  · refine J_tabIn (pc' := 0) (off := 179) 212 dL_law_33 (by rw [e0]; decide) (by rw [e0]; decide) (by rw [e0]; decide) (by decide) ?_
    exact lw_c0 hb hL hi hK hR
  by_cases e1 : xs i &&& 63 = 1
  · refine J_tabIn (pc' := 0) (off := 232) 265 dL_law_33 (by rw [e1]; decide) (by rw [e1]; decide) (by rw [e1]; decide) (by decide) ?_
    exact lw_c1 hb hL hi hK hR
  by_cases e2 : xs i &&& 63 = 2
  · refine J_tabIn (pc' := 0) (off := 265) 298 dL_law_33 (by rw [e2]; decide) (by rw [e2]; decide) (by rw [e2]; decide) (by decide) ?_
    exact lw_c2 hb hL hi hK hR
  by_cases e3 : xs i &&& 63 = 3
  · refine J_tabIn (pc' := 0) (off := 298) 331 dL_law_33 (by rw [e3]; decide) (by rw [e3]; decide) (by rw [e3]; decide) (by decide) ?_
    exact lw_c3 hb hL hi hK hR
  by_cases e4 : xs i &&& 63 = 4
  · refine J_tabIn (pc' := 0) (off := 331) 364 dL_law_33 (by rw [e4]; decide) (by rw [e4]; decide) (by rw [e4]; decide) (by decide) ?_
    exact lw_c4 hb hL hi hK hR
  by_cases e5 : xs i &&& 63 = 5
  · refine J_tabIn (pc' := 0) (off := 364) 397 dL_law_33 (by rw [e5]; decide) (by rw [e5]; decide) (by rw [e5]; decide) (by decide) ?_
    exact lw_c5 hb hL hi hK hR
  by_cases e6 : xs i &&& 63 = 6
  · refine J_tabIn (pc' := 0) (off := 397) 430 dL_law_33 (by rw [e6]; decide) (by rw [e6]; decide) (by rw [e6]; decide) (by decide) ?_
    exact lw_c6 hb hL hi hK hR
  by_cases e7 : xs i &&& 63 = 7
  · refine J_tabIn (pc' := 0) (off := 420) 453 dL_law_33 (by rw [e7]; decide) (by rw [e7]; decide) (by rw [e7]; decide) (by decide) ?_
    exact lw_c7 hb hL hi hK hR
  by_cases e8 : xs i &&& 63 = 8
  · refine J_tabIn (pc' := 0) (off := 443) 476 dL_law_33 (by rw [e8]; decide) (by rw [e8]; decide) (by rw [e8]; decide) (by decide) ?_
    exact lw_c8 hb hL hi hK hR
  by_cases e9 : xs i &&& 63 = 9
  · refine J_tabIn (pc' := 0) (off := 506) 539 dL_law_33 (by rw [e9]; decide) (by rw [e9]; decide) (by rw [e9]; decide) (by decide) ?_
    exact lw_c9 hb hL hi hK hR
  by_cases e10 : xs i &&& 63 = 10
  · refine J_tabIn (pc' := 0) (off := 529) 562 dL_law_33 (by rw [e10]; decide) (by rw [e10]; decide) (by rw [e10]; decide) (by decide) ?_
    exact lw_c10 hb hL hi hK hR
  by_cases e11 : xs i &&& 63 = 11
  · refine J_tabIn (pc' := 0) (off := 552) 585 dL_law_33 (by rw [e11]; decide) (by rw [e11]; decide) (by rw [e11]; decide) (by decide) ?_
    exact lw_c11 hb hL hi hK hR
  by_cases e12 : xs i &&& 63 = 12
  · refine J_tabIn (pc' := 0) (off := 605) 638 dL_law_33 (by rw [e12]; decide) (by rw [e12]; decide) (by rw [e12]; decide) (by decide) ?_
    exact lw_c12 hb hL hi hK hR
  by_cases e13 : xs i &&& 63 = 13
  · refine J_tabIn (pc' := 0) (off := 628) 661 dL_law_33 (by rw [e13]; decide) (by rw [e13]; decide) (by rw [e13]; decide) (by decide) ?_
    exact lw_c13 hb hL hi hK hR
  by_cases e14 : xs i &&& 63 = 14
  · refine J_tabIn (pc' := 0) (off := 651) 684 dL_law_33 (by rw [e14]; decide) (by rw [e14]; decide) (by rw [e14]; decide) (by decide) ?_
    exact lw_c14 hb hL hi hK hR
  by_cases e15 : xs i &&& 63 = 15
  · refine J_tabIn (pc' := 0) (off := 674) 707 dL_law_33 (by rw [e15]; decide) (by rw [e15]; decide) (by rw [e15]; decide) (by decide) ?_
    exact lw_c15 hb hL hi hK hR
  by_cases e16 : xs i &&& 63 = 16
  · refine J_tabIn (pc' := 0) (off := 697) 730 dL_law_33 (by rw [e16]; decide) (by rw [e16]; decide) (by rw [e16]; decide) (by decide) ?_
    exact lw_c16 hb hL hi hK hR
  by_cases e17 : xs i &&& 63 = 17
  · refine J_tabIn (pc' := 0) (off := 731) 764 dL_law_33 (by rw [e17]; decide) (by rw [e17]; decide) (by rw [e17]; decide) (by decide) ?_
    exact lw_c17 hb hL hi hK hR
  by_cases e18 : xs i &&& 63 = 18
  · refine J_tabIn (pc' := 0) (off := 765) 798 dL_law_33 (by rw [e18]; decide) (by rw [e18]; decide) (by rw [e18]; decide) (by decide) ?_
    exact lw_c18 hb hL hi hK hR
  by_cases e19 : xs i &&& 63 = 19
  · refine J_tabIn (pc' := 0) (off := 789) 822 dL_law_33 (by rw [e19]; decide) (by rw [e19]; decide) (by rw [e19]; decide) (by decide) ?_
    exact lw_c19 hb hL hi hK hR
  by_cases e20 : xs i &&& 63 = 20
  · refine J_tabIn (pc' := 0) (off := 802) 835 dL_law_33 (by rw [e20]; decide) (by rw [e20]; decide) (by rw [e20]; decide) (by decide) ?_
    exact lw_c20 hb hL hi hK hR
  by_cases e21 : xs i &&& 63 = 21
  · refine J_tabIn (pc' := 0) (off := 815) 848 dL_law_33 (by rw [e21]; decide) (by rw [e21]; decide) (by rw [e21]; decide) (by decide) ?_
    exact lw_c21 hb hL hi hK hR
  by_cases e22 : xs i &&& 63 = 22
  · refine J_tabIn (pc' := 0) (off := 828) 861 dL_law_33 (by rw [e22]; decide) (by rw [e22]; decide) (by rw [e22]; decide) (by decide) ?_
    exact lw_c22 hb hL hi hK hR
  by_cases e23 : xs i &&& 63 = 23
  · refine J_tabIn (pc' := 0) (off := 861) 894 dL_law_33 (by rw [e23]; decide) (by rw [e23]; decide) (by rw [e23]; decide) (by decide) ?_
    exact lw_c23 hb hL hi hK hR
  by_cases e24 : xs i &&& 63 = 24
  · refine J_tabIn (pc' := 0) (off := 884) 917 dL_law_33 (by rw [e24]; decide) (by rw [e24]; decide) (by rw [e24]; decide) (by decide) ?_
    exact lw_c24 hb hL hi hK hR
  by_cases e25 : xs i &&& 63 = 25
  · refine J_tabIn (pc' := 0) (off := 907) 940 dL_law_33 (by rw [e25]; decide) (by rw [e25]; decide) (by rw [e25]; decide) (by decide) ?_
    exact lw_c25 hb hL hi hK hR
  by_cases e26 : xs i &&& 63 = 26
  · refine J_tabIn (pc' := 0) (off := 930) 963 dL_law_33 (by rw [e26]; decide) (by rw [e26]; decide) (by rw [e26]; decide) (by decide) ?_
    exact lw_c26 hb hL hi hK hR
  by_cases e27 : xs i &&& 63 = 27
  · refine J_tabIn (pc' := 0) (off := 973) 1006 dL_law_33 (by rw [e27]; decide) (by rw [e27]; decide) (by rw [e27]; decide) (by decide) ?_
    exact lw_c27 hb hL hi hK hR
  by_cases e28 : xs i &&& 63 = 28
  · refine J_tabIn (pc' := 0) (off := 1016) 1049 dL_law_33 (by rw [e28]; decide) (by rw [e28]; decide) (by rw [e28]; decide) (by decide) ?_
    exact lw_c28 hb hL hi hK hR
  by_cases e29 : xs i &&& 63 = 29
  · refine J_tabIn (pc' := 0) (off := 1059) 1092 dL_law_33 (by rw [e29]; decide) (by rw [e29]; decide) (by rw [e29]; decide) (by decide) ?_
    exact lw_c29 hb hL hi hK hR
  by_cases e30 : xs i &&& 63 = 30
  · refine J_tabIn (pc' := 0) (off := 1082) 1115 dL_law_33 (by rw [e30]; decide) (by rw [e30]; decide) (by rw [e30]; decide) (by decide) ?_
    exact lw_c30 hb hL hi hK hR
  by_cases e31 : xs i &&& 63 = 31
  · refine J_tabIn (pc' := 0) (off := 1125) 1158 dL_law_33 (by rw [e31]; decide) (by rw [e31]; decide) (by rw [e31]; decide) (by decide) ?_
    exact lw_c31 hb hL hi hK hR
  by_cases e32 : xs i &&& 63 = 32
  · refine J_tabIn (pc' := 0) (off := 1168) 1201 dL_law_33 (by rw [e32]; decide) (by rw [e32]; decide) (by rw [e32]; decide) (by decide) ?_
    exact lw_c32 hb hL hi hK hR
  by_cases e33 : xs i &&& 63 = 33
  · refine J_tabIn (pc' := 0) (off := 1231) 1264 dL_law_33 (by rw [e33]; decide) (by rw [e33]; decide) (by rw [e33]; decide) (by decide) ?_
    exact lw_c33 hb hL hi hK hR
  by_cases e34 : xs i &&& 63 = 34
  · refine J_tabIn (pc' := 0) (off := 1254) 1287 dL_law_33 (by rw [e34]; decide) (by rw [e34]; decide) (by rw [e34]; decide) (by decide) ?_
    exact lw_c34 hb hL hi hK hR
  by_cases e35 : xs i &&& 63 = 35
  · refine J_tabIn (pc' := 0) (off := 1277) 1310 dL_law_33 (by rw [e35]; decide) (by rw [e35]; decide) (by rw [e35]; decide) (by decide) ?_
    exact lw_c35 hb hL hi hK hR
  by_cases e36 : xs i &&& 63 = 36
  · refine J_tabIn (pc' := 0) (off := 1290) 1323 dL_law_33 (by rw [e36]; decide) (by rw [e36]; decide) (by rw [e36]; decide) (by decide) ?_
    exact lw_c36 hb hL hi hK hR
  by_cases e37 : xs i &&& 63 = 37
  · refine J_tabIn (pc' := 0) (off := 1303) 1336 dL_law_33 (by rw [e37]; decide) (by rw [e37]; decide) (by rw [e37]; decide) (by decide) ?_
    exact lw_c37 hb hL hi hK hR
  by_cases e38 : xs i &&& 63 = 38
  · refine J_tabIn (pc' := 0) (off := 1326) 1359 dL_law_33 (by rw [e38]; decide) (by rw [e38]; decide) (by rw [e38]; decide) (by decide) ?_
    exact lw_c38 hb hL hi hK hR
  by_cases e39 : xs i &&& 63 = 39
  · refine J_tabIn (pc' := 0) (off := 1339) 1372 dL_law_33 (by rw [e39]; decide) (by rw [e39]; decide) (by rw [e39]; decide) (by decide) ?_
    exact lw_c39 hb hL hi hK hR
  by_cases e40 : xs i &&& 63 = 40
  · refine J_tabIn (pc' := 0) (off := 1362) 1395 dL_law_33 (by rw [e40]; decide) (by rw [e40]; decide) (by rw [e40]; decide) (by decide) ?_
    exact lw_c40 hb hL hi hK hR
  refine J_tabOut (pc' := 0) 1418 dL_law_33 (by have q0 := zneI e0 (k := 0) (by decide); have q1 := zneI e1 (k := 1) (by decide); have q2 := zneI e2 (k := 2) (by decide); have q3 := zneI e3 (k := 3) (by decide); have q4 := zneI e4 (k := 4) (by decide); have q5 := zneI e5 (k := 5) (by decide); have q6 := zneI e6 (k := 6) (by decide); have q7 := zneI e7 (k := 7) (by decide); have q8 := zneI e8 (k := 8) (by decide); have q9 := zneI e9 (k := 9) (by decide); have q10 := zneI e10 (k := 10) (by decide); have q11 := zneI e11 (k := 11) (by decide); have q12 := zneI e12 (k := 12) (by decide); have q13 := zneI e13 (k := 13) (by decide); have q14 := zneI e14 (k := 14) (by decide); have q15 := zneI e15 (k := 15) (by decide); have q16 := zneI e16 (k := 16) (by decide); have q17 := zneI e17 (k := 17) (by decide); have q18 := zneI e18 (k := 18) (by decide); have q19 := zneI e19 (k := 19) (by decide); have q20 := zneI e20 (k := 20) (by decide); have q21 := zneI e21 (k := 21) (by decide); have q22 := zneI e22 (k := 22) (by decide); have q23 := zneI e23 (k := 23) (by decide); have q24 := zneI e24 (k := 24) (by decide); have q25 := zneI e25 (k := 25) (by decide); have q26 := zneI e26 (k := 26) (by decide); have q27 := zneI e27 (k := 27) (by decide); have q28 := zneI e28 (k := 28) (by decide); have q29 := zneI e29 (k := 29) (by decide); have q30 := zneI e30 (k := 30) (by decide); have q31 := zneI e31 (k := 31) (by decide); have q32 := zneI e32 (k := 32) (by decide); have q33 := zneI e33 (k := 33) (by decide); have q34 := zneI e34 (k := 34) (by decide); have q35 := zneI e35 (k := 35) (by decide); have q36 := zneI e36 (k := 36) (by decide); have q37 := zneI e37 (k := 37) (by decide); have q38 := zneI e38 (k := 38) (by decide); have q39 := zneI e39 (k := 39) (by decide); have q40 := zneI e40 (k := 40) (by decide); omega) (by decide) ?_
  exact hK w hR
set_option maxHeartbeats 4000000 in
set_option maxRecDepth 100000 in
theorem lw_loop {G : jG} {b L : Nat} {xs : Nat → Int32} (hb : jad G 1020 = b) (hL : L ≤ 3072) : ∀ n i : Nat, L + 6 ≤ i + n → i ≤ L + 6 → ∀ w, lwR w → J G (lwG G b L xs) w 18 (lwL i) [] := by
  intro n
  induction n with
  | zero =>
    intro i h1 h2 w hR
    refine J_iload_n (pc' := 19) dL_law_18 rfl rfl ?_
    refine J_aload_n (pc' := 20) dL_law_19 rfl rfl ?_
    refine J_slen (pc' := 21) dL_law_20 hb rfl ?_
    refine J_bipush (v := 6) (pc' := 23) dL_law_21 (by decide) rfl ?_
    refine J_isub (pc' := 24) dL_law_23 rfl ?_
    have e : (nI L - 6 : Int32).toInt = (L : Int) - 6 := by
      rw [Int32.toInt_sub, nI_toInt (by omega), show (6 : Int32).toInt = 6 from by decide, Int.bmod_eq_of_le (by omega) (by omega)]
    refine J_icmp_gt 1424 (pc' := 27) dL_law_24 (by decide) rfl (fun _ => ?_) (fun q => absurd (Int32.lt_iff_toInt_lt.mpr (by rw [e, nI_toInt (by omega)]; omega)) q)
    refine J_iconst (v := 1) (pc' := 1425) dL_law_1424 (by decide) rfl ?_
    exact J_wret dL_law_1425
  | succ n ih =>
    intro i h1 h2 w hR
    refine J_iload_n (pc' := 19) dL_law_18 rfl rfl ?_
    refine J_aload_n (pc' := 20) dL_law_19 rfl rfl ?_
    refine J_slen (pc' := 21) dL_law_20 hb rfl ?_
    refine J_bipush (v := 6) (pc' := 23) dL_law_21 (by decide) rfl ?_
    refine J_isub (pc' := 24) dL_law_23 rfl ?_
    have e : (nI L - 6 : Int32).toInt = (L : Int) - 6 := by
      rw [Int32.toInt_sub, nI_toInt (by omega), show (6 : Int32).toInt = 6 from by decide, Int.bmod_eq_of_le (by omega) (by omega)]
    refine J_icmp_gt 1424 (pc' := 27) dL_law_24 (by decide) rfl (fun _ => ?_) (fun q => ?_)
    · refine J_iconst (v := 1) (pc' := 1425) dL_law_1424 (by decide) rfl ?_
      exact J_wret dL_law_1425
    · have hi : i + 6 ≤ L := by
        have q2 := Int32.not_lt.mp q
        have q3 := Int32.le_iff_toInt_le.mp q2
        rw [e, nI_toInt (by omega)] at q3
        omega
      refine lw_sw hb hL hi (fun w' hR' => ?_) hR
      refine J_iinc (pc' := 1421) dL_law_1418 rfl (Nat.le_of_ble_eq_true rfl) (jst3 rfl rfl) rfl ?_
      refine J_goto (pc' := 0) 18 dL_law_1421 (by decide) ?_
      have h := ih (i + 6) (by omega) (by omega) w' hR'
      have e6 : nI i + Int32.ofInt 6 = nI (i + 6) := jadd rfl nIc_6
      rw [e6]
      exact h
/-- the walk of creation, in the law -/
abbrev lwK (b L : Nat) (xs : Nat → Int32) (SA : Nat → Nat) : kzG :=
  (RL, cL_law, 4, ret, room_1, fun s args _ A => args = #[Value.ref b] ∧ A = (fun q : Nat => s.heap.size ≤ q) ∧ va_X b L xs s s.heap ∧ b < s.heap.size ∧ lwS SA A s s.heap, fun s _ below _ => lw_Z below #[Value.ref b] s)
theorem KZ_astore {T : kzT} {Γ : kzG} {ws : va_W} {cs sl pc pc' : Nat} {ls lv' : List (Nat × Value)} {st : List Value} {n : Fin 4} {x : Nat} (hd : decode (kzc Γ) pc = .ok (.astore_n n, 1)) (hn : (n : Nat) < kzn Γ) (hv : lv' = ((n : Nat), .ref x) :: ls.filter (fun q => !(q.1 == (n : Nat)) && !(q.1 + 1 == (n : Nat) && q.2.category == 2))) (hp : pc' = pc + 1) (k : KZ T Γ ws cs sl pc' lv' st) : KZ T Γ ws cs sl pc ls (.ref x :: st) := by
  subst hp hv
  intro p e s m args below meth c H locs lsA A hC hP hD hS hl
  exact lv_astore_n hC.1 hC.2.1 hd rfl hl hn rfl (fun lsB hl2 => k p e s m args below meth c H locs lsB A hC hP hD hS hl2)
theorem KZ_istore {T : kzT} {Γ : kzG} {ws : va_W} {cs sl pc pc' : Nat} {ls lv' : List (Nat × Value)} {st : List Value} {n : Fin 4} {x : Int32} (hd : decode (kzc Γ) pc = .ok (.istore_n n, 1)) (hn : (n : Nat) < kzn Γ) (hv : lv' = ((n : Nat), .int x) :: ls.filter (fun q => !(q.1 == (n : Nat)) && !(q.1 + 1 == (n : Nat) && q.2.category == 2))) (hp : pc' = pc + 1) (k : KZ T Γ ws cs sl pc' lv' st) : KZ T Γ ws cs sl pc ls (.int x :: st) := by
  subst hp hv
  intro p e s m args below meth c H locs lsA A hC hP hD hS hl
  exact lv_istore_n hC.1 hC.2.1 hd rfl hl hn rfl (fun lsB hl2 => k p e s m args below meth c H locs lsB A hC hP hD hS hl2)
/-- both are made: from here on their world is walked -/
theorem KZ_world {T : kzT} {b L : Nat} {xs : Nat → Int32} {SA : Nat → Nat} {h0 : Nat} {u : Nat → Nat} {h1 : Nat} {u2 : Nat → Nat} {cs sl : Nat} (hcs : cs ≤ 600000 ∧ sl ≤ 7302250) (hstr : T.2.2.2 = fun j => SA (1002 + j)) (k : J (lwGG T (lwAd h0 u h1 u2 SA b)) (lwG (lwGG T (lwAd h0 u h1 u2 SA b)) b L xs) lwW 18 (lwL 0) []) : KZ T (lwK b L xs SA) ((([] : va_W) ++ kzX T h0 u) ++ kzMo T h1 u2) cs sl 18 [(3, .int 0), (2, .ref h1), (1, .ref h0), (0, .ref b)] [] := by
  intro p e s m args below meth c H locs lsA A hC hP hD hS hl
  obtain ⟨hx, hb, hr, hlocks, hml, hown, hts, hK, hA, hargs, hAe, hX, hbl, hSt⟩ := hC
  subst hAe hargs
  rw [lw_world T h0 u h1 u2 SA b hstr] at hP hD
  have hfr : ∀ i, i < 84 → s.heap.size ≤ lwAd h0 u h1 u2 SA b i := fun i hi => hD.2 i _ (jW_get _ _ hi)
  have hsub : ∀ q, jA (lwGG T (lwAd h0 u h1 u2 SA b)) q → s.heap.size ≤ q := fun q hq => by
    obtain ⟨i, hi, e⟩ := hq
    rw [e]; exact hfr i hi
  have hkeep : ∀ a : Nat, a < s.heap.size → ¬ jA (lwGG T (lwAd h0 u h1 u2 SA b)) a → H[a]? = s.heap[a]? := fun a h _ => hS.2.1 a h (Nat.not_le.mpr h)
  have hS0 : jS (lwGG T (lwAd h0 u h1 u2 SA b)) s s.heap := by
    obtain ⟨s1, s2, s3, s4, s5, s6⟩ := hSt
    obtain ⟨a1, a2, a3, a4⟩ := s6 0 (by omega)
    obtain ⟨b1, b2, b3, b4⟩ := s6 1 (by omega)
    exact ⟨s1.narrow hsub, s2.narrow hsub, s3.narrow hsub, s4.narrow hsub, s5.narrow hsub, ⟨a1.narrow hsub, a2.narrow hsub, a3.narrow hsub, a4.narrow hsub⟩, b1.narrow hsub, b2.narrow hsub, b3.narrow hsub, b4.narrow hsub⟩
  refine va_forget (fun q hq => hS.2.2 q hq) ?_
  refine W.widen (k := 600000) (n := 7302250) hcs.1 hcs.2 ?_
  refine k lwW (jq.rf lwW) p e s m #[Value.ref b] below meth c H [] lsA H ⟨hx, hb, hr, hlocks, hml, hown, hts, hK.1, hS0.kept hkeep, hK.2.1, rfl, hX.kept (hS.2.1 b hbl (Nat.not_le.mpr hbl)), Nat.lt_of_lt_of_le hbl hS.1, fun q => Nat.not_le.mpr hbl (hsub b q), hfr⟩ hP (hD.weaken (fun i q hq _ => ?_)) va_S.rf ?_
  · by_cases hi : i < 84
    · rw [jW_get _ _ hi] at hq
      cases hq
      exact ⟨i, hi, rfl⟩
    · rw [List.getElem?_eq_none (by simp [jW]; omega)] at hq
      cases hq
  · exact lv_sub hl [3, 2, 1, 0] rfl
set_option maxHeartbeats 4000000 in
set_option maxRecDepth 100000 in
theorem lw_body {T : kzT} {b L : Nat} {xs : Nat → Int32} {SA : Nat → Nat} (hL : L ≤ 3072) (hstr : T.2.2.2 = fun j => SA (1002 + j)) : KZ T (lwK b L xs SA) [] 0 0 0 [(0, .ref b)] [] := by
  refine KZ_new (ci := 6) (N := 9) (cs' := 1) (sl' := 9) (pc' := 3) tyX6 (fs := [.null, .null, .null, .null, .null, .null, .null, .null, .int 0]) dL_law_0 rfl ju6 tyX6_ok kz_c_L_7 kz_i6 kz_n6 (fun j hj => by rcases (show j = 0 ∨ j = 1 ∨ j = 2 ∨ j = 3 ∨ j = 4 ∨ j = 5 ∨ j = 6 ∨ j = 7 ∨ j = 8 by omega) with rfl | rfl | rfl | rfl | rfl | rfl | rfl | rfl | rfl <;> rfl) ⟨Nat.le_of_ble_eq_true rfl, Nat.le_of_ble_eq_true rfl⟩ ⟨rfl, rfl⟩ rfl (fun h0 => ?_)
  refine KZ_dup (pc' := 4) dL_law_3 rfl rfl ?_
  refine KZ_call (T := T) (Γ := lwK b L xs SA) (rest := [.ref h0]) (h0 := h0) (cs := 1) (sl := 9) (pc := 4) (wr := []) (cs' := 68) (sl' := 1463) (pc' := 7) (n := 0) [] rfl dL_law_4 kz_l_L_9 kz_d6 (kz_M6 T h0) rfl (kz_nd _) ⟨Nat.le_of_ble_eq_true rfl, Nat.le_of_ble_eq_true rfl⟩ ⟨Nat.le_of_ble_eq_true rfl, Nat.le_of_ble_eq_true rfl⟩ (Nat.le_of_ble_eq_true rfl) ⟨rfl, rfl⟩ rfl (fun u => ?_)
  refine KZ_astore (pc' := 8) (lv' := [(1, .ref h0), (0, .ref b)]) dL_law_7 (Nat.le_of_ble_eq_true rfl) rfl rfl ?_
  refine KZ_new (ci := 7) (N := 24) (cs' := 69) (sl' := 1487) (pc' := 11) tyX7 (fs := [.null, .null, .null, .int 0, .null, .null, .null, .null, .null, .null, .null, .long 0, .null, .null, .null, .null, .int 0, .int 0, .int 0, .int 0, .int 0, .null, .int 0, .int 0]) dL_law_8 rfl ju7 tyX7_ok kz_c_L_10 kz_i7 kz_n7 (fun j hj => by rcases (show j = 0 ∨ j = 1 ∨ j = 2 ∨ j = 3 ∨ j = 4 ∨ j = 5 ∨ j = 6 ∨ j = 7 ∨ j = 8 ∨ j = 9 ∨ j = 10 ∨ j = 11 ∨ j = 12 ∨ j = 13 ∨ j = 14 ∨ j = 15 ∨ j = 16 ∨ j = 17 ∨ j = 18 ∨ j = 19 ∨ j = 20 ∨ j = 21 ∨ j = 22 ∨ j = 23 by omega) with rfl | rfl | rfl | rfl | rfl | rfl | rfl | rfl | rfl | rfl | rfl | rfl | rfl | rfl | rfl | rfl | rfl | rfl | rfl | rfl | rfl | rfl | rfl | rfl <;> rfl) ⟨Nat.le_of_ble_eq_true rfl, Nat.le_of_ble_eq_true rfl⟩ ⟨rfl, rfl⟩ rfl (fun h1 => ?_)
  refine KZ_dup (pc' := 12) dL_law_11 rfl rfl ?_
  refine KZ_call (T := T) (Γ := lwK b L xs SA) (rest := [.ref h1]) (h0 := h1) (cs := 69) (sl := 1487) (pc := 12) (wr := (([] : va_W) ++ kzX T h0 u)) (cs' := 84) (sl' := 2981) (pc' := 15) (n := 0) [] rfl dL_law_12 kz_l_L_12 kz_d7 (kz_M7 T h1) rfl (kz_nd _) ⟨Nat.le_of_ble_eq_true rfl, Nat.le_of_ble_eq_true rfl⟩ ⟨Nat.le_of_ble_eq_true rfl, Nat.le_of_ble_eq_true rfl⟩ (Nat.le_of_ble_eq_true rfl) ⟨rfl, rfl⟩ rfl (fun u2 => ?_)
  refine KZ_astore (pc' := 16) (lv' := [(2, .ref h1), (1, .ref h0), (0, .ref b)]) dL_law_15 (Nat.le_of_ble_eq_true rfl) rfl rfl ?_
  refine KZ_iconst (v := 0) (pc' := 17) dL_law_16 (by decide) rfl ?_
  refine KZ_istore (pc' := 18) (lv' := [(3, .int 0), (2, .ref h1), (1, .ref h0), (0, .ref b)]) dL_law_17 (Nat.le_of_ble_eq_true rfl) rfl rfl ?_
  refine KZ_world ⟨by omega, by omega⟩ hstr ?_
  exact lw_loop rfl hL (L + 6) 0 (by omega) (by omega) lwW lw_R0
