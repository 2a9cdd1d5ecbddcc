/-! ===== the class: small methods ===== -/
set_option maxHeartbeats 4000000 in
set_option maxRecDepth 100000 in
theorem k_X6_isTold {G : jG} {w : jWd} {x : Int32} : jKd G 1 yX6_isTold cX6_isTold 1 (some .boolean) [.int x] w (some (.int (jb (-20 ≤ x ∧ x ≤ 20)))) w := by
  refine jK_of (own := RX6) [some (.int x)] pn6 rfl (Nat.le_of_ble_eq_true rfl) rfl ?_
  refine J_iload_n (pc' := 1) dX6_isTold_0 rfl rfl ?_
  refine J_bipush (v := (-20)) (pc' := 3) dX6_isTold_1 (by decide) rfl ?_
  refine J_bipush (v := 20) (pc' := 5) dX6_isTold_3 (by decide) rfl ?_
  refine J_S3v (pc' := 8) dX6_isTold_5 lk_6_108 cd_X6_isWithin (k_X6_isWithin) (jroom_of rfl) (Nat.le_of_ble_eq_true rfl) rfl ?_
  exact J_zret dX6_isTold_8 (jb_b _) ⟨rfl, rfl⟩
set_option maxHeartbeats 4000000 in
set_option maxRecDepth 100000 in
theorem k_X6_isKindAndNumber {G : jG} {w : jWd} {x : Int32} : jKd G 1 yX6_isKindAndNumber cX6_isKindAndNumber 1 (some .boolean) [.int x] w (some (.int (jb (0 ≤ x ∧ x ≤ 69)))) w := by
  refine jK_of (own := RX6) [some (.int x)] pn6 rfl (Nat.le_of_ble_eq_true rfl) rfl ?_
  refine J_iload_n (pc' := 1) dX6_isKindAndNumber_0 rfl rfl ?_
  refine J_iconst (v := 0) (pc' := 2) dX6_isKindAndNumber_1 (by decide) rfl ?_
  refine J_bipush (v := 69) (pc' := 4) dX6_isKindAndNumber_2 (by decide) rfl ?_
  refine J_S3v (pc' := 7) dX6_isKindAndNumber_4 lk_6_108 cd_X6_isWithin (k_X6_isWithin) (jroom_of rfl) (Nat.le_of_ble_eq_true rfl) rfl ?_
  exact J_zret dX6_isKindAndNumber_7 (jb_b _) ⟨rfl, rfl⟩
set_option maxHeartbeats 4000000 in
set_option maxRecDepth 100000 in
theorem k_X6_isUse {G : jG} {w : jWd} {x : Int32} : jKd G 1 yX6_isUse cX6_isUse 1 (some .boolean) [.int x] w (some (.int (jb (0 ≤ x ∧ x ≤ 1)))) w := by
  refine jK_of (own := RX6) [some (.int x)] pn6 rfl (Nat.le_of_ble_eq_true rfl) rfl ?_
  refine J_iload_n (pc' := 1) dX6_isUse_0 rfl rfl ?_
  refine J_iconst (v := 0) (pc' := 2) dX6_isUse_1 (by decide) rfl ?_
  refine J_iconst (v := 1) (pc' := 3) dX6_isUse_2 (by decide) rfl ?_
  refine J_S3v (pc' := 6) dX6_isUse_3 lk_6_108 cd_X6_isWithin (k_X6_isWithin) (jroom_of rfl) (Nat.le_of_ble_eq_true rfl) rfl ?_
  exact J_zret dX6_isUse_6 (jb_b _) ⟨rfl, rfl⟩
set_option maxHeartbeats 4000000 in
set_option maxRecDepth 100000 in
theorem k_X6_isPart {G : jG} {w : jWd} {x : Int32} : jKd G 1 yX6_isPart cX6_isPart 1 (some .boolean) [.int x] w (some (.int (jb (0 ≤ x ∧ x ≤ 1)))) w := by
  refine jK_of (own := RX6) [some (.int x)] pn6 rfl (Nat.le_of_ble_eq_true rfl) rfl ?_
  refine J_iload_n (pc' := 1) dX6_isPart_0 rfl rfl ?_
  refine J_iconst (v := 0) (pc' := 2) dX6_isPart_1 (by decide) rfl ?_
  refine J_iconst (v := 1) (pc' := 3) dX6_isPart_2 (by decide) rfl ?_
  refine J_S3v (pc' := 6) dX6_isPart_3 lk_6_108 cd_X6_isWithin (k_X6_isWithin) (jroom_of rfl) (Nat.le_of_ble_eq_true rfl) rfl ?_
  exact J_zret dX6_isPart_6 (jb_b _) ⟨rfl, rfl⟩
set_option maxHeartbeats 4000000 in
set_option maxRecDepth 100000 in
theorem k_X6_isSheet {G : jG} {w : jWd} {x : Int32} : jKd G 1 yX6_isSheet cX6_isSheet 1 (some .boolean) [.int x] w (some (.int (jb (0 ≤ x ∧ x ≤ 3)))) w := by
  refine jK_of (own := RX6) [some (.int x)] pn6 rfl (Nat.le_of_ble_eq_true rfl) rfl ?_
  refine J_iload_n (pc' := 1) dX6_isSheet_0 rfl rfl ?_
  refine J_iconst (v := 0) (pc' := 2) dX6_isSheet_1 (by decide) rfl ?_
  refine J_iconst (v := 3) (pc' := 3) dX6_isSheet_2 (by decide) rfl ?_
  refine J_S3v (pc' := 6) dX6_isSheet_3 lk_6_108 cd_X6_isWithin (k_X6_isWithin) (jroom_of rfl) (Nat.le_of_ble_eq_true rfl) rfl ?_
  exact J_zret dX6_isSheet_6 (jb_b _) ⟨rfl, rfl⟩
set_option maxHeartbeats 4000000 in
set_option maxRecDepth 100000 in
theorem k_X6_isMark {G : jG} {w : jWd} {x : Int32} : jKd G 1 yX6_isMark cX6_isMark 2 (some .boolean) [.ref 0, .int x] w (some (.int (jb (0 ≤ x ∧ x ≤ w.1 1 8 - 1)))) w := by
  refine jK_of (own := RX6) [some (.ref 0), some (.int x)] pn6 rfl (Nat.le_of_ble_eq_true rfl) rfl ?_
  refine J_iload_n (pc' := 1) dX6_isMark_0 rfl rfl ?_
  refine J_iconst (v := 0) (pc' := 2) dX6_isMark_1 (by decide) rfl ?_
  refine J_aload_n (pc' := 3) dX6_isMark_2 rfl rfl ?_
  refine J_getR (pc' := 6) dX6_isMark_3 fl_6_12 (ly_0) (l84_0) rfl rfl ?_
  refine J_getI (pc' := 9) dX6_isMark_6 fl_6_73 (ly_1) (l84_1) rfl rfl ?_
  refine J_iconst (v := 1) (pc' := 10) dX6_isMark_9 (by decide) rfl ?_
  refine J_isub (pc' := 11) dX6_isMark_10 rfl ?_
  refine J_S3v (pc' := 14) dX6_isMark_11 lk_6_108 cd_X6_isWithin (k_X6_isWithin) (jroom_of rfl) (Nat.le_of_ble_eq_true rfl) rfl ?_
  exact J_zret dX6_isMark_14 (jb_b _) ⟨rfl, rfl⟩
set_option maxHeartbeats 4000000 in
set_option maxRecDepth 100000 in
theorem k_X6_isPicture {G : jG} {w : jWd} {x : Int32} : jKd G 1 yX6_isPicture cX6_isPicture 2 (some .boolean) [.ref 0, .int x] w (some (.int (jb (0 ≤ x ∧ x ≤ w.1 1 10 - 1)))) w := by
  refine jK_of (own := RX6) [some (.ref 0), some (.int x)] pn6 rfl (Nat.le_of_ble_eq_true rfl) rfl ?_
  refine J_iload_n (pc' := 1) dX6_isPicture_0 rfl rfl ?_
  refine J_iconst (v := 0) (pc' := 2) dX6_isPicture_1 (by decide) rfl ?_
  refine J_aload_n (pc' := 3) dX6_isPicture_2 rfl rfl ?_
  refine J_getR (pc' := 6) dX6_isPicture_3 fl_6_12 (ly_0) (l84_0) rfl rfl ?_
  refine J_getI (pc' := 9) dX6_isPicture_6 fl_6_124 (ly_1) (l84_1) rfl rfl ?_
  refine J_iconst (v := 1) (pc' := 10) dX6_isPicture_9 (by decide) rfl ?_
  refine J_isub (pc' := 11) dX6_isPicture_10 rfl ?_
  refine J_S3v (pc' := 14) dX6_isPicture_11 lk_6_108 cd_X6_isWithin (k_X6_isWithin) (jroom_of rfl) (Nat.le_of_ble_eq_true rfl) rfl ?_
  exact J_zret dX6_isPicture_14 (jb_b _) ⟨rfl, rfl⟩
set_option maxHeartbeats 4000000 in
set_option maxRecDepth 100000 in
theorem k_X6_error {G : jG} {w : jWd} {k : Nat} (hk : k < 7) : jKd G 0 yX6_error cX6_error 2 (some .int) [.ref 0, .int (nI k)] w (some (.int (-1000000000 - nI k))) (jset w 67 k (w.1 67 k + 1)) := by
  refine jK_of (own := RX6) [some (.ref 0), some (.int (nI k))] pn6 rfl (Nat.le_of_ble_eq_true rfl) rfl ?_
  refine J_aload_n (pc' := 1) dX6_error_0 rfl rfl ?_
  refine J_getR (pc' := 4) dX6_error_1 fl_6_56 (ly_0) (l84_0) rfl rfl ?_
  refine J_iload_n (pc' := 5) dX6_error_4 rfl rfl ?_
  refine J_dup2 (pc' := 6) dX6_error_5 rfl rfl rfl ?_
  refine J_iald k (pc' := 7) dX6_error_6 (ly_67) (l84_67) rfl hk (by decide) rfl ?_
  refine J_iconst (v := 1) (pc' := 8) dX6_error_7 (by decide) rfl ?_
  refine J_iadd (pc' := 9) dX6_error_8 rfl ?_
  refine J_iast k (pc' := 10) dX6_error_9 (ly_67) (l84_67) rfl hk (by decide) rfl ?_
  refine J_ldcw (pc' := 13) dX6_error_10 kc_6_319 rfl ?_
  refine J_iload_n (pc' := 14) dX6_error_13 rfl rfl ?_
  refine J_isub (pc' := 15) dX6_error_14 rfl ?_
  exact J_iret dX6_error_15  ⟨rfl, rfl⟩
/-- what the reference and the class name as the answers of errors -/
def sErr (k : Nat) : Int32 := -1000000000 - nI k
/-- a quotient that is 0 by 0 -/
def sQuo (a b : Int64) : Int64 := if b = 0 then 0 else a / b
/-- rests, at most n of them -/
def sGcd : Nat → Int64 → Int64 → Int64
  | 0, a, _ => a
  | n + 1, a, b => if b = 0 then a else sGcd n b (a - a / b * b)
def sAbs (x : Int64) : Int64 := if 0 < x then x else -x
def sPart (a b : Int64) (part : Int32) : Int64 := sQuo (if part = 0 then a else b) (sGcd 128 (sAbs a) b)
theorem lcmp0 {x y : Int64} : lg_cmp x y = 0 ↔ x = y := by
  unfold lg_cmp
  by_cases h : x > y
  · rw [if_pos h]
    exact ⟨fun q => absurd q (by decide), fun q => absurd h (by rw [q]; exact Int64.lt_irrefl)⟩
  · rw [if_neg h]
    by_cases h2 : x = y
    · rw [if_pos h2]; exact ⟨fun _ => h2, fun _ => rfl⟩
    · rw [if_neg h2]; exact ⟨fun q => absurd q (by decide), fun q => absurd q h2⟩
set_option maxHeartbeats 4000000 in
set_option maxRecDepth 100000 in
theorem k_X6_quotient {G : jG} {w : jWd} {a b : Int64} : jKd G 0 yX6_quotient cX6_quotient 4 (some .long) [.long a, .long b] w (some (.long (sQuo a b))) w := by
  refine jK_of (own := RX6) [some (.long a), none, some (.long b), none] pn6 rfl (Nat.le_of_ble_eq_true rfl) rfl ?_
  refine J_lload_n (pc' := 1) dX6_quotient_0 rfl rfl ?_
  refine J_lconst (v := 0) (pc' := 2) dX6_quotient_1 (by decide) rfl ?_
  refine J_lcmp (pc' := 3) dX6_quotient_2 rfl ?_
  refine J_if_ne 10 (pc' := 6) dX6_quotient_3 (by decide) rfl (fun h_3 => ?_) (fun h_3 => ?_)
  · refine J_lload_n (pc' := 11) dX6_quotient_10 rfl rfl ?_
    refine J_lload_n (pc' := 12) dX6_quotient_11 rfl rfl ?_
    refine J_ldiv (pc' := 13) dX6_quotient_12 (fun q => h_3 (lcmp0.mpr q)) rfl ?_
    first | exact J_lret dX6_quotient_13  ⟨jvl (by unfold sQuo; rw [if_pos (lcmp0.mp h_3)]), rfl⟩ | exact J_lret dX6_quotient_13  ⟨jvl (by unfold sQuo; rw [if_neg (fun q => h_3 (lcmp0.mpr q))]), rfl⟩
  · refine J_lconst (v := 0) (pc' := 7) dX6_quotient_6 (by decide) rfl ?_
    refine J_goto (pc' := 0) 13 dX6_quotient_7 (by decide) ?_
    first | exact J_lret dX6_quotient_13  ⟨jvl (by unfold sQuo; rw [if_pos (lcmp0.mp h_3)]), rfl⟩ | exact J_lret dX6_quotient_13  ⟨jvl (by unfold sQuo; rw [if_neg (fun q => h_3 (lcmp0.mpr q))]), rfl⟩
set_option maxHeartbeats 4000000 in
set_option maxRecDepth 100000 in
theorem l_gcd {G : jG} {w : jWd} {a b : Int64} : ∀ (n i : Nat) (x z : Int64), i + n = 128 → J G (jM G 0 RX6 cX6_greatestDivisor 11 (some .long) (fun r' w' => r' = some (.long (sGcd n x z)) ∧ w' = w)) w 9 [some (.long a), none, some (.long b), none, some (.long x), none, some (.long z), none, some (.int (nI i)), none, none] [] := by
  intro n
  induction n with
  | zero =>
    intro i x z hi
    refine J_iload (pc' := 11) dX6_greatestDivisor_9 rfl rfl ?_
    refine J_sipush (v := 128) (pc' := 14) dX6_greatestDivisor_11 (by decide) rfl ?_
    refine J_icmp_ge 45 (pc' := 17) dX6_greatestDivisor_14 (by decide) rfl (fun h_14 => ?_) (fun h_14 => absurd (by rw [show (128 : Int32) = nI 128 from by decide]; exact nI_le (by omega) (by omega)) h_14)
    refine J_lload (pc' := 47) dX6_greatestDivisor_45 rfl rfl ?_
    exact J_lret dX6_greatestDivisor_47  ⟨rfl, rfl⟩
  | succ n ih =>
    intro i x z hi
    refine J_iload (pc' := 11) dX6_greatestDivisor_9 rfl rfl ?_
    refine J_sipush (v := 128) (pc' := 14) dX6_greatestDivisor_11 (by decide) rfl ?_
    refine J_icmp_ge 45 (pc' := 17) dX6_greatestDivisor_14 (by decide) rfl (fun h_14 => absurd h_14 (by rw [show (128 : Int32) = nI 128 from by decide]; exact nI_ge (by omega) (by omega))) (fun h_14 => ?_)
    refine J_lload (pc' := 19) dX6_greatestDivisor_17 rfl rfl ?_
    refine J_lconst (v := 0) (pc' := 20) dX6_greatestDivisor_19 (by decide) rfl ?_
    refine J_lcmp (pc' := 21) dX6_greatestDivisor_20 rfl ?_
    refine J_if_eq 45 (pc' := 24) dX6_greatestDivisor_21 (by decide) rfl (fun h_21 => ?_) (fun h_21 => ?_)
    · refine J_lload (pc' := 47) dX6_greatestDivisor_45 rfl rfl ?_
      exact J_lret dX6_greatestDivisor_47  ⟨by rw [sGcd, if_pos (lcmp0.mp h_21)], rfl⟩
    · refine J_lload (pc' := 26) dX6_greatestDivisor_24 rfl rfl ?_
      refine J_lload (pc' := 28) dX6_greatestDivisor_26 rfl rfl ?_
      refine J_lrem (pc' := 29) dX6_greatestDivisor_28 (fun q => h_21 (lcmp0.mpr q)) rfl ?_
      refine J_lstore (pc' := 31) dX6_greatestDivisor_29 (Nat.le_of_ble_eq_true rfl) (jstL9 rfl) rfl ?_
      refine J_lload (pc' := 33) dX6_greatestDivisor_31 rfl rfl ?_
      refine J_lstore (pc' := 35) dX6_greatestDivisor_33 (Nat.le_of_ble_eq_true rfl) (jstL4 rfl) rfl ?_
      refine J_lload (pc' := 37) dX6_greatestDivisor_35 rfl rfl ?_
      refine J_lstore (pc' := 39) dX6_greatestDivisor_37 (Nat.le_of_ble_eq_true rfl) (jstL6 rfl) rfl ?_
      refine J_iinc (pc' := 42) dX6_greatestDivisor_39 rfl (Nat.le_of_ble_eq_true rfl) (jst8 rfl rfl) rfl ?_
      refine J_goto (pc' := 0) 9 dX6_greatestDivisor_42 (by decide) ?_
      have h2 := ih (i + 1) z (x - x / z * z) (by omega)
      rw [← z1 i] at h2
      rw [sGcd, if_neg (fun q => h_21 (lcmp0.mpr q))]
      exact J_mask [true, true, true, true, true, true, true, true, true, false, false] h2
set_option maxHeartbeats 4000000 in
set_option maxRecDepth 100000 in
theorem k_X6_greatestDivisor {G : jG} {w : jWd} {a b : Int64} : jKd G 0 yX6_greatestDivisor cX6_greatestDivisor 11 (some .long) [.long a, .long b] w (some (.long (sGcd 128 a b))) w := by
  refine jK_of (own := RX6) [some (.long a), none, some (.long b), none, none, none, none, none, none, none, none] pn6 rfl (Nat.le_of_ble_eq_true rfl) rfl ?_
  refine J_lload_n (pc' := 1) dX6_greatestDivisor_0 rfl rfl ?_
  refine J_lstore (pc' := 3) dX6_greatestDivisor_1 (Nat.le_of_ble_eq_true rfl) (jstL4 rfl) rfl ?_
  refine J_lload_n (pc' := 4) dX6_greatestDivisor_3 rfl rfl ?_
  refine J_lstore (pc' := 6) dX6_greatestDivisor_4 (Nat.le_of_ble_eq_true rfl) (jstL6 rfl) rfl ?_
  refine J_iconst (v := 0) (pc' := 7) dX6_greatestDivisor_6 (by decide) rfl ?_
  refine J_istore (pc' := 9) dX6_greatestDivisor_7 (Nat.le_of_ble_eq_true rfl) (jst8 rfl rfl) rfl ?_
  exact J_mask [true, true, true, true, true, true, true, true, true, true, true] (l_gcd 128 0 a b (by omega))
set_option maxHeartbeats 4000000 in
set_option maxRecDepth 100000 in
theorem k_X6_partOf {G : jG} {w : jWd} {a b : Int64} {p : Int32} : jKd G 1 yX6_partOf cX6_partOf 5 (some .long) [.long a, .long b, .int p] w (some (.long (sPart a b p))) w := by
  refine jK_of (own := RX6) [some (.long a), none, some (.long b), none, some (.int p)] pn6 rfl (Nat.le_of_ble_eq_true rfl) rfl ?_
  refine J_iload (pc' := 2) dX6_partOf_0 rfl rfl ?_
  refine J_if_ne 9 (pc' := 5) dX6_partOf_2 (by decide) rfl (fun h_2 => ?_) (fun h_2 => ?_)
  · refine J_lload_n (pc' := 10) dX6_partOf_9 rfl rfl ?_
    refine J_lload_n (pc' := 11) dX6_partOf_10 rfl rfl ?_
    refine J_mabsL (pc' := 14) dX6_partOf_11 lm_6_323 rfl rfl ?_
    refine J_lload_n (pc' := 15) dX6_partOf_14 rfl rfl ?_
    refine J_S2v (pc' := 18) dX6_partOf_15 lk_6_327 cd_X6_greatestDivisor (k_X6_greatestDivisor) (jroom_of rfl) (Nat.le_of_ble_eq_true rfl) rfl ?_
    refine J_S2v (pc' := 21) dX6_partOf_18 lk_6_330 cd_X6_quotient (k_X6_quotient) (jroom_of rfl) (Nat.le_of_ble_eq_true rfl) rfl ?_
    first | exact J_lret dX6_partOf_21  ⟨jvl (by unfold sPart sAbs; rw [if_pos h_2]), rfl⟩ | exact J_lret dX6_partOf_21  ⟨jvl (by unfold sPart sAbs; rw [if_neg h_2]), rfl⟩
  · refine J_lload_n (pc' := 6) dX6_partOf_5 rfl rfl ?_
    refine J_goto (pc' := 0) 10 dX6_partOf_6 (by decide) ?_
    refine J_lload_n (pc' := 11) dX6_partOf_10 rfl rfl ?_
    refine J_mabsL (pc' := 14) dX6_partOf_11 lm_6_323 rfl rfl ?_
    refine J_lload_n (pc' := 15) dX6_partOf_14 rfl rfl ?_
    refine J_S2v (pc' := 18) dX6_partOf_15 lk_6_327 cd_X6_greatestDivisor (k_X6_greatestDivisor) (jroom_of rfl) (Nat.le_of_ble_eq_true rfl) rfl ?_
    refine J_S2v (pc' := 21) dX6_partOf_18 lk_6_330 cd_X6_quotient (k_X6_quotient) (jroom_of rfl) (Nat.le_of_ble_eq_true rfl) rfl ?_
    first | exact J_lret dX6_partOf_21  ⟨jvl (by unfold sPart sAbs; rw [if_pos h_2]), rfl⟩ | exact J_lret dX6_partOf_21  ⟨jvl (by unfold sPart sAbs; rw [if_neg h_2]), rfl⟩
/-- a kind is of a kind -/
def sOf (k c : Int32) : Bool := c == k || c == 0 || (c == 1 && k == 4) || (c == 2 && k == 5)
set_option maxHeartbeats 4000000 in
set_option maxRecDepth 100000 in
theorem k_X6_isOfKind {G : jG} {w : jWd} {k c : Int32} (hk : 0 ≤ k.toInt ∧ k.toInt ≤ 6) : jKd G 0 yX6_isOfKind cX6_isOfKind 4 (some .boolean) [.int k, .int c] w (some (.int (jb (sOf k c = true)))) w := by
  have hc : k = 0 ∨ k = 1 ∨ k = 2 ∨ k = 3 ∨ k = 4 ∨ k = 5 ∨ k = 6 := by
    have : k.toInt = 0 ∨ k.toInt = 1 ∨ k.toInt = 2 ∨ k.toInt = 3 ∨ k.toInt = 4 ∨ k.toInt = 5 ∨ k.toInt = 6 := by omega
    rcases this with h | h | h | h | h | h | h
    · exact Or.inl (Int32.toInt_inj.mp (h.trans (by decide)))
    · exact Or.inr (Or.inl (Int32.toInt_inj.mp (h.trans (by decide))))
    · exact Or.inr (Or.inr (Or.inl (Int32.toInt_inj.mp (h.trans (by decide)))))
    · exact Or.inr (Or.inr (Or.inr (Or.inl (Int32.toInt_inj.mp (h.trans (by decide))))))
    · exact Or.inr (Or.inr (Or.inr (Or.inr (Or.inl (Int32.toInt_inj.mp (h.trans (by decide)))))))
    · exact Or.inr (Or.inr (Or.inr (Or.inr (Or.inr (Or.inl (Int32.toInt_inj.mp (h.trans (by decide))))))))
    · exact Or.inr (Or.inr (Or.inr (Or.inr (Or.inr (Or.inr ((Int32.toInt_inj.mp (h.trans (by decide)))))))))
  rcases hc with rfl | rfl | rfl | rfl | rfl | rfl | rfl
  · refine jK_of (own := RX6) [some (.int 0), some (.int c), none, none] pn6 rfl (Nat.le_of_ble_eq_true rfl) rfl ?_
    refine J_iload_n (pc' := 1) dX6_isOfKind_0 rfl rfl ?_
    refine J_istore_n (pc' := 2) dX6_isOfKind_1 (Nat.le_of_ble_eq_true rfl) (jst2 rfl rfl) rfl ?_
    refine J_iconst (v := 0) (pc' := 3) dX6_isOfKind_2 (by decide) rfl ?_
    refine J_istore_n (pc' := 4) dX6_isOfKind_3 (Nat.le_of_ble_eq_true rfl) (jst3 rfl rfl) rfl ?_
    refine J_iload_n (pc' := 5) dX6_isOfKind_4 rfl rfl ?_
    refine J_bipush (v := 7) (pc' := 7) dX6_isOfKind_5 (by decide) rfl ?_
    refine J_icmp_ge 33 (pc' := 10) dX6_isOfKind_7 (by decide) rfl (fun h_7 => absurd h_7 (by decide)) (fun h_7 => ?_)
    refine J_iload_n (pc' := 11) dX6_isOfKind_10 rfl rfl ?_
    refine J_if_lt 33 (pc' := 14) dX6_isOfKind_11 (by decide) rfl (fun h_11 => absurd h_11 (by decide)) (fun h_11 => ?_)
    refine J_iload_n (pc' := 15) dX6_isOfKind_14 rfl rfl ?_
    refine J_iload_n (pc' := 16) dX6_isOfKind_15 rfl rfl ?_
    refine J_icmp_ne 21 (pc' := 19) dX6_isOfKind_16 (by decide) rfl (fun h_16 => ?_) (fun h_16 => ?_)
    · have n_0 : ¬ c = 0 := fun q => h_16 q.symm
      refine J_gets0 (pc' := 24) dX6_isOfKind_21 gs_6_320 rfl ?_
      refine J_iload_n (pc' := 25) dX6_isOfKind_24 rfl rfl ?_
      refine J_ald0 0 (pc' := 26) dX6_isOfKind_25 nIc_0 (by decide) rfl ?_
      rw [show (([-1, 0, 0, 0, 1, 2, 0] : List Int32).getD 0 0) = -1 from by decide]
      refine J_istore_n (pc' := 27) dX6_isOfKind_26 (Nat.le_of_ble_eq_true rfl) (jst2 rfl rfl) rfl ?_
      refine J_iinc (pc' := 30) dX6_isOfKind_27 rfl (Nat.le_of_ble_eq_true rfl) (jst3 rfl rfl) rfl ?_
      refine J_goto (pc' := 0) 4 dX6_isOfKind_30 (by decide) ?_
      refine J_iload_n (pc' := 5) dX6_isOfKind_4 rfl rfl ?_
      refine J_bipush (v := 7) (pc' := 7) dX6_isOfKind_5 (by decide) rfl ?_
      refine J_icmp_ge 33 (pc' := 10) dX6_isOfKind_7 (by decide) rfl (fun h_7 => absurd h_7 (by decide)) (fun h_7 => ?_)
      refine J_iload_n (pc' := 11) dX6_isOfKind_10 rfl rfl ?_
      refine J_if_lt 33 (pc' := 14) dX6_isOfKind_11 (by decide) rfl (fun h_11 => ?_) (fun h_11 => absurd (by decide) h_11)
      refine J_iconst (v := 0) (pc' := 34) dX6_isOfKind_33 (by decide) rfl ?_
      exact J_zret dX6_isOfKind_34 (Or.inl rfl) ⟨jv (jb_f (fun q => by simp_all [sOf])).symm, rfl⟩
    · refine J_iconst (v := 1) (pc' := 20) dX6_isOfKind_19 (by decide) rfl ?_
      exact J_zret dX6_isOfKind_20 (Or.inr rfl) ⟨jv (jb_t (by subst h_16; decide)).symm, rfl⟩
  · refine jK_of (own := RX6) [some (.int 1), some (.int c), none, none] pn6 rfl (Nat.le_of_ble_eq_true rfl) rfl ?_
    refine J_iload_n (pc' := 1) dX6_isOfKind_0 rfl rfl ?_
    refine J_istore_n (pc' := 2) dX6_isOfKind_1 (Nat.le_of_ble_eq_true rfl) (jst2 rfl rfl) rfl ?_
    refine J_iconst (v := 0) (pc' := 3) dX6_isOfKind_2 (by decide) rfl ?_
    refine J_istore_n (pc' := 4) dX6_isOfKind_3 (Nat.le_of_ble_eq_true rfl) (jst3 rfl rfl) rfl ?_
    refine J_iload_n (pc' := 5) dX6_isOfKind_4 rfl rfl ?_
    refine J_bipush (v := 7) (pc' := 7) dX6_isOfKind_5 (by decide) rfl ?_
    refine J_icmp_ge 33 (pc' := 10) dX6_isOfKind_7 (by decide) rfl (fun h_7 => absurd h_7 (by decide)) (fun h_7 => ?_)
    refine J_iload_n (pc' := 11) dX6_isOfKind_10 rfl rfl ?_
    refine J_if_lt 33 (pc' := 14) dX6_isOfKind_11 (by decide) rfl (fun h_11 => absurd h_11 (by decide)) (fun h_11 => ?_)
    refine J_iload_n (pc' := 15) dX6_isOfKind_14 rfl rfl ?_
    refine J_iload_n (pc' := 16) dX6_isOfKind_15 rfl rfl ?_
    refine J_icmp_ne 21 (pc' := 19) dX6_isOfKind_16 (by decide) rfl (fun h_16 => ?_) (fun h_16 => ?_)
    · have n_1 : ¬ c = 1 := fun q => h_16 q.symm
      refine J_gets0 (pc' := 24) dX6_isOfKind_21 gs_6_320 rfl ?_
      refine J_iload_n (pc' := 25) dX6_isOfKind_24 rfl rfl ?_
      refine J_ald0 1 (pc' := 26) dX6_isOfKind_25 nIc_1 (by decide) rfl ?_
      rw [show (([-1, 0, 0, 0, 1, 2, 0] : List Int32).getD 1 0) = 0 from by decide]
      refine J_istore_n (pc' := 27) dX6_isOfKind_26 (Nat.le_of_ble_eq_true rfl) (jst2 rfl rfl) rfl ?_
      refine J_iinc (pc' := 30) dX6_isOfKind_27 rfl (Nat.le_of_ble_eq_true rfl) (jst3 rfl rfl) rfl ?_
      refine J_goto (pc' := 0) 4 dX6_isOfKind_30 (by decide) ?_
      refine J_iload_n (pc' := 5) dX6_isOfKind_4 rfl rfl ?_
      refine J_bipush (v := 7) (pc' := 7) dX6_isOfKind_5 (by decide) rfl ?_
      refine J_icmp_ge 33 (pc' := 10) dX6_isOfKind_7 (by decide) rfl (fun h_7 => absurd h_7 (by decide)) (fun h_7 => ?_)
      refine J_iload_n (pc' := 11) dX6_isOfKind_10 rfl rfl ?_
      refine J_if_lt 33 (pc' := 14) dX6_isOfKind_11 (by decide) rfl (fun h_11 => absurd h_11 (by decide)) (fun h_11 => ?_)
      refine J_iload_n (pc' := 15) dX6_isOfKind_14 rfl rfl ?_
      refine J_iload_n (pc' := 16) dX6_isOfKind_15 rfl rfl ?_
      refine J_icmp_ne 21 (pc' := 19) dX6_isOfKind_16 (by decide) rfl (fun h_16 => ?_) (fun h_16 => ?_)
      · have n_0 : ¬ c = 0 := fun q => h_16 q.symm
        refine J_gets0 (pc' := 24) dX6_isOfKind_21 gs_6_320 rfl ?_
        refine J_iload_n (pc' := 25) dX6_isOfKind_24 rfl rfl ?_
        refine J_ald0 0 (pc' := 26) dX6_isOfKind_25 nIc_0 (by decide) rfl ?_
        rw [show (([-1, 0, 0, 0, 1, 2, 0] : List Int32).getD 0 0) = -1 from by decide]
        refine J_istore_n (pc' := 27) dX6_isOfKind_26 (Nat.le_of_ble_eq_true rfl) (jst2 rfl rfl) rfl ?_
        refine J_iinc (pc' := 30) dX6_isOfKind_27 rfl (Nat.le_of_ble_eq_true rfl) (jst3 rfl rfl) rfl ?_
        refine J_goto (pc' := 0) 4 dX6_isOfKind_30 (by decide) ?_
        refine J_iload_n (pc' := 5) dX6_isOfKind_4 rfl rfl ?_
        refine J_bipush (v := 7) (pc' := 7) dX6_isOfKind_5 (by decide) rfl ?_
        refine J_icmp_ge 33 (pc' := 10) dX6_isOfKind_7 (by decide) rfl (fun h_7 => absurd h_7 (by decide)) (fun h_7 => ?_)
        refine J_iload_n (pc' := 11) dX6_isOfKind_10 rfl rfl ?_
        refine J_if_lt 33 (pc' := 14) dX6_isOfKind_11 (by decide) rfl (fun h_11 => ?_) (fun h_11 => absurd (by decide) h_11)
        refine J_iconst (v := 0) (pc' := 34) dX6_isOfKind_33 (by decide) rfl ?_
        exact J_zret dX6_isOfKind_34 (Or.inl rfl) ⟨jv (jb_f (fun q => by simp_all [sOf])).symm, rfl⟩
      · refine J_iconst (v := 1) (pc' := 20) dX6_isOfKind_19 (by decide) rfl ?_
        exact J_zret dX6_isOfKind_20 (Or.inr rfl) ⟨jv (jb_t (by subst h_16; decide)).symm, rfl⟩
    · refine J_iconst (v := 1) (pc' := 20) dX6_isOfKind_19 (by decide) rfl ?_
      exact J_zret dX6_isOfKind_20 (Or.inr rfl) ⟨jv (jb_t (by subst h_16; decide)).symm, rfl⟩
  · refine jK_of (own := RX6) [some (.int 2), some (.int c), none, none] pn6 rfl (Nat.le_of_ble_eq_true rfl) rfl ?_
    refine J_iload_n (pc' := 1) dX6_isOfKind_0 rfl rfl ?_
    refine J_istore_n (pc' := 2) dX6_isOfKind_1 (Nat.le_of_ble_eq_true rfl) (jst2 rfl rfl) rfl ?_
    refine J_iconst (v := 0) (pc' := 3) dX6_isOfKind_2 (by decide) rfl ?_
    refine J_istore_n (pc' := 4) dX6_isOfKind_3 (Nat.le_of_ble_eq_true rfl) (jst3 rfl rfl) rfl ?_
    refine J_iload_n (pc' := 5) dX6_isOfKind_4 rfl rfl ?_
    refine J_bipush (v := 7) (pc' := 7) dX6_isOfKind_5 (by decide) rfl ?_
    refine J_icmp_ge 33 (pc' := 10) dX6_isOfKind_7 (by decide) rfl (fun h_7 => absurd h_7 (by decide)) (fun h_7 => ?_)
    refine J_iload_n (pc' := 11) dX6_isOfKind_10 rfl rfl ?_
    refine J_if_lt 33 (pc' := 14) dX6_isOfKind_11 (by decide) rfl (fun h_11 => absurd h_11 (by decide)) (fun h_11 => ?_)
    refine J_iload_n (pc' := 15) dX6_isOfKind_14 rfl rfl ?_
    refine J_iload_n (pc' := 16) dX6_isOfKind_15 rfl rfl ?_
    refine J_icmp_ne 21 (pc' := 19) dX6_isOfKind_16 (by decide) rfl (fun h_16 => ?_) (fun h_16 => ?_)
    · have n_2 : ¬ c = 2 := fun q => h_16 q.symm
      refine J_gets0 (pc' := 24) dX6_isOfKind_21 gs_6_320 rfl ?_
      refine J_iload_n (pc' := 25) dX6_isOfKind_24 rfl rfl ?_
      refine J_ald0 2 (pc' := 26) dX6_isOfKind_25 nIc_2 (by decide) rfl ?_
      rw [show (([-1, 0, 0, 0, 1, 2, 0] : List Int32).getD 2 0) = 0 from by decide]
      refine J_istore_n (pc' := 27) dX6_isOfKind_26 (Nat.le_of_ble_eq_true rfl) (jst2 rfl rfl) rfl ?_
      refine J_iinc (pc' := 30) dX6_isOfKind_27 rfl (Nat.le_of_ble_eq_true rfl) (jst3 rfl rfl) rfl ?_
      refine J_goto (pc' := 0) 4 dX6_isOfKind_30 (by decide) ?_
      refine J_iload_n (pc' := 5) dX6_isOfKind_4 rfl rfl ?_
      refine J_bipush (v := 7) (pc' := 7) dX6_isOfKind_5 (by decide) rfl ?_
      refine J_icmp_ge 33 (pc' := 10) dX6_isOfKind_7 (by decide) rfl (fun h_7 => absurd h_7 (by decide)) (fun h_7 => ?_)
      refine J_iload_n (pc' := 11) dX6_isOfKind_10 rfl rfl ?_
      refine J_if_lt 33 (pc' := 14) dX6_isOfKind_11 (by decide) rfl (fun h_11 => absurd h_11 (by decide)) (fun h_11 => ?_)
      refine J_iload_n (pc' := 15) dX6_isOfKind_14 rfl rfl ?_
      refine J_iload_n (pc' := 16) dX6_isOfKind_15 rfl rfl ?_
      refine J_icmp_ne 21 (pc' := 19) dX6_isOfKind_16 (by decide) rfl (fun h_16 => ?_) (fun h_16 => ?_)
      · have n_0 : ¬ c = 0 := fun q => h_16 q.symm
        refine J_gets0 (pc' := 24) dX6_isOfKind_21 gs_6_320 rfl ?_
        refine J_iload_n (pc' := 25) dX6_isOfKind_24 rfl rfl ?_
        refine J_ald0 0 (pc' := 26) dX6_isOfKind_25 nIc_0 (by decide) rfl ?_
        rw [show (([-1, 0, 0, 0, 1, 2, 0] : List Int32).getD 0 0) = -1 from by decide]
        refine J_istore_n (pc' := 27) dX6_isOfKind_26 (Nat.le_of_ble_eq_true rfl) (jst2 rfl rfl) rfl ?_
        refine J_iinc (pc' := 30) dX6_isOfKind_27 rfl (Nat.le_of_ble_eq_true rfl) (jst3 rfl rfl) rfl ?_
        refine J_goto (pc' := 0) 4 dX6_isOfKind_30 (by decide) ?_
        refine J_iload_n (pc' := 5) dX6_isOfKind_4 rfl rfl ?_
        refine J_bipush (v := 7) (pc' := 7) dX6_isOfKind_5 (by decide) rfl ?_
        refine J_icmp_ge 33 (pc' := 10) dX6_isOfKind_7 (by decide) rfl (fun h_7 => absurd h_7 (by decide)) (fun h_7 => ?_)
        refine J_iload_n (pc' := 11) dX6_isOfKind_10 rfl rfl ?_
        refine J_if_lt 33 (pc' := 14) dX6_isOfKind_11 (by decide) rfl (fun h_11 => ?_) (fun h_11 => absurd (by decide) h_11)
        refine J_iconst (v := 0) (pc' := 34) dX6_isOfKind_33 (by decide) rfl ?_
        exact J_zret dX6_isOfKind_34 (Or.inl rfl) ⟨jv (jb_f (fun q => by simp_all [sOf])).symm, rfl⟩
      · refine J_iconst (v := 1) (pc' := 20) dX6_isOfKind_19 (by decide) rfl ?_
        exact J_zret dX6_isOfKind_20 (Or.inr rfl) ⟨jv (jb_t (by subst h_16; decide)).symm, rfl⟩
    · refine J_iconst (v := 1) (pc' := 20) dX6_isOfKind_19 (by decide) rfl ?_
      exact J_zret dX6_isOfKind_20 (Or.inr rfl) ⟨jv (jb_t (by subst h_16; decide)).symm, rfl⟩
  · refine jK_of (own := RX6) [some (.int 3), some (.int c), none, none] pn6 rfl (Nat.le_of_ble_eq_true rfl) rfl ?_
    refine J_iload_n (pc' := 1) dX6_isOfKind_0 rfl rfl ?_
    refine J_istore_n (pc' := 2) dX6_isOfKind_1 (Nat.le_of_ble_eq_true rfl) (jst2 rfl rfl) rfl ?_
    refine J_iconst (v := 0) (pc' := 3) dX6_isOfKind_2 (by decide) rfl ?_
    refine J_istore_n (pc' := 4) dX6_isOfKind_3 (Nat.le_of_ble_eq_true rfl) (jst3 rfl rfl) rfl ?_
    refine J_iload_n (pc' := 5) dX6_isOfKind_4 rfl rfl ?_
    refine J_bipush (v := 7) (pc' := 7) dX6_isOfKind_5 (by decide) rfl ?_
    refine J_icmp_ge 33 (pc' := 10) dX6_isOfKind_7 (by decide) rfl (fun h_7 => absurd h_7 (by decide)) (fun h_7 => ?_)
    refine J_iload_n (pc' := 11) dX6_isOfKind_10 rfl rfl ?_
    refine J_if_lt 33 (pc' := 14) dX6_isOfKind_11 (by decide) rfl (fun h_11 => absurd h_11 (by decide)) (fun h_11 => ?_)
    refine J_iload_n (pc' := 15) dX6_isOfKind_14 rfl rfl ?_
    refine J_iload_n (pc' := 16) dX6_isOfKind_15 rfl rfl ?_
    refine J_icmp_ne 21 (pc' := 19) dX6_isOfKind_16 (by decide) rfl (fun h_16 => ?_) (fun h_16 => ?_)
    · have n_3 : ¬ c = 3 := fun q => h_16 q.symm
      refine J_gets0 (pc' := 24) dX6_isOfKind_21 gs_6_320 rfl ?_
      refine J_iload_n (pc' := 25) dX6_isOfKind_24 rfl rfl ?_
      refine J_ald0 3 (pc' := 26) dX6_isOfKind_25 nIc_3 (by decide) rfl ?_
      rw [show (([-1, 0, 0, 0, 1, 2, 0] : List Int32).getD 3 0) = 0 from by decide]
      refine J_istore_n (pc' := 27) dX6_isOfKind_26 (Nat.le_of_ble_eq_true rfl) (jst2 rfl rfl) rfl ?_
      refine J_iinc (pc' := 30) dX6_isOfKind_27 rfl (Nat.le_of_ble_eq_true rfl) (jst3 rfl rfl) rfl ?_
      refine J_goto (pc' := 0) 4 dX6_isOfKind_30 (by decide) ?_
      refine J_iload_n (pc' := 5) dX6_isOfKind_4 rfl rfl ?_
      refine J_bipush (v := 7) (pc' := 7) dX6_isOfKind_5 (by decide) rfl ?_
      refine J_icmp_ge 33 (pc' := 10) dX6_isOfKind_7 (by decide) rfl (fun h_7 => absurd h_7 (by decide)) (fun h_7 => ?_)
      refine J_iload_n (pc' := 11) dX6_isOfKind_10 rfl rfl ?_
      refine J_if_lt 33 (pc' := 14) dX6_isOfKind_11 (by decide) rfl (fun h_11 => absurd h_11 (by decide)) (fun h_11 => ?_)
      refine J_iload_n (pc' := 15) dX6_isOfKind_14 rfl rfl ?_
      refine J_iload_n (pc' := 16) dX6_isOfKind_15 rfl rfl ?_
      refine J_icmp_ne 21 (pc' := 19) dX6_isOfKind_16 (by decide) rfl (fun h_16 => ?_) (fun h_16 => ?_)
      · have n_0 : ¬ c = 0 := fun q => h_16 q.symm
        refine J_gets0 (pc' := 24) dX6_isOfKind_21 gs_6_320 rfl ?_
        refine J_iload_n (pc' := 25) dX6_isOfKind_24 rfl rfl ?_
        refine J_ald0 0 (pc' := 26) dX6_isOfKind_25 nIc_0 (by decide) rfl ?_
        rw [show (([-1, 0, 0, 0, 1, 2, 0] : List Int32).getD 0 0) = -1 from by decide]
        refine J_istore_n (pc' := 27) dX6_isOfKind_26 (Nat.le_of_ble_eq_true rfl) (jst2 rfl rfl) rfl ?_
        refine J_iinc (pc' := 30) dX6_isOfKind_27 rfl (Nat.le_of_ble_eq_true rfl) (jst3 rfl rfl) rfl ?_
        refine J_goto (pc' := 0) 4 dX6_isOfKind_30 (by decide) ?_
        refine J_iload_n (pc' := 5) dX6_isOfKind_4 rfl rfl ?_
        refine J_bipush (v := 7) (pc' := 7) dX6_isOfKind_5 (by decide) rfl ?_
        refine J_icmp_ge 33 (pc' := 10) dX6_isOfKind_7 (by decide) rfl (fun h_7 => absurd h_7 (by decide)) (fun h_7 => ?_)
        refine J_iload_n (pc' := 11) dX6_isOfKind_10 rfl rfl ?_
        refine J_if_lt 33 (pc' := 14) dX6_isOfKind_11 (by decide) rfl (fun h_11 => ?_) (fun h_11 => absurd (by decide) h_11)
        refine J_iconst (v := 0) (pc' := 34) dX6_isOfKind_33 (by decide) rfl ?_
        exact J_zret dX6_isOfKind_34 (Or.inl rfl) ⟨jv (jb_f (fun q => by simp_all [sOf])).symm, rfl⟩
      · refine J_iconst (v := 1) (pc' := 20) dX6_isOfKind_19 (by decide) rfl ?_
        exact J_zret dX6_isOfKind_20 (Or.inr rfl) ⟨jv (jb_t (by subst h_16; decide)).symm, rfl⟩
    · refine J_iconst (v := 1) (pc' := 20) dX6_isOfKind_19 (by decide) rfl ?_
      exact J_zret dX6_isOfKind_20 (Or.inr rfl) ⟨jv (jb_t (by subst h_16; decide)).symm, rfl⟩
  · refine jK_of (own := RX6) [some (.int 4), some (.int c), none, none] pn6 rfl (Nat.le_of_ble_eq_true rfl) rfl ?_
    refine J_iload_n (pc' := 1) dX6_isOfKind_0 rfl rfl ?_
    refine J_istore_n (pc' := 2) dX6_isOfKind_1 (Nat.le_of_ble_eq_true rfl) (jst2 rfl rfl) rfl ?_
    refine J_iconst (v := 0) (pc' := 3) dX6_isOfKind_2 (by decide) rfl ?_
    refine J_istore_n (pc' := 4) dX6_isOfKind_3 (Nat.le_of_ble_eq_true rfl) (jst3 rfl rfl) rfl ?_
    refine J_iload_n (pc' := 5) dX6_isOfKind_4 rfl rfl ?_
    refine J_bipush (v := 7) (pc' := 7) dX6_isOfKind_5 (by decide) rfl ?_
    refine J_icmp_ge 33 (pc' := 10) dX6_isOfKind_7 (by decide) rfl (fun h_7 => absurd h_7 (by decide)) (fun h_7 => ?_)
    refine J_iload_n (pc' := 11) dX6_isOfKind_10 rfl rfl ?_
    refine J_if_lt 33 (pc' := 14) dX6_isOfKind_11 (by decide) rfl (fun h_11 => absurd h_11 (by decide)) (fun h_11 => ?_)
    refine J_iload_n (pc' := 15) dX6_isOfKind_14 rfl rfl ?_
    refine J_iload_n (pc' := 16) dX6_isOfKind_15 rfl rfl ?_
    refine J_icmp_ne 21 (pc' := 19) dX6_isOfKind_16 (by decide) rfl (fun h_16 => ?_) (fun h_16 => ?_)
    · have n_4 : ¬ c = 4 := fun q => h_16 q.symm
      refine J_gets0 (pc' := 24) dX6_isOfKind_21 gs_6_320 rfl ?_
      refine J_iload_n (pc' := 25) dX6_isOfKind_24 rfl rfl ?_
      refine J_ald0 4 (pc' := 26) dX6_isOfKind_25 nIc_4 (by decide) rfl ?_
      rw [show (([-1, 0, 0, 0, 1, 2, 0] : List Int32).getD 4 0) = 1 from by decide]
      refine J_istore_n (pc' := 27) dX6_isOfKind_26 (Nat.le_of_ble_eq_true rfl) (jst2 rfl rfl) rfl ?_
      refine J_iinc (pc' := 30) dX6_isOfKind_27 rfl (Nat.le_of_ble_eq_true rfl) (jst3 rfl rfl) rfl ?_
      refine J_goto (pc' := 0) 4 dX6_isOfKind_30 (by decide) ?_
      refine J_iload_n (pc' := 5) dX6_isOfKind_4 rfl rfl ?_
      refine J_bipush (v := 7) (pc' := 7) dX6_isOfKind_5 (by decide) rfl ?_
      refine J_icmp_ge 33 (pc' := 10) dX6_isOfKind_7 (by decide) rfl (fun h_7 => absurd h_7 (by decide)) (fun h_7 => ?_)
      refine J_iload_n (pc' := 11) dX6_isOfKind_10 rfl rfl ?_
      refine J_if_lt 33 (pc' := 14) dX6_isOfKind_11 (by decide) rfl (fun h_11 => absurd h_11 (by decide)) (fun h_11 => ?_)
      refine J_iload_n (pc' := 15) dX6_isOfKind_14 rfl rfl ?_
      refine J_iload_n (pc' := 16) dX6_isOfKind_15 rfl rfl ?_
      refine J_icmp_ne 21 (pc' := 19) dX6_isOfKind_16 (by decide) rfl (fun h_16 => ?_) (fun h_16 => ?_)
      · have n_1 : ¬ c = 1 := fun q => h_16 q.symm
        refine J_gets0 (pc' := 24) dX6_isOfKind_21 gs_6_320 rfl ?_
        refine J_iload_n (pc' := 25) dX6_isOfKind_24 rfl rfl ?_
        refine J_ald0 1 (pc' := 26) dX6_isOfKind_25 nIc_1 (by decide) rfl ?_
        rw [show (([-1, 0, 0, 0, 1, 2, 0] : List Int32).getD 1 0) = 0 from by decide]
        refine J_istore_n (pc' := 27) dX6_isOfKind_26 (Nat.le_of_ble_eq_true rfl) (jst2 rfl rfl) rfl ?_
        refine J_iinc (pc' := 30) dX6_isOfKind_27 rfl (Nat.le_of_ble_eq_true rfl) (jst3 rfl rfl) rfl ?_
        refine J_goto (pc' := 0) 4 dX6_isOfKind_30 (by decide) ?_
        refine J_iload_n (pc' := 5) dX6_isOfKind_4 rfl rfl ?_
        refine J_bipush (v := 7) (pc' := 7) dX6_isOfKind_5 (by decide) rfl ?_
        refine J_icmp_ge 33 (pc' := 10) dX6_isOfKind_7 (by decide) rfl (fun h_7 => absurd h_7 (by decide)) (fun h_7 => ?_)
        refine J_iload_n (pc' := 11) dX6_isOfKind_10 rfl rfl ?_
        refine J_if_lt 33 (pc' := 14) dX6_isOfKind_11 (by decide) rfl (fun h_11 => absurd h_11 (by decide)) (fun h_11 => ?_)
        refine J_iload_n (pc' := 15) dX6_isOfKind_14 rfl rfl ?_
        refine J_iload_n (pc' := 16) dX6_isOfKind_15 rfl rfl ?_
        refine J_icmp_ne 21 (pc' := 19) dX6_isOfKind_16 (by decide) rfl (fun h_16 => ?_) (fun h_16 => ?_)
        · have n_0 : ¬ c = 0 := fun q => h_16 q.symm
          refine J_gets0 (pc' := 24) dX6_isOfKind_21 gs_6_320 rfl ?_
          refine J_iload_n (pc' := 25) dX6_isOfKind_24 rfl rfl ?_
          refine J_ald0 0 (pc' := 26) dX6_isOfKind_25 nIc_0 (by decide) rfl ?_
          rw [show (([-1, 0, 0, 0, 1, 2, 0] : List Int32).getD 0 0) = -1 from by decide]
          refine J_istore_n (pc' := 27) dX6_isOfKind_26 (Nat.le_of_ble_eq_true rfl) (jst2 rfl rfl) rfl ?_
          refine J_iinc (pc' := 30) dX6_isOfKind_27 rfl (Nat.le_of_ble_eq_true rfl) (jst3 rfl rfl) rfl ?_
          refine J_goto (pc' := 0) 4 dX6_isOfKind_30 (by decide) ?_
          refine J_iload_n (pc' := 5) dX6_isOfKind_4 rfl rfl ?_
          refine J_bipush (v := 7) (pc' := 7) dX6_isOfKind_5 (by decide) rfl ?_
          refine J_icmp_ge 33 (pc' := 10) dX6_isOfKind_7 (by decide) rfl (fun h_7 => absurd h_7 (by decide)) (fun h_7 => ?_)
          refine J_iload_n (pc' := 11) dX6_isOfKind_10 rfl rfl ?_
          refine J_if_lt 33 (pc' := 14) dX6_isOfKind_11 (by decide) rfl (fun h_11 => ?_) (fun h_11 => absurd (by decide) h_11)
          refine J_iconst (v := 0) (pc' := 34) dX6_isOfKind_33 (by decide) rfl ?_
          exact J_zret dX6_isOfKind_34 (Or.inl rfl) ⟨jv (jb_f (fun q => by simp_all [sOf])).symm, rfl⟩
        · refine J_iconst (v := 1) (pc' := 20) dX6_isOfKind_19 (by decide) rfl ?_
          exact J_zret dX6_isOfKind_20 (Or.inr rfl) ⟨jv (jb_t (by subst h_16; decide)).symm, rfl⟩
      · refine J_iconst (v := 1) (pc' := 20) dX6_isOfKind_19 (by decide) rfl ?_
        exact J_zret dX6_isOfKind_20 (Or.inr rfl) ⟨jv (jb_t (by subst h_16; decide)).symm, rfl⟩
    · refine J_iconst (v := 1) (pc' := 20) dX6_isOfKind_19 (by decide) rfl ?_
      exact J_zret dX6_isOfKind_20 (Or.inr rfl) ⟨jv (jb_t (by subst h_16; decide)).symm, rfl⟩
  · refine jK_of (own := RX6) [some (.int 5), some (.int c), none, none] pn6 rfl (Nat.le_of_ble_eq_true rfl) rfl ?_
    refine J_iload_n (pc' := 1) dX6_isOfKind_0 rfl rfl ?_
    refine J_istore_n (pc' := 2) dX6_isOfKind_1 (Nat.le_of_ble_eq_true rfl) (jst2 rfl rfl) rfl ?_
    refine J_iconst (v := 0) (pc' := 3) dX6_isOfKind_2 (by decide) rfl ?_
    refine J_istore_n (pc' := 4) dX6_isOfKind_3 (Nat.le_of_ble_eq_true rfl) (jst3 rfl rfl) rfl ?_
    refine J_iload_n (pc' := 5) dX6_isOfKind_4 rfl rfl ?_
    refine J_bipush (v := 7) (pc' := 7) dX6_isOfKind_5 (by decide) rfl ?_
    refine J_icmp_ge 33 (pc' := 10) dX6_isOfKind_7 (by decide) rfl (fun h_7 => absurd h_7 (by decide)) (fun h_7 => ?_)
    refine J_iload_n (pc' := 11) dX6_isOfKind_10 rfl rfl ?_
    refine J_if_lt 33 (pc' := 14) dX6_isOfKind_11 (by decide) rfl (fun h_11 => absurd h_11 (by decide)) (fun h_11 => ?_)
    refine J_iload_n (pc' := 15) dX6_isOfKind_14 rfl rfl ?_
    refine J_iload_n (pc' := 16) dX6_isOfKind_15 rfl rfl ?_
    refine J_icmp_ne 21 (pc' := 19) dX6_isOfKind_16 (by decide) rfl (fun h_16 => ?_) (fun h_16 => ?_)
    · have n_5 : ¬ c = 5 := fun q => h_16 q.symm
      refine J_gets0 (pc' := 24) dX6_isOfKind_21 gs_6_320 rfl ?_
      refine J_iload_n (pc' := 25) dX6_isOfKind_24 rfl rfl ?_
      refine J_ald0 5 (pc' := 26) dX6_isOfKind_25 nIc_5 (by decide) rfl ?_
      rw [show (([-1, 0, 0, 0, 1, 2, 0] : List Int32).getD 5 0) = 2 from by decide]
      refine J_istore_n (pc' := 27) dX6_isOfKind_26 (Nat.le_of_ble_eq_true rfl) (jst2 rfl rfl) rfl ?_
      refine J_iinc (pc' := 30) dX6_isOfKind_27 rfl (Nat.le_of_ble_eq_true rfl) (jst3 rfl rfl) rfl ?_
      refine J_goto (pc' := 0) 4 dX6_isOfKind_30 (by decide) ?_
      refine J_iload_n (pc' := 5) dX6_isOfKind_4 rfl rfl ?_
      refine J_bipush (v := 7) (pc' := 7) dX6_isOfKind_5 (by decide) rfl ?_
      refine J_icmp_ge 33 (pc' := 10) dX6_isOfKind_7 (by decide) rfl (fun h_7 => absurd h_7 (by decide)) (fun h_7 => ?_)
      refine J_iload_n (pc' := 11) dX6_isOfKind_10 rfl rfl ?_
      refine J_if_lt 33 (pc' := 14) dX6_isOfKind_11 (by decide) rfl (fun h_11 => absurd h_11 (by decide)) (fun h_11 => ?_)
      refine J_iload_n (pc' := 15) dX6_isOfKind_14 rfl rfl ?_
      refine J_iload_n (pc' := 16) dX6_isOfKind_15 rfl rfl ?_
      refine J_icmp_ne 21 (pc' := 19) dX6_isOfKind_16 (by decide) rfl (fun h_16 => ?_) (fun h_16 => ?_)
      · have n_2 : ¬ c = 2 := fun q => h_16 q.symm
        refine J_gets0 (pc' := 24) dX6_isOfKind_21 gs_6_320 rfl ?_
        refine J_iload_n (pc' := 25) dX6_isOfKind_24 rfl rfl ?_
        refine J_ald0 2 (pc' := 26) dX6_isOfKind_25 nIc_2 (by decide) rfl ?_
        rw [show (([-1, 0, 0, 0, 1, 2, 0] : List Int32).getD 2 0) = 0 from by decide]
        refine J_istore_n (pc' := 27) dX6_isOfKind_26 (Nat.le_of_ble_eq_true rfl) (jst2 rfl rfl) rfl ?_
        refine J_iinc (pc' := 30) dX6_isOfKind_27 rfl (Nat.le_of_ble_eq_true rfl) (jst3 rfl rfl) rfl ?_
        refine J_goto (pc' := 0) 4 dX6_isOfKind_30 (by decide) ?_
        refine J_iload_n (pc' := 5) dX6_isOfKind_4 rfl rfl ?_
        refine J_bipush (v := 7) (pc' := 7) dX6_isOfKind_5 (by decide) rfl ?_
        refine J_icmp_ge 33 (pc' := 10) dX6_isOfKind_7 (by decide) rfl (fun h_7 => absurd h_7 (by decide)) (fun h_7 => ?_)
        refine J_iload_n (pc' := 11) dX6_isOfKind_10 rfl rfl ?_
        refine J_if_lt 33 (pc' := 14) dX6_isOfKind_11 (by decide) rfl (fun h_11 => absurd h_11 (by decide)) (fun h_11 => ?_)
        refine J_iload_n (pc' := 15) dX6_isOfKind_14 rfl rfl ?_
        refine J_iload_n (pc' := 16) dX6_isOfKind_15 rfl rfl ?_
        refine J_icmp_ne 21 (pc' := 19) dX6_isOfKind_16 (by decide) rfl (fun h_16 => ?_) (fun h_16 => ?_)
        · have n_0 : ¬ c = 0 := fun q => h_16 q.symm
          refine J_gets0 (pc' := 24) dX6_isOfKind_21 gs_6_320 rfl ?_
          refine J_iload_n (pc' := 25) dX6_isOfKind_24 rfl rfl ?_
          refine J_ald0 0 (pc' := 26) dX6_isOfKind_25 nIc_0 (by decide) rfl ?_
          rw [show (([-1, 0, 0, 0, 1, 2, 0] : List Int32).getD 0 0) = -1 from by decide]
          refine J_istore_n (pc' := 27) dX6_isOfKind_26 (Nat.le_of_ble_eq_true rfl) (jst2 rfl rfl) rfl ?_
          refine J_iinc (pc' := 30) dX6_isOfKind_27 rfl (Nat.le_of_ble_eq_true rfl) (jst3 rfl rfl) rfl ?_
          refine J_goto (pc' := 0) 4 dX6_isOfKind_30 (by decide) ?_
          refine J_iload_n (pc' := 5) dX6_isOfKind_4 rfl rfl ?_
          refine J_bipush (v := 7) (pc' := 7) dX6_isOfKind_5 (by decide) rfl ?_
          refine J_icmp_ge 33 (pc' := 10) dX6_isOfKind_7 (by decide) rfl (fun h_7 => absurd h_7 (by decide)) (fun h_7 => ?_)
          refine J_iload_n (pc' := 11) dX6_isOfKind_10 rfl rfl ?_
          refine J_if_lt 33 (pc' := 14) dX6_isOfKind_11 (by decide) rfl (fun h_11 => ?_) (fun h_11 => absurd (by decide) h_11)
          refine J_iconst (v := 0) (pc' := 34) dX6_isOfKind_33 (by decide) rfl ?_
          exact J_zret dX6_isOfKind_34 (Or.inl rfl) ⟨jv (jb_f (fun q => by simp_all [sOf])).symm, rfl⟩
        · refine J_iconst (v := 1) (pc' := 20) dX6_isOfKind_19 (by decide) rfl ?_
          exact J_zret dX6_isOfKind_20 (Or.inr rfl) ⟨jv (jb_t (by subst h_16; decide)).symm, rfl⟩
      · refine J_iconst (v := 1) (pc' := 20) dX6_isOfKind_19 (by decide) rfl ?_
        exact J_zret dX6_isOfKind_20 (Or.inr rfl) ⟨jv (jb_t (by subst h_16; decide)).symm, rfl⟩
    · refine J_iconst (v := 1) (pc' := 20) dX6_isOfKind_19 (by decide) rfl ?_
      exact J_zret dX6_isOfKind_20 (Or.inr rfl) ⟨jv (jb_t (by subst h_16; decide)).symm, rfl⟩
  · refine jK_of (own := RX6) [some (.int 6), some (.int c), none, none] pn6 rfl (Nat.le_of_ble_eq_true rfl) rfl ?_
    refine J_iload_n (pc' := 1) dX6_isOfKind_0 rfl rfl ?_
    refine J_istore_n (pc' := 2) dX6_isOfKind_1 (Nat.le_of_ble_eq_true rfl) (jst2 rfl rfl) rfl ?_
    refine J_iconst (v := 0) (pc' := 3) dX6_isOfKind_2 (by decide) rfl ?_
    refine J_istore_n (pc' := 4) dX6_isOfKind_3 (Nat.le_of_ble_eq_true rfl) (jst3 rfl rfl) rfl ?_
    refine J_iload_n (pc' := 5) dX6_isOfKind_4 rfl rfl ?_
    refine J_bipush (v := 7) (pc' := 7) dX6_isOfKind_5 (by decide) rfl ?_
    refine J_icmp_ge 33 (pc' := 10) dX6_isOfKind_7 (by decide) rfl (fun h_7 => absurd h_7 (by decide)) (fun h_7 => ?_)
    refine J_iload_n (pc' := 11) dX6_isOfKind_10 rfl rfl ?_
    refine J_if_lt 33 (pc' := 14) dX6_isOfKind_11 (by decide) rfl (fun h_11 => absurd h_11 (by decide)) (fun h_11 => ?_)
    refine J_iload_n (pc' := 15) dX6_isOfKind_14 rfl rfl ?_
    refine J_iload_n (pc' := 16) dX6_isOfKind_15 rfl rfl ?_
    refine J_icmp_ne 21 (pc' := 19) dX6_isOfKind_16 (by decide) rfl (fun h_16 => ?_) (fun h_16 => ?_)
    · have n_6 : ¬ c = 6 := fun q => h_16 q.symm
      refine J_gets0 (pc' := 24) dX6_isOfKind_21 gs_6_320 rfl ?_
      refine J_iload_n (pc' := 25) dX6_isOfKind_24 rfl rfl ?_
      refine J_ald0 6 (pc' := 26) dX6_isOfKind_25 nIc_6 (by decide) rfl ?_
      rw [show (([-1, 0, 0, 0, 1, 2, 0] : List Int32).getD 6 0) = 0 from by decide]
      refine J_istore_n (pc' := 27) dX6_isOfKind_26 (Nat.le_of_ble_eq_true rfl) (jst2 rfl rfl) rfl ?_
      refine J_iinc (pc' := 30) dX6_isOfKind_27 rfl (Nat.le_of_ble_eq_true rfl) (jst3 rfl rfl) rfl ?_
      refine J_goto (pc' := 0) 4 dX6_isOfKind_30 (by decide) ?_
      refine J_iload_n (pc' := 5) dX6_isOfKind_4 rfl rfl ?_
      refine J_bipush (v := 7) (pc' := 7) dX6_isOfKind_5 (by decide) rfl ?_
      refine J_icmp_ge 33 (pc' := 10) dX6_isOfKind_7 (by decide) rfl (fun h_7 => absurd h_7 (by decide)) (fun h_7 => ?_)
      refine J_iload_n (pc' := 11) dX6_isOfKind_10 rfl rfl ?_
      refine J_if_lt 33 (pc' := 14) dX6_isOfKind_11 (by decide) rfl (fun h_11 => absurd h_11 (by decide)) (fun h_11 => ?_)
      refine J_iload_n (pc' := 15) dX6_isOfKind_14 rfl rfl ?_
      refine J_iload_n (pc' := 16) dX6_isOfKind_15 rfl rfl ?_
      refine J_icmp_ne 21 (pc' := 19) dX6_isOfKind_16 (by decide) rfl (fun h_16 => ?_) (fun h_16 => ?_)
      · have n_0 : ¬ c = 0 := fun q => h_16 q.symm
        refine J_gets0 (pc' := 24) dX6_isOfKind_21 gs_6_320 rfl ?_
        refine J_iload_n (pc' := 25) dX6_isOfKind_24 rfl rfl ?_
        refine J_ald0 0 (pc' := 26) dX6_isOfKind_25 nIc_0 (by decide) rfl ?_
        rw [show (([-1, 0, 0, 0, 1, 2, 0] : List Int32).getD 0 0) = -1 from by decide]
        refine J_istore_n (pc' := 27) dX6_isOfKind_26 (Nat.le_of_ble_eq_true rfl) (jst2 rfl rfl) rfl ?_
        refine J_iinc (pc' := 30) dX6_isOfKind_27 rfl (Nat.le_of_ble_eq_true rfl) (jst3 rfl rfl) rfl ?_
        refine J_goto (pc' := 0) 4 dX6_isOfKind_30 (by decide) ?_
        refine J_iload_n (pc' := 5) dX6_isOfKind_4 rfl rfl ?_
        refine J_bipush (v := 7) (pc' := 7) dX6_isOfKind_5 (by decide) rfl ?_
        refine J_icmp_ge 33 (pc' := 10) dX6_isOfKind_7 (by decide) rfl (fun h_7 => absurd h_7 (by decide)) (fun h_7 => ?_)
        refine J_iload_n (pc' := 11) dX6_isOfKind_10 rfl rfl ?_
        refine J_if_lt 33 (pc' := 14) dX6_isOfKind_11 (by decide) rfl (fun h_11 => ?_) (fun h_11 => absurd (by decide) h_11)
        refine J_iconst (v := 0) (pc' := 34) dX6_isOfKind_33 (by decide) rfl ?_
        exact J_zret dX6_isOfKind_34 (Or.inl rfl) ⟨jv (jb_f (fun q => by simp_all [sOf])).symm, rfl⟩
      · refine J_iconst (v := 1) (pc' := 20) dX6_isOfKind_19 (by decide) rfl ?_
        exact J_zret dX6_isOfKind_20 (Or.inr rfl) ⟨jv (jb_t (by subst h_16; decide)).symm, rfl⟩
    · refine J_iconst (v := 1) (pc' := 20) dX6_isOfKind_19 (by decide) rfl ?_
      exact J_zret dX6_isOfKind_20 (Or.inr rfl) ⟨jv (jb_t (by subst h_16; decide)).symm, rfl⟩
