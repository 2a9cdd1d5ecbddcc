/-! ===== both sides: each call ===== -/
/-! each call -/
theorem sn_nI {σ : sg} (hI : sInv σ) {x : Int32} (h : sIsM σ x) : nn x < sM σ := by
  obtain ⟨k, hk, rfl⟩ := sIsM_ex hI h
  have := (sIM hI).2
  rw [nn_nI (by omega)]; exact hk
theorem g_mark {s k k2 r : sg} (h : Gd s k k2 r) (km f t td : Int32) : Gq (sq_mark s k r km f t td) (sq_mark s k2 r km f t td) := by
  unfold sq_mark
  refine Gq_if (fun c => Gq_if (fun _ => Gq_er h 4) (fun d => ?_)) (fun _ => Gq_er h 1)
  have hM : sM s < 8 := by
    obtain ⟨e, h8⟩ := sIM h.1
    rw [e] at d
    exact Nat.lt_of_not_le (fun q => d (nI_le q (by omega)))
  obtain ⟨q1, q2⟩ := inv_add h.1 c.1 c.2.1 c.2.2.1 c.2.2.2.1 c.2.2.2.2 hM
  exact Gq_s h q1 q2
theorem g_markIs {s k k2 r : sg} (h : Gd s k k2 r) (x y : Int32) : Gq (sq_markIs s k r x y) (sq_markIs s k2 r x y) := by
  unfold sq_markIs
  exact Gq_if (fun _ => Gq_if (fun _ => Gq_rf h) (fun _ => Gq_if (fun _ => Gq_rf h) (fun _ => Gq_if (fun _ => Gq_rf h) (fun _ => Gq_if (fun _ => Gq_rf h) (fun _ => Gq_if (fun _ => Gq_rf h) (fun _ => Gq_if (fun _ => Gq_rf h) (fun _ => Gq_if (fun _ => Gq_rf h) (fun _ => Gq_if (fun _ => Gq_rf h) (fun _ => Gq_er h 1))))))))) (fun _ => Gq_er h 1)
theorem g_become {s k k2 r : sg} (h : Gd s k k2 r) (x km : Int32) : Gq (sq_become s k r x km) (sq_become s k2 r x km) := by
  unfold sq_become
  exact Gq_if (fun c => Gq_s h (inv_1 (inv_0 h.1 (km_ok c.2).1) (km_ok c.2).2) (by rw [sR_sg1 (Or.inl (by decide)), sR_sg1 (Or.inl (by decide))])) (fun _ => Gq_er h 1)
theorem g_as {s k k2 r : sg} (h : Gd s k k2 r) (x c : Int32) : Gq (sq_as s k r x c) (sq_as s k2 r x c) := by
  unfold sq_as
  exact Gq_if (fun _ => Gq_if (fun _ => Gq_rf h) (fun _ => Gq_er h 5)) (fun _ => Gq_er h 1)
theorem g_measure {s k k2 r : sg} (h : Gd s k k2 r) (x v : Int32) : Gq (sq_measure s k r x v) (sq_measure s k2 r x v) := by
  unfold sq_measure
  exact Gq_if (fun c => Gq_s h (inv_4 h.1 (i32_in c.2)) (sR_sg1 (Or.inl (by decide)))) (fun _ => Gq_er h 1)
theorem g_on {s k k2 r : sg} (h : Gd s k k2 r) (x v : Int32) : Gq (sq_on s k r x v) (sq_on s k2 r x v) := by
  unfold sq_on
  refine Gq_if (fun c => Gq_s h (inv_5 h.1 (sn_nI h.1 c.1) ?_) (sR_sg1 (Or.inl (by decide)))) (fun _ => Gq_er h 1)
  by_cases e : v = 1
  · rw [if_pos e]; exact Or.inr rfl
  · rw [if_neg e]; exact Or.inl rfl
theorem g_pictures {s k k2 r : sg} (h : Gd s k k2 r) (n : Int32) : Gq (sq_pictures s k r n) (sq_pictures s k2 r n) := by
  unfold sq_pictures
  refine Gq_if (fun c => Gq_if (fun _ => Gq_er h 3) (fun d => ?_)) (fun _ => Gq_er h 1)
  obtain ⟨q1, q2⟩ := inv_pic h.1 c d
  exact Gq_s h q1 q2
theorem g_limit {s k k2 r : sg} (h : Gd s k k2 r) (v : Int32) : Gq (sq_limit s k r v) (sq_limit s k2 r v) := by
  unfold sq_limit
  exact Gq_if (fun c => Gq_s h (inv_63 h.1 (i32_in c)) (sR_sg1 (Or.inr (by decide)))) (fun _ => Gq_er h 1)
theorem g_feed {s k k2 r : sg} (h : Gd s k k2 r) (x : Int64) (n : Int32) : Gq (sq_feed s k r x n) (sq_feed s k2 r x n) := by
  unfold sq_feed
  refine Gq_if (fun c => Gq_if (fun d => ?_) (fun _ => Gq_er h 4)) (fun _ => Gq_er h 1)
  obtain ⟨m, m8, m1, rfl⟩ := rng_ex (n := 8) (by omega) c
  obtain ⟨e6, h6⟩ := sIF h.1
  rw [e6] at d
  have d2 := Int32.le_iff_toInt_le.mp d
  rw [show (60 : Int32) - nI (nn (s 6 6)) = nI (60 - nn (s 6 6)) from by
    apply Int32.toInt_inj.mp
    rw [Int32.toInt_sub, nI_toInt (by omega), nI_toInt (by omega), show (60 : Int32).toInt = 60 from by decide, Int.bmod_eq_of_le (by omega) (by omega)]
    omega, nI_toInt (by omega), nI_toInt (by omega)] at d2
  rw [nn_nI (by omega)]
  refine Gq_s h (inv_feed h.1 x e6 m (by omega)).1 ?_
  have key : ∀ i, sR (sFeed s x i) = sR s := by
    intro i
    induction i with
    | zero => rfl
    | succ i ih => rw [sFeed, sR_sg1 (Or.inr (by decide)), sR_sg1 (Or.inl (by decide)), ih]
  exact key m
theorem g_text {s k k2 r : sg} (h : Gd s k k2 r) (x : Int32) : Gq (sq_text s k r x) (sq_text s k2 r x) := by
  unfold sq_text
  refine Gq_if (fun c => Gq_if (fun d => ?_) (fun _ => Gq_s h (inv_66 h.1 ⟨0, rfl, by omega⟩) (sR_sg1 (Or.inr (by decide))))) (fun _ => Gq_er h 1)
  obtain ⟨u, hu, rfl⟩ := rng0_ex (n := 1) (by omega) c
  rw [nn_nI (by omega)] at d ⊢
  refine Gq_s h (inv_text h.1 (by omega) d.1) ?_
  unfold sR sTxt
  rw [if_neg (by omega), if_neg (by omega), if_neg (by omega)]
theorem g_untell {s k k2 r : sg} (h : Gd s k k2 r) (x : Int32) : Gq (sq_untell s k r x) (sq_untell s k2 r x) := by
  unfold sq_untell
  refine Gq_if (fun c => ?_) (fun _ => Gq_er h 1)
  obtain ⟨u, hu, rfl⟩ := rng0_ex (n := 1) (by omega) c
  rw [nn_nI (by omega)]
  obtain ⟨q1, q2⟩ := inv_unt (u := u) h.1 (by omega)
  exact Gq_s h q1 q2
theorem g_law {s k k2 r : sg} (h : Gd s k k2 r) (x a b c : Int32) : Gq (sq_law s k r x a b c) (sq_law s k2 r x a b c) := by
  unfold sq_law
  exact Gq_if (fun _ => Gq_rf h) (fun _ => Gq_er h 1)
theorem g_rounds {s k k2 r : sg} (h : Gd s k k2 r) (n : Int32) : Gq (sq_rounds s k r n) (sq_rounds s k2 r n) := by
  unfold sq_rounds
  refine Gq_if (fun c => Gq_if (fun d => ?_) (fun _ => Gq_er h 3)) (fun _ => Gq_er h 1)
  obtain ⟨m, m8, m1, rfl⟩ := rng_ex (n := 60) (by omega) c
  have hr := rnd_le h.1 m8 d
  rw [nn_nI (by omega)]
  obtain ⟨q1, -, -, q2⟩ := inv_goN h.1 m (by omega)
  exact ⟨rfl, rfl, rfl, h.s q1 (by rw [q2]; exact hr)⟩
theorem g_loose {s k k2 r : sg} (h : Gd s k k2 r) (n : Int32) : Gq (sq_loose s k r n) (sq_loose s k2 r n) := by
  unfold sq_loose
  refine Gq_if (fun c => Gq_if (fun d => ?_) (fun _ => Gq_er h 3)) (fun _ => Gq_er h 1)
  obtain ⟨m, m8, m1, rfl⟩ := rng_ex (n := 30) (by omega) c
  have hr := rnd_le h.1 (n := m) (by omega) d
  rw [nn_nI (by omega)]
  obtain ⟨q1, -, -, q2⟩ := inv_loN h.1 m (by omega)
  exact ⟨rfl, rfl, rfl, h.s q1 (by rw [q2]; exact hr)⟩
theorem g_round {s k k2 r : sg} (h : Gd s k k2 r) (v : Int32) : Gq (sq_round s k r v) (sq_round s k2 r v) := by
  unfold sq_round
  refine Gq_if (fun c => ?_) (fun _ => Gq_er h 1)
  obtain ⟨m, m8, rfl⟩ := rng0_ex (n := 9999) (by omega) c
  refine ⟨rfl, rfl, rfl, h.s (inv_62 h.1 ⟨m, rfl, by omega⟩) ?_⟩
  show nn (sg1 s 6 2 (nI m) 6 2) ≤ 9999
  rw [sg1_at, nn_nI (by omega)]
  exact m8
theorem g_seed {s k k2 r : sg} (h : Gd s k k2 r) (v : Int32) : Gq (sq_seed s k r v) (sq_seed s k2 r v) := Gq_s h (inv_65 h.1) (sR_sg1 (Or.inr (by decide)))
theorem g_place {s k k2 r : sg} (h : Gd s k k2 r) (x p : Int32) : Gq (sq_place s k r x p) (sm_place s k2 r x p) := by
  rw [place_eq h.1]
  unfold sq_place
  exact Gq_if (fun _ => Gq_if (fun _ => Gq_rf h) (fun _ => Gq_er h 3)) (fun _ => Gq_er h 1)
theorem g_miss {s k k2 r : sg} (h : Gd s k k2 r) (x p : Int32) : Gq (sq_miss s k r x p) (sm_miss s k2 r x p) := by
  rw [miss_eq h.1]
  unfold sq_miss
  exact Gq_if (fun _ => Gq_if (fun _ => Gq_rf h) (fun _ => Gq_er h 3)) (fun _ => Gq_er h 1)
theorem g_sum {s k k2 r : sg} (h : Gd s k k2 r) (p : Int32) : Gq (sq_sum s k r p) (sm_sum s k2 r p) := by
  rw [sum_eq h.1]
  unfold sq_sum
  exact Gq_if (fun _ => Gq_if (fun _ => Gq_rf h) (fun _ => Gq_er h 3)) (fun _ => Gq_er h 1)
theorem g_doubted {s k k2 r : sg} (h : Gd s k k2 r) : Gq (sq_doubted s k r) (sm_doubted s k2 r) := by
  rw [doubted_eq h.1]
  unfold sq_doubted
  exact Gq_if (fun _ => Gq_rf h) (fun _ => Gq_er h 3)
theorem g_needed {s k k2 r : sg} (h : Gd s k k2 r) : Gq (sq_needed s k r) (sq_needed s k2 r) := by
  unfold sq_needed
  exact Gq_if (fun _ => Gq_rf h) (fun _ => Gq_er h 3)
theorem g_spine {s k k2 r : sg} (h : Gd s k k2 r) : Gq (sq_spine s k r) (sm_spine s k2 r) := by
  rw [spine_eq h.1]
  unfold sq_spine
  exact Gq_if (fun _ => Gq_rf h) (fun _ => Gq_er h 3)
theorem g_then {s k k2 r : sg} (h : Gd s k k2 r) (n m : Int32) : Gq (sq_then s k r n m) (sq_then s k2 r n m) := by
  unfold sq_then
  exact Gq_if (fun _ => Gq_rf h) (fun _ => Gq_er h 1)
theorem g_soonest {s k k2 r : sg} (h : Gd s k k2 r) (x : Int32) : Gq (sq_soonest s k r x) (sq_soonest s k2 r x) := by
  unfold sq_soonest
  exact Gq_if (fun _ => Gq_if (fun _ => Gq_rf h) (fun _ => Gq_er h 2)) (fun _ => Gq_er h 1)
theorem g_limitFor {s k k2 r : sg} (h : Gd s k k2 r) (n : Int32) : Gq (sq_limitFor s k r n) (sm_limitFor s k2 r n) := by
  rw [limitFor_eq h.1 h.2.1]
  unfold sq_limitFor
  exact Gq_if (fun _ => Gq_if (fun _ => Gq_rf h) (fun _ => Gq_er h 2)) (fun _ => Gq_er h 1)
theorem g_toldFor {s k k2 r : sg} (h : Gd s k k2 r) (x : Int32) : Gq (sq_toldFor s k r x) (sm_toldFor s k2 r x) := by
  rw [toldFor_eq h.1]
  unfold sq_toldFor
  exact Gq_if (fun _ => Gq_if (fun _ => Gq_rf h) (fun _ => Gq_er h 3)) (fun _ => Gq_er h 1)
theorem g_odds {s k k2 r : sg} (h : Gd s k k2 r) (x n p : Int32) : Gq (sq_odds s k r x n p) (sm_odds s k2 r x n p) := by
  by_cases hn : 0 ≤ n ∧ n ≤ 40
  · obtain ⟨m, m8, rfl⟩ := rng0_ex (n := 40) (by omega) hn
    rw [odds_eq _ _ _ _ _ _ (by rw [nn_nI (by omega)]; exact m8)]
    unfold sq_odds
    exact Gq_if (fun _ => Gq_rf h) (fun _ => Gq_er h 1)
  · unfold sq_odds sm_odds
    rw [if_neg (fun q => hn q.2.1), if_neg (fun q => hn q.2.1)]
    exact Gq_er h 1
theorem g_fits {s k k2 r : sg} (h : Gd s k k2 r) (x y m : Int32) : Gq (sq_fits s k r x y m) (sq_fits s k2 r x y m) := by
  unfold sq_fits
  exact Gq_if (fun _ => Gq_if (fun _ => Gq_er h 2) (fun _ => Gq_rf h)) (fun _ => Gq_er h 1)
theorem g_voice {s k k2 r : sg} (h : Gd s k k2 r) (x u v : Int32) : Gq (sq_voice s k r x u v) (sq_voice s k2 r x u v) := by
  unfold sq_voice
  have hz : vOk (vAn s r x u v).2 := vSp_ok 21 _ _ _ _ ⟨0, by omega, rfl⟩
  obtain ⟨q1, q2⟩ := rInv_rT h.2.2.1 hz
  exact Gq_if (fun _ => Gq_if (fun _ => Gq_r h q1 q2) (fun _ => Gq_r h (rInv_er q1 6) ((er_1 _ 6).trans q2))) (fun _ => Gq_er h 1)
theorem g_body {s k k2 r : sg} (h : Gd s k k2 r) (x : Int32) : Gq (sq_body s k r x) (sq_body s k2 r x) := by
  unfold sq_body
  exact Gq_if (fun _ => Gq_rf h) (fun _ => Gq_er h 2)
theorem g_sheet {s k k2 r : sg} (h : Gd s k k2 r) (x b len : Int32) : Gq (sq_sheet s k r x b len) (sq_sheet s k2 r x b len) := by
  unfold sq_sheet
  refine Gq_if (fun c => Gq_if (fun _ => Gq_er h 3) (fun d => Gq_if (fun _ => Gq_er h 1) (fun e => ?_))) (fun _ => Gq_er h 1)
  obtain ⟨u, hu, rfl⟩ := rng0_ex (n := 3) (by omega) c.1
  rw [nn_nI (by omega)]
  obtain ⟨q1, q2⟩ := rInv_lay (x := u) (b := b) (len := if b = 0 then 0 else len) h.2.2.1 (by omega) c.2 (by
    by_cases z : b = 0
    · rw [if_pos z]; exact ⟨0, rfl, by omega⟩
    · rw [if_neg z]
      obtain ⟨n, hn, e2⟩ := rng0_ex (x := len) (n := 24) (by omega) ⟨Int32.not_lt.mp (fun q => d ⟨z, q⟩), Int32.not_lt.mp (fun q => e ⟨z, q⟩)⟩
      exact ⟨n, e2, hn⟩) 24 (by omega)
  exact Gq_r h q1 q2
theorem g_put {s k k2 r : sg} (h : Gd s k k2 r) (x p v : Int32) : Gq (sq_put s k r x p v) (sq_put s k2 r x p v) := by
  unfold sq_put
  refine Gq_if (fun c => Gq_if (fun _ => Gq_er h 2) (fun _ => Gq_if (fun _ => ?_) (fun _ => Gq_er h 1))) (fun _ => Gq_er h 1)
  obtain ⟨u, hu, rfl⟩ := rng0_ex (n := 3) (by omega) c
  rw [nn_nI (by omega)]
  obtain ⟨q1, q2⟩ := rInv_any (r' := sg1 r (2 + u) (nn p) (sNar (r 6 u) v)) h.2.2.1 (fun f j hf => sg1_f (by omega))
  exact Gq_r h q1 q2
theorem g_move {s k k2 r : sg} (h : Gd s k k2 r) (x p y q n : Int32) : Gq (sq_move s k r x p y q n) (sq_move s k2 r x p y q n) := by
  unfold sq_move
  refine Gq_if (fun c => Gq_if (fun _ => Gq_er h 2) (fun _ => Gq_if (fun _ => Gq_er h 5) (fun _ => Gq_if (fun _ => ?_) (fun _ => Gq_er h 1)))) (fun _ => Gq_er h 1)
  obtain ⟨u, hu, rfl⟩ := rng0_ex (n := 3) (by omega) c.2
  obtain ⟨q1, q2⟩ := rInv_any (r' := sMov r (nn x) (nn p) (nn (nI u)) (nn q) (nn n)) h.2.2.1 (fun f j hf => by
    unfold sMov
    rw [nn_nI (by omega), if_neg (by omega)])
  exact Gq_r h q1 q2
theorem g_tells {s k k2 r : sg} (h : Gd s k k2 r) (x : Int32) : Gq (sq_tells s k r x) (sq_tells s k2 r x) := by
  unfold sq_tells
  refine Gq_if (fun c => Gq_if (fun _ => Gq_er h 2) (fun _ => ?_)) (fun _ => Gq_er h 1)
  have h8 := (sIM h.1).2
  obtain ⟨q1, q2⟩ := inv_tel (r := r) (s := nn x) (sTelN r s (nn x)) 0 s h.1 (by
    have : sTelN r s (nn x) ≤ sM s := Nat.min_le_left _ _
    omega)
  exact Gq_s h q1 q2
theorem g_judge {s k k2 r : sg} (h : Gd s k k2 r) (x : Int32) : Gq (sq_judge s k r x) (sq_judge s k2 r x) := by
  unfold sq_judge
  exact Gq_if (fun _ => Gq_if (fun _ => Gq_er h 2) (fun _ => Gq_rf h)) (fun _ => Gq_er h 1)
theorem g_image {s k k2 r : sg} (h : Gd s k k2 r) : Gq (sq_image s k r) (sq_image s k2 r) := by
  refine ⟨rfl, rfl, rfl, h.1, h.2.1, ?_, Or.inr ⟨rfl, h.1, h.2.1⟩⟩
  have e : ∀ f j, f ≠ 1 → sg1 r 1 0 (r 1 0 + 1) f j = r f j := fun f j hf => sg1_f hf
  show rInv (sg1 r 1 0 (r 1 0 + 1))
  refine ⟨by rw [e 9 0 (by decide)]; exact h.2.2.1.1, fun s hs => ?_⟩
  rw [e 7 s (by decide), e 6 s (by decide)]
  exact h.2.2.1.2 s hs
theorem g_restore {s k k2 r : sg} (h : Gd s k k2 r) : Gq (sq_restore s k r) (sq_restore s k2 r) := by
  unfold sq_restore
  refine Gq_if (fun _ => Gq_er h 2) (fun c => ?_)
  rcases h.2.2.2 with q | ⟨rfl, q1, q2⟩
  · exact absurd q c
  · exact ⟨rfl, rfl, rfl, q1, q2, h.2.2.1, Or.inr ⟨rfl, q1, q2⟩⟩
theorem g_tell {s k k2 r : sg} (h : Gd s k k2 r) (v : Int32) : Gq (sq_tell s k r v) (sq_tell s k2 r v) := by
  unfold sq_tell
  refine Gq_if (fun _ => Gq_er h 4) (fun c => ?_)
  obtain ⟨n, e, hn⟩ := h.1.2.2.2.2.2.2.1
  have hn2 : n < 24 := Nat.lt_of_not_le (fun q => c (by rw [e]; exact nI_le (a := 24) q (by omega)))
  refine Gq_s h (inv_67 (inv_8 h.1) ⟨n + 1, by rw [e, jadd rfl nIc_1], by omega⟩) ?_
  rw [sR_sg1 (Or.inr (by decide)), sR_sg1 (Or.inl (by decide))]
theorem g_check {s k k2 r : sg} (h : Gd s k k2 r) : Gq (sq_check s k r) (sq_check s k2 r) := Gq_s h (inv_67 h.1 ⟨0, rfl, by omega⟩) (sR_sg1 (Or.inr (by decide)))
theorem g_count {s k k2 r : sg} (h : Gd s k k2 r) (y : Int32) : Gq (sq_count s k r y) (sq_count s k2 r y) := by
  unfold sq_count
  exact Gq_if (fun _ => Gq_rf h) (fun _ => Gq_if (fun _ => Gq_rf h) (fun _ => Gq_if (fun _ => Gq_rf h) (fun _ => Gq_if (fun _ => Gq_rf h) (fun _ => Gq_if (fun _ => Gq_rf h) (fun _ => Gq_if (fun _ => Gq_rf h) (fun _ => Gq_if (fun _ => Gq_rf h) (fun _ => Gq_if (fun _ => Gq_rf h) (fun _ => Gq_if (fun _ => Gq_rf h) (fun _ => Gq_if (fun _ => Gq_rf h) (fun _ => Gq_if (fun _ => Gq_rf h) (fun _ => Gq_er h 1)))))))))))
theorem g_told {s k k2 r : sg} (h : Gd s k k2 r) (x : Int32) : Gq (sq_told s k r x) (sq_told s k2 r x) := by
  unfold sq_told
  exact Gq_if (fun _ => Gq_rf h) (fun _ => Gq_er h 1)
