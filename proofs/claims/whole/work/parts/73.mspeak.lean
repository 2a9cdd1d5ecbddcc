/-! ===== both speak alike ===== -/
/-! ===== both speak alike ===== -/
theorem vTr_p {b : Int32} {z : vS} (hz : z.2.2 = 0) : (vTr b z).2.2 = 0 := by
  unfold vTr
  by_cases h : z.2.1 < 30
  · rw [if_pos h]; exact hz
  · rw [if_neg h]; exact hz
theorem vS_b {kd t m u v x b : Int32} {n : Nat} {z : vS} (hz : z.2.2 = 0) (hi : 0 ≤ 4 * u + v ∧ 4 * u + v ≤ 27) (hb : vB (nn (4 * u + v)) = b) : vSp vB kd t m (n + 1) u v x z = vW2 (vSp vB kd t m n) kd t m b x (vTr b z) := by
  rw [vSp, if_pos ⟨hz, hi⟩, hb]; rfl
theorem vS_p {kd t m u v x : Int32} {n : Nat} {z : vS} (hz : ¬ z.2.2 = 0) : vSp vB kd t m n u v x z = (0, z) := by
  cases n with
  | zero => rfl
  | succ n => rw [vSp, if_neg (fun q => hz q.1)]

theorem vl00 {kd t m x : Int32} {z : vS} (n : Nat) (hz : z.2.2 = 0) : vSp vB kd t m (n + 1) 0 0 x z = nPW t x z := by
  rw [vS_b (b := 10) hz (by decide) (by decide)]
  unfold vW2
  rw [if_pos rfl]
  rfl
theorem vl10 {kd t m x : Int32} {z : vS} (n : Nat) (hz : z.2.2 = 0) : vSp vB kd t m (n + 2) 1 0 x z = nFW t x z := by
  rw [vS_b (b := 20) hz (by decide) (by decide)]
  unfold vW2
  rw [if_neg (by decide), if_neg (by decide), if_neg (by decide), if_neg (by decide), if_pos rfl]
  rw [vl00 n (vTr_p hz)]; rfl
theorem vlW_0 {t m x : Int32} {z : vS} (n : Nat) (hz : z.2.2 = 0) : vSp vB 0 t m (n + 3) 0 0 x z = nW 0 t x z := by
  rw [vS_b (b := 10) hz (by decide) (by decide)]
  unfold vW2
  rw [if_pos rfl]
  unfold nW; rw [if_neg (by decide), if_neg (by decide), if_neg (by decide)]; rfl
theorem vlW_1 {t m x : Int32} {z : vS} (n : Nat) (hz : z.2.2 = 0) : vSp vB 1 t m (n + 3) 1 0 x z = nW 1 t x z := by
  rw [vS_b (b := 20) hz (by decide) (by decide)]
  unfold vW2
  rw [if_neg (by decide), if_neg (by decide), if_neg (by decide), if_neg (by decide), if_pos rfl]
  rw [vl00 (n + 1) (vTr_p hz)]; unfold nW; rw [if_pos (by decide)]; rfl
theorem vlW_2 {t m x : Int32} {z : vS} (n : Nat) (hz : z.2.2 = 0) : vSp vB 2 t m (n + 3) 2 0 x z = nW 2 t x z := by
  rw [vS_b (b := 10) hz (by decide) (by decide)]
  unfold vW2
  rw [if_pos rfl]
  unfold nW; rw [if_neg (by decide), if_neg (by decide), if_neg (by decide)]; rfl
theorem vlW_3 {t m x : Int32} {z : vS} (n : Nat) (hz : z.2.2 = 0) : vSp vB 3 t m (n + 3) 3 0 x z = nW 3 t x z := by
  rw [vS_b (b := 10) hz (by decide) (by decide)]
  unfold vW2
  rw [if_pos rfl]
  unfold nW; rw [if_neg (by decide), if_neg (by decide), if_neg (by decide)]; rfl
theorem vlW_4 {t m x : Int32} {z : vS} (n : Nat) (hz : z.2.2 = 0) : vSp vB 4 t m (n + 3) 4 0 x z = nW 4 t x z := by
  rw [vS_b (b := 50) hz (by decide) (by decide)]
  unfold vW2
  rw [if_neg (by decide), if_neg (by decide), if_neg (by decide), if_neg (by decide), if_neg (by decide), if_neg (by decide), if_neg (by decide), if_neg (by decide), if_pos rfl]
  rw [vl10 n (vTr_p hz)]; unfold nW; rw [if_neg (by decide), if_pos (by decide)]
theorem vlW_5 {t m x : Int32} {z : vS} (n : Nat) (hz : z.2.2 = 0) : vSp vB 5 t m (n + 3) 5 0 x z = nW 5 t x z := by
  rw [vS_b (b := 10) hz (by decide) (by decide)]
  unfold vW2
  rw [if_pos rfl]
  unfold nW; rw [if_neg (by decide), if_neg (by decide), if_neg (by decide)]; rfl
theorem vlW_6 {t m x : Int32} {z : vS} (n : Nat) (hz : z.2.2 = 0) : vSp vB 6 t m (n + 3) 6 0 x z = nW 6 t x z := by
  rw [vS_b (b := 70) hz (by decide) (by decide)]
  unfold vW2
  rw [if_neg (by decide), if_neg (by decide), if_neg (by decide), if_neg (by decide), if_neg (by decide), if_neg (by decide), if_neg (by decide), if_neg (by decide), if_neg (by decide), if_neg (by decide), if_neg (by decide), if_pos rfl]
  unfold nW; rw [if_neg (by decide), if_neg (by decide), if_pos (by decide)]
theorem vl01_0 {t m x : Int32} {z : vS} (n : Nat) (hz : z.2.2 = 0) : vSp vB 0 t m (n + 4) 0 1 x z = nPS 0 t x z := by
  rw [vS_b (b := 11) hz (by decide) (by decide)]
  unfold vW2
  rw [if_neg (by decide), if_pos rfl]
  rw [vlW_0 n (vTr_p hz)]; rfl
theorem vl01_1 {t m x : Int32} {z : vS} (n : Nat) (hz : z.2.2 = 0) : vSp vB 1 t m (n + 4) 0 1 x z = nPS 1 t x z := by
  rw [vS_b (b := 11) hz (by decide) (by decide)]
  unfold vW2
  rw [if_neg (by decide), if_pos rfl]
  rw [vlW_1 n (vTr_p hz)]; rfl
theorem vl01_2 {t m x : Int32} {z : vS} (n : Nat) (hz : z.2.2 = 0) : vSp vB 2 t m (n + 4) 0 1 x z = nPS 2 t x z := by
  rw [vS_b (b := 11) hz (by decide) (by decide)]
  unfold vW2
  rw [if_neg (by decide), if_pos rfl]
  rw [vlW_2 n (vTr_p hz)]; rfl
theorem vl01_3 {t m x : Int32} {z : vS} (n : Nat) (hz : z.2.2 = 0) : vSp vB 3 t m (n + 4) 0 1 x z = nPS 3 t x z := by
  rw [vS_b (b := 11) hz (by decide) (by decide)]
  unfold vW2
  rw [if_neg (by decide), if_pos rfl]
  rw [vlW_3 n (vTr_p hz)]; rfl
theorem vl01_4 {t m x : Int32} {z : vS} (n : Nat) (hz : z.2.2 = 0) : vSp vB 4 t m (n + 4) 0 1 x z = nPS 4 t x z := by
  rw [vS_b (b := 11) hz (by decide) (by decide)]
  unfold vW2
  rw [if_neg (by decide), if_pos rfl]
  rw [vlW_4 n (vTr_p hz)]; rfl
theorem vl01_5 {t m x : Int32} {z : vS} (n : Nat) (hz : z.2.2 = 0) : vSp vB 5 t m (n + 4) 0 1 x z = nPS 5 t x z := by
  rw [vS_b (b := 11) hz (by decide) (by decide)]
  unfold vW2
  rw [if_neg (by decide), if_pos rfl]
  rw [vlW_5 n (vTr_p hz)]; rfl
theorem vl01_6 {t m x : Int32} {z : vS} (n : Nat) (hz : z.2.2 = 0) : vSp vB 6 t m (n + 4) 0 1 x z = nPS 6 t x z := by
  rw [vS_b (b := 11) hz (by decide) (by decide)]
  unfold vW2
  rw [if_neg (by decide), if_pos rfl]
  rw [vlW_6 n (vTr_p hz)]; rfl
theorem vl21_0 {t m x : Int32} {z : vS} (n : Nat) (hz : z.2.2 = 0) : vSp vB 0 t m (n + 5) 2 1 x z = nSS 0 t x z := by
  rw [vS_b (b := 30) hz (by decide) (by decide)]
  unfold vW2
  rw [if_neg (by decide), if_neg (by decide), if_neg (by decide), if_neg (by decide), if_neg (by decide), if_neg (by decide), if_pos rfl]
  rw [vl01_0 n (vTr_p hz)]; rfl
theorem vl21_1 {t m x : Int32} {z : vS} (n : Nat) (hz : z.2.2 = 0) : vSp vB 1 t m (n + 5) 2 1 x z = nSS 1 t x z := by
  rw [vS_b (b := 30) hz (by decide) (by decide)]
  unfold vW2
  rw [if_neg (by decide), if_neg (by decide), if_neg (by decide), if_neg (by decide), if_neg (by decide), if_neg (by decide), if_pos rfl]
  rw [vl01_1 n (vTr_p hz)]; rfl
theorem vl21_2 {t m x : Int32} {z : vS} (n : Nat) (hz : z.2.2 = 0) : vSp vB 2 t m (n + 5) 2 1 x z = nSS 2 t x z := by
  rw [vS_b (b := 30) hz (by decide) (by decide)]
  unfold vW2
  rw [if_neg (by decide), if_neg (by decide), if_neg (by decide), if_neg (by decide), if_neg (by decide), if_neg (by decide), if_pos rfl]
  rw [vl01_2 n (vTr_p hz)]; rfl
theorem vl21_3 {t m x : Int32} {z : vS} (n : Nat) (hz : z.2.2 = 0) : vSp vB 3 t m (n + 5) 2 1 x z = nSS 3 t x z := by
  rw [vS_b (b := 30) hz (by decide) (by decide)]
  unfold vW2
  rw [if_neg (by decide), if_neg (by decide), if_neg (by decide), if_neg (by decide), if_neg (by decide), if_neg (by decide), if_pos rfl]
  rw [vl01_3 n (vTr_p hz)]; rfl
theorem vl21_4 {t m x : Int32} {z : vS} (n : Nat) (hz : z.2.2 = 0) : vSp vB 4 t m (n + 5) 2 1 x z = nSS 4 t x z := by
  rw [vS_b (b := 30) hz (by decide) (by decide)]
  unfold vW2
  rw [if_neg (by decide), if_neg (by decide), if_neg (by decide), if_neg (by decide), if_neg (by decide), if_neg (by decide), if_pos rfl]
  rw [vl01_4 n (vTr_p hz)]; rfl
theorem vl21_5 {t m x : Int32} {z : vS} (n : Nat) (hz : z.2.2 = 0) : vSp vB 5 t m (n + 5) 2 1 x z = nSS 5 t x z := by
  rw [vS_b (b := 30) hz (by decide) (by decide)]
  unfold vW2
  rw [if_neg (by decide), if_neg (by decide), if_neg (by decide), if_neg (by decide), if_neg (by decide), if_neg (by decide), if_pos rfl]
  rw [vl01_5 n (vTr_p hz)]; rfl
theorem vl21_6 {t m x : Int32} {z : vS} (n : Nat) (hz : z.2.2 = 0) : vSp vB 6 t m (n + 5) 2 1 x z = nSS 6 t x z := by
  rw [vS_b (b := 30) hz (by decide) (by decide)]
  unfold vW2
  rw [if_neg (by decide), if_neg (by decide), if_neg (by decide), if_neg (by decide), if_neg (by decide), if_neg (by decide), if_pos rfl]
  rw [vl01_6 n (vTr_p hz)]; rfl
theorem vlS_0 {t m x : Int32} {z : vS} (n : Nat) (hz : z.2.2 = 0) : vSp vB 0 t m (n + 6) 0 1 x z = nS 0 t m x z := by
  rw [vS_b (b := 11) hz (by decide) (by decide)]
  unfold vW2
  rw [if_neg (by decide), if_pos rfl]
  rw [vlW_0 (n + 2) (vTr_p hz)]; unfold nS; rw [if_neg (by decide), if_neg (by decide), if_neg (by decide)]; rfl
theorem vlS_1 {t m x : Int32} {z : vS} (n : Nat) (hz : z.2.2 = 0) : vSp vB 1 t m (n + 6) 1 1 x z = nS 1 t m x z := by
  rw [vS_b (b := 11) hz (by decide) (by decide)]
  unfold vW2
  rw [if_neg (by decide), if_pos rfl]
  rw [vlW_1 (n + 2) (vTr_p hz)]; unfold nS; rw [if_neg (by decide), if_neg (by decide), if_neg (by decide)]; rfl
theorem vlS_2 {t m x : Int32} {z : vS} (n : Nat) (hz : z.2.2 = 0) : vSp vB 2 t m (n + 6) 2 1 x z = nS 2 t m x z := by
  rw [vS_b (b := 30) hz (by decide) (by decide)]
  unfold vW2
  rw [if_neg (by decide), if_neg (by decide), if_neg (by decide), if_neg (by decide), if_neg (by decide), if_neg (by decide), if_pos rfl]
  rw [vl01_2 (n + 1) (vTr_p hz)]; unfold nS; rw [if_pos (by decide)]; rfl
theorem vlS_3 {t m x : Int32} {z : vS} (n : Nat) (hz : z.2.2 = 0) : vSp vB 3 t m (n + 6) 3 1 x z = nS 3 t m x z := by
  rw [vS_b (b := 11) hz (by decide) (by decide)]
  unfold vW2
  rw [if_neg (by decide), if_pos rfl]
  rw [vlW_3 (n + 2) (vTr_p hz)]; unfold nS; rw [if_neg (by decide), if_neg (by decide), if_neg (by decide)]; rfl
theorem vlS_4 {t m x : Int32} {z : vS} (n : Nat) (hz : z.2.2 = 0) : vSp vB 4 t m (n + 6) 4 1 x z = nS 4 t m x z := by
  rw [vS_b (b := 11) hz (by decide) (by decide)]
  unfold vW2
  rw [if_neg (by decide), if_pos rfl]
  rw [vlW_4 (n + 2) (vTr_p hz)]; unfold nS; rw [if_neg (by decide), if_neg (by decide), if_neg (by decide)]; rfl
theorem vlS_5 {t m x : Int32} {z : vS} (n : Nat) (hz : z.2.2 = 0) : vSp vB 5 t m (n + 6) 5 1 x z = nS 5 t m x z := by
  rw [vS_b (b := 60) hz (by decide) (by decide)]
  unfold vW2
  rw [if_neg (by decide), if_neg (by decide), if_neg (by decide), if_neg (by decide), if_neg (by decide), if_neg (by decide), if_neg (by decide), if_neg (by decide), if_neg (by decide), if_neg (by decide), if_pos rfl]
  rw [vl21_5 n (vTr_p hz)]; unfold nS; rw [if_neg (by decide), if_pos (by decide)]
theorem vlS_6 {t m x : Int32} {z : vS} (n : Nat) (hz : z.2.2 = 0) : vSp vB 6 t m (n + 6) 6 1 x z = nS 6 t m x z := by
  rw [vS_b (b := 71) hz (by decide) (by decide)]
  unfold vW2
  rw [if_neg (by decide), if_neg (by decide), if_neg (by decide), if_neg (by decide), if_neg (by decide), if_neg (by decide), if_neg (by decide), if_neg (by decide), if_neg (by decide), if_neg (by decide), if_neg (by decide), if_neg (by decide), if_pos rfl]
  rw [vl01_6 (n + 1) (vTr_p hz)]; unfold nS; rw [if_neg (by decide), if_neg (by decide), if_pos (by decide)]
theorem vl02_0 {t m x : Int32} {z : vS} (n : Nat) (hz : z.2.2 = 0) : vSp vB 0 t m (n + 7) 0 2 x z = nPT 0 t m x z := by
  rw [vS_b (b := 12) hz (by decide) (by decide)]
  unfold vW2
  rw [if_neg (by decide), if_neg (by decide), if_pos rfl]
  rw [vlS_0 n (vTr_p hz)]; rfl
theorem vl02_1 {t m x : Int32} {z : vS} (n : Nat) (hz : z.2.2 = 0) : vSp vB 1 t m (n + 7) 0 2 x z = nPT 1 t m x z := by
  rw [vS_b (b := 12) hz (by decide) (by decide)]
  unfold vW2
  rw [if_neg (by decide), if_neg (by decide), if_pos rfl]
  rw [vlS_1 n (vTr_p hz)]; rfl
theorem vl02_2 {t m x : Int32} {z : vS} (n : Nat) (hz : z.2.2 = 0) : vSp vB 2 t m (n + 7) 0 2 x z = nPT 2 t m x z := by
  rw [vS_b (b := 12) hz (by decide) (by decide)]
  unfold vW2
  rw [if_neg (by decide), if_neg (by decide), if_pos rfl]
  rw [vlS_2 n (vTr_p hz)]; rfl
theorem vl02_3 {t m x : Int32} {z : vS} (n : Nat) (hz : z.2.2 = 0) : vSp vB 3 t m (n + 7) 0 2 x z = nPT 3 t m x z := by
  rw [vS_b (b := 12) hz (by decide) (by decide)]
  unfold vW2
  rw [if_neg (by decide), if_neg (by decide), if_pos rfl]
  rw [vlS_3 n (vTr_p hz)]; rfl
theorem vl02_4 {t m x : Int32} {z : vS} (n : Nat) (hz : z.2.2 = 0) : vSp vB 4 t m (n + 7) 0 2 x z = nPT 4 t m x z := by
  rw [vS_b (b := 12) hz (by decide) (by decide)]
  unfold vW2
  rw [if_neg (by decide), if_neg (by decide), if_pos rfl]
  rw [vlS_4 n (vTr_p hz)]; rfl
theorem vl02_5 {t m x : Int32} {z : vS} (n : Nat) (hz : z.2.2 = 0) : vSp vB 5 t m (n + 7) 0 2 x z = nPT 5 t m x z := by
  rw [vS_b (b := 12) hz (by decide) (by decide)]
  unfold vW2
  rw [if_neg (by decide), if_neg (by decide), if_pos rfl]
  rw [vlS_5 n (vTr_p hz)]; rfl
theorem vl02_6 {t m x : Int32} {z : vS} (n : Nat) (hz : z.2.2 = 0) : vSp vB 6 t m (n + 7) 0 2 x z = nPT 6 t m x z := by
  rw [vS_b (b := 12) hz (by decide) (by decide)]
  unfold vW2
  rw [if_neg (by decide), if_neg (by decide), if_pos rfl]
  rw [vlS_6 n (vTr_p hz)]; rfl
theorem vl12_0 {t m x : Int32} {z : vS} (n : Nat) (hz : z.2.2 = 0) : vSp vB 0 t m (n + 7) 1 2 x z = nPT 0 t m x z := by
  rw [vS_b (b := 12) hz (by decide) (by decide)]
  unfold vW2
  rw [if_neg (by decide), if_neg (by decide), if_pos rfl]
  rw [vlS_0 n (vTr_p hz)]; rfl
theorem vl12_1 {t m x : Int32} {z : vS} (n : Nat) (hz : z.2.2 = 0) : vSp vB 1 t m (n + 7) 1 2 x z = nPT 1 t m x z := by
  rw [vS_b (b := 12) hz (by decide) (by decide)]
  unfold vW2
  rw [if_neg (by decide), if_neg (by decide), if_pos rfl]
  rw [vlS_1 n (vTr_p hz)]; rfl
theorem vl12_2 {t m x : Int32} {z : vS} (n : Nat) (hz : z.2.2 = 0) : vSp vB 2 t m (n + 7) 1 2 x z = nPT 2 t m x z := by
  rw [vS_b (b := 12) hz (by decide) (by decide)]
  unfold vW2
  rw [if_neg (by decide), if_neg (by decide), if_pos rfl]
  rw [vlS_2 n (vTr_p hz)]; rfl
theorem vl12_3 {t m x : Int32} {z : vS} (n : Nat) (hz : z.2.2 = 0) : vSp vB 3 t m (n + 7) 1 2 x z = nPT 3 t m x z := by
  rw [vS_b (b := 12) hz (by decide) (by decide)]
  unfold vW2
  rw [if_neg (by decide), if_neg (by decide), if_pos rfl]
  rw [vlS_3 n (vTr_p hz)]; rfl
theorem vl12_4 {t m x : Int32} {z : vS} (n : Nat) (hz : z.2.2 = 0) : vSp vB 4 t m (n + 7) 1 2 x z = nPT 4 t m x z := by
  rw [vS_b (b := 12) hz (by decide) (by decide)]
  unfold vW2
  rw [if_neg (by decide), if_neg (by decide), if_pos rfl]
  rw [vlS_4 n (vTr_p hz)]; rfl
theorem vl12_5 {t m x : Int32} {z : vS} (n : Nat) (hz : z.2.2 = 0) : vSp vB 5 t m (n + 7) 1 2 x z = nPT 5 t m x z := by
  rw [vS_b (b := 12) hz (by decide) (by decide)]
  unfold vW2
  rw [if_neg (by decide), if_neg (by decide), if_pos rfl]
  rw [vlS_5 n (vTr_p hz)]; rfl
theorem vl12_6 {t m x : Int32} {z : vS} (n : Nat) (hz : z.2.2 = 0) : vSp vB 6 t m (n + 7) 1 2 x z = nPT 6 t m x z := by
  rw [vS_b (b := 12) hz (by decide) (by decide)]
  unfold vW2
  rw [if_neg (by decide), if_neg (by decide), if_pos rfl]
  rw [vlS_6 n (vTr_p hz)]; rfl
theorem vlT_0 {t m x : Int32} {z : vS} (n : Nat) (hz : z.2.2 = 0) : vSp vB 0 t m (n + 8) 0 2 x z = nT 0 t m x z := by
  rw [vS_b (b := 12) hz (by decide) (by decide)]
  unfold vW2
  rw [if_neg (by decide), if_neg (by decide), if_pos rfl]
  rw [vlS_0 (n + 1) (vTr_p hz)]; unfold nT; rw [if_neg (by decide), if_neg (by decide)]; rfl
theorem vlT_1 {t m x : Int32} {z : vS} (n : Nat) (hz : z.2.2 = 0) : vSp vB 1 t m (n + 8) 1 2 x z = nT 1 t m x z := by
  rw [vS_b (b := 12) hz (by decide) (by decide)]
  unfold vW2
  rw [if_neg (by decide), if_neg (by decide), if_pos rfl]
  rw [vlS_1 (n + 1) (vTr_p hz)]; unfold nT; rw [if_neg (by decide), if_neg (by decide)]; rfl
theorem vlT_2 {t m x : Int32} {z : vS} (n : Nat) (hz : z.2.2 = 0) : vSp vB 2 t m (n + 8) 2 2 x z = nT 2 t m x z := by
  rw [vS_b (b := 12) hz (by decide) (by decide)]
  unfold vW2
  rw [if_neg (by decide), if_neg (by decide), if_pos rfl]
  rw [vlS_2 (n + 1) (vTr_p hz)]; unfold nT; rw [if_neg (by decide), if_neg (by decide)]; rfl
theorem vlT_3 {t m x : Int32} {z : vS} (n : Nat) (hz : z.2.2 = 0) : vSp vB 3 t m (n + 8) 3 2 x z = nT 3 t m x z := by
  rw [vS_b (b := 40) hz (by decide) (by decide)]
  unfold vW2
  rw [if_neg (by decide), if_neg (by decide), if_neg (by decide), if_neg (by decide), if_neg (by decide), if_neg (by decide), if_neg (by decide), if_pos rfl]
  rw [vl02_3 n (vTr_p hz)]; unfold nT; rw [if_pos (by decide)]
theorem vlT_4 {t m x : Int32} {z : vS} (n : Nat) (hz : z.2.2 = 0) : vSp vB 4 t m (n + 8) 4 2 x z = nT 4 t m x z := by
  rw [vS_b (b := 51) hz (by decide) (by decide)]
  unfold vW2
  rw [if_neg (by decide), if_neg (by decide), if_neg (by decide), if_neg (by decide), if_neg (by decide), if_neg (by decide), if_neg (by decide), if_neg (by decide), if_neg (by decide), if_pos rfl]
  rw [vl12_4 n (vTr_p hz)]; unfold nT; rw [if_neg (by decide), if_pos (by decide)]
theorem vlT_5 {t m x : Int32} {z : vS} (n : Nat) (hz : z.2.2 = 0) : vSp vB 5 t m (n + 8) 5 2 x z = nT 5 t m x z := by
  rw [vS_b (b := 12) hz (by decide) (by decide)]
  unfold vW2
  rw [if_neg (by decide), if_neg (by decide), if_pos rfl]
  rw [vlS_5 (n + 1) (vTr_p hz)]; unfold nT; rw [if_neg (by decide), if_neg (by decide)]; rfl
theorem vlT_6 {t m x : Int32} {z : vS} (n : Nat) (hz : z.2.2 = 0) : vSp vB 6 t m (n + 8) 6 2 x z = nT 6 t m x z := by
  rw [vS_b (b := 12) hz (by decide) (by decide)]
  unfold vW2
  rw [if_neg (by decide), if_neg (by decide), if_pos rfl]
  rw [vlS_6 (n + 1) (vTr_p hz)]; unfold nT; rw [if_neg (by decide), if_neg (by decide)]; rfl
theorem nPP_e {t m x : Int32} {z : vS} (hz : z.2.2 = 0) : (if m - t = 0 then ((0 : Int32), ((vTr 13 z).1, (vTr 13 z).2.1, (1 : Int32))) else (x / (m - t), vTr 13 z)) = nPP t m x z := by
  unfold nPP
  by_cases e : m - t = 0
  · rw [if_pos e, if_pos e, if_pos e]
  · rw [if_neg e, if_neg e, if_neg e]
    have := vTr_p (b := 13) hz
    rw [show vTr 13 z = ((vTr 13 z).1, (vTr 13 z).2.1, (vTr 13 z).2.2) from rfl, this]
theorem vl03_0 {t m x : Int32} {z : vS} (n : Nat) (hz : z.2.2 = 0) : vSp vB 0 t m (n + 1) 0 3 x z = (fun _ => nPP t m x z) 0 := by
  rw [vS_b (b := 13) hz (by decide) (by decide)]
  unfold vW2
  rw [if_neg (by decide), if_neg (by decide), if_neg (by decide), if_pos rfl]
  exact nPP_e hz
theorem vl03_1 {t m x : Int32} {z : vS} (n : Nat) (hz : z.2.2 = 0) : vSp vB 1 t m (n + 1) 0 3 x z = (fun _ => nPP t m x z) 1 := by
  rw [vS_b (b := 13) hz (by decide) (by decide)]
  unfold vW2
  rw [if_neg (by decide), if_neg (by decide), if_neg (by decide), if_pos rfl]
  exact nPP_e hz
theorem vl03_2 {t m x : Int32} {z : vS} (n : Nat) (hz : z.2.2 = 0) : vSp vB 2 t m (n + 1) 0 3 x z = (fun _ => nPP t m x z) 2 := by
  rw [vS_b (b := 13) hz (by decide) (by decide)]
  unfold vW2
  rw [if_neg (by decide), if_neg (by decide), if_neg (by decide), if_pos rfl]
  exact nPP_e hz
theorem vl03_3 {t m x : Int32} {z : vS} (n : Nat) (hz : z.2.2 = 0) : vSp vB 3 t m (n + 1) 0 3 x z = (fun _ => nPP t m x z) 3 := by
  rw [vS_b (b := 13) hz (by decide) (by decide)]
  unfold vW2
  rw [if_neg (by decide), if_neg (by decide), if_neg (by decide), if_pos rfl]
  exact nPP_e hz
theorem vl03_4 {t m x : Int32} {z : vS} (n : Nat) (hz : z.2.2 = 0) : vSp vB 4 t m (n + 1) 0 3 x z = (fun _ => nPP t m x z) 4 := by
  rw [vS_b (b := 13) hz (by decide) (by decide)]
  unfold vW2
  rw [if_neg (by decide), if_neg (by decide), if_neg (by decide), if_pos rfl]
  exact nPP_e hz
theorem vl03_5 {t m x : Int32} {z : vS} (n : Nat) (hz : z.2.2 = 0) : vSp vB 5 t m (n + 1) 0 3 x z = (fun _ => nPP t m x z) 5 := by
  rw [vS_b (b := 13) hz (by decide) (by decide)]
  unfold vW2
  rw [if_neg (by decide), if_neg (by decide), if_neg (by decide), if_pos rfl]
  exact nPP_e hz
theorem vl03_6 {t m x : Int32} {z : vS} (n : Nat) (hz : z.2.2 = 0) : vSp vB 6 t m (n + 1) 0 3 x z = (fun _ => nPP t m x z) 6 := by
  rw [vS_b (b := 13) hz (by decide) (by decide)]
  unfold vW2
  rw [if_neg (by decide), if_neg (by decide), if_neg (by decide), if_pos rfl]
  exact nPP_e hz
theorem vlP_0 {t m x : Int32} {z : vS} (n : Nat) (hz : z.2.2 = 0) : vSp vB 0 t m (n + 7) 0 3 x z = nP 0 t m x z := by
  rw [vS_b (b := 13) hz (by decide) (by decide)]
  unfold vW2
  rw [if_neg (by decide), if_neg (by decide), if_neg (by decide), if_pos rfl]
  rw [nPP_e hz]; unfold nP; rw [if_neg (by decide)]
theorem vlP_1 {t m x : Int32} {z : vS} (n : Nat) (hz : z.2.2 = 0) : vSp vB 1 t m (n + 7) 1 3 x z = nP 1 t m x z := by
  rw [vS_b (b := 21) hz (by decide) (by decide)]
  unfold vW2
  rw [if_neg (by decide), if_neg (by decide), if_neg (by decide), if_neg (by decide), if_neg (by decide), if_pos rfl]
  rw [vl03_1 (n + 5) (vTr_p hz)]; unfold nP; rw [if_pos (by decide)]
  show ((nPP t m x (vTr 21 z)).1 + (vSp vB 1 t m (n + 6) 1 1 1 (nPP t m x (vTr 21 z)).2).1, (vSp vB 1 t m (n + 6) 1 1 1 (nPP t m x (vTr 21 z)).2).2) = _
  by_cases e : m - t = 0
  · rw [if_pos e, vS_p (show ¬ (nPP t m x (vTr 21 z)).2.2.2 = 0 from by show ¬ (if m - t = 0 then (1 : Int32) else 0) = 0; rw [if_pos e]; decide)]
    show ((if m - t = 0 then (0 : Int32) else x / (m - t)) + 0, _) = _
    rw [if_pos e]; rfl
  · rw [if_neg e, vlS_1 n (show (nPP t m x (vTr 21 z)).2.2.2 = 0 from by show (if m - t = 0 then (1 : Int32) else 0) = 0; rw [if_neg e])]
theorem vlP_2 {t m x : Int32} {z : vS} (n : Nat) (hz : z.2.2 = 0) : vSp vB 2 t m (n + 7) 2 3 x z = nP 2 t m x z := by
  rw [vS_b (b := 13) hz (by decide) (by decide)]
  unfold vW2
  rw [if_neg (by decide), if_neg (by decide), if_neg (by decide), if_pos rfl]
  rw [nPP_e hz]; unfold nP; rw [if_neg (by decide)]
theorem vlP_3 {t m x : Int32} {z : vS} (n : Nat) (hz : z.2.2 = 0) : vSp vB 3 t m (n + 7) 3 3 x z = nP 3 t m x z := by
  rw [vS_b (b := 13) hz (by decide) (by decide)]
  unfold vW2
  rw [if_neg (by decide), if_neg (by decide), if_neg (by decide), if_pos rfl]
  rw [nPP_e hz]; unfold nP; rw [if_neg (by decide)]
theorem vlP_4 {t m x : Int32} {z : vS} (n : Nat) (hz : z.2.2 = 0) : vSp vB 4 t m (n + 7) 4 3 x z = nP 4 t m x z := by
  rw [vS_b (b := 21) hz (by decide) (by decide)]
  unfold vW2
  rw [if_neg (by decide), if_neg (by decide), if_neg (by decide), if_neg (by decide), if_neg (by decide), if_pos rfl]
  rw [vl03_4 (n + 5) (vTr_p hz)]; unfold nP; rw [if_pos (by decide)]
  show ((nPP t m x (vTr 21 z)).1 + (vSp vB 4 t m (n + 6) 4 1 1 (nPP t m x (vTr 21 z)).2).1, (vSp vB 4 t m (n + 6) 4 1 1 (nPP t m x (vTr 21 z)).2).2) = _
  by_cases e : m - t = 0
  · rw [if_pos e, vS_p (show ¬ (nPP t m x (vTr 21 z)).2.2.2 = 0 from by show ¬ (if m - t = 0 then (1 : Int32) else 0) = 0; rw [if_pos e]; decide)]
    show ((if m - t = 0 then (0 : Int32) else x / (m - t)) + 0, _) = _
    rw [if_pos e]; rfl
  · rw [if_neg e, vlS_4 n (show (nPP t m x (vTr 21 z)).2.2.2 = 0 from by show (if m - t = 0 then (1 : Int32) else 0) = 0; rw [if_neg e])]
theorem vlP_5 {t m x : Int32} {z : vS} (n : Nat) (hz : z.2.2 = 0) : vSp vB 5 t m (n + 7) 5 3 x z = nP 5 t m x z := by
  rw [vS_b (b := 13) hz (by decide) (by decide)]
  unfold vW2
  rw [if_neg (by decide), if_neg (by decide), if_neg (by decide), if_pos rfl]
  rw [nPP_e hz]; unfold nP; rw [if_neg (by decide)]
theorem vlP_6 {t m x : Int32} {z : vS} (n : Nat) (hz : z.2.2 = 0) : vSp vB 6 t m (n + 7) 6 3 x z = nP 6 t m x z := by
  rw [vS_b (b := 13) hz (by decide) (by decide)]
  unfold vW2
  rw [if_neg (by decide), if_neg (by decide), if_neg (by decide), if_pos rfl]
  rw [nPP_e hz]; unfold nP; rw [if_neg (by decide)]
/-- a voice, as the reference speaks -/
def nV (kd t m u x : Int32) (z : vS) : vR := if u = 0 then nW kd t x z else if u = 1 then nS kd t m x z else if u = 2 then nT kd t m x z else nP kd t m x z
theorem nV_vSp {c d : Nat} (hc : c ≤ 6) (hd : d ≤ 3) {t m x : Int32} {z : vS} (hz : z.2.2 = 0) : nV (nI c) t m (nI d) x z = vSp vB (nI c) t m 21 (nI c) (nI d) x z := by
  have hcs : c = 0 ∨ c = 1 ∨ c = 2 ∨ c = 3 ∨ c = 4 ∨ c = 5 ∨ c = 6 := by omega
  have hds : d = 0 ∨ d = 1 ∨ d = 2 ∨ d = 3 := by omega
  unfold nV
  rcases hcs with rfl | rfl | rfl | rfl | rfl | rfl | rfl <;> rcases hds with rfl | rfl | rfl | rfl
  · rw [if_pos (by decide)]; exact (vlW_0 18 hz).symm
  · rw [if_neg (by decide), if_pos (by decide)]; exact (vlS_0 15 hz).symm
  · rw [if_neg (by decide), if_neg (by decide), if_pos (by decide)]; exact (vlT_0 13 hz).symm
  · rw [if_neg (by decide), if_neg (by decide), if_neg (by decide)]; exact (vlP_0 14 hz).symm
  · rw [if_pos (by decide)]; exact (vlW_1 18 hz).symm
  · rw [if_neg (by decide), if_pos (by decide)]; exact (vlS_1 15 hz).symm
  · rw [if_neg (by decide), if_neg (by decide), if_pos (by decide)]; exact (vlT_1 13 hz).symm
  · rw [if_neg (by decide), if_neg (by decide), if_neg (by decide)]; exact (vlP_1 14 hz).symm
  · rw [if_pos (by decide)]; exact (vlW_2 18 hz).symm
  · rw [if_neg (by decide), if_pos (by decide)]; exact (vlS_2 15 hz).symm
  · rw [if_neg (by decide), if_neg (by decide), if_pos (by decide)]; exact (vlT_2 13 hz).symm
  · rw [if_neg (by decide), if_neg (by decide), if_neg (by decide)]; exact (vlP_2 14 hz).symm
  · rw [if_pos (by decide)]; exact (vlW_3 18 hz).symm
  · rw [if_neg (by decide), if_pos (by decide)]; exact (vlS_3 15 hz).symm
  · rw [if_neg (by decide), if_neg (by decide), if_pos (by decide)]; exact (vlT_3 13 hz).symm
  · rw [if_neg (by decide), if_neg (by decide), if_neg (by decide)]; exact (vlP_3 14 hz).symm
  · rw [if_pos (by decide)]; exact (vlW_4 18 hz).symm
  · rw [if_neg (by decide), if_pos (by decide)]; exact (vlS_4 15 hz).symm
  · rw [if_neg (by decide), if_neg (by decide), if_pos (by decide)]; exact (vlT_4 13 hz).symm
  · rw [if_neg (by decide), if_neg (by decide), if_neg (by decide)]; exact (vlP_4 14 hz).symm
  · rw [if_pos (by decide)]; exact (vlW_5 18 hz).symm
  · rw [if_neg (by decide), if_pos (by decide)]; exact (vlS_5 15 hz).symm
  · rw [if_neg (by decide), if_neg (by decide), if_pos (by decide)]; exact (vlT_5 13 hz).symm
  · rw [if_neg (by decide), if_neg (by decide), if_neg (by decide)]; exact (vlP_5 14 hz).symm
  · rw [if_pos (by decide)]; exact (vlW_6 18 hz).symm
  · rw [if_neg (by decide), if_pos (by decide)]; exact (vlS_6 15 hz).symm
  · rw [if_neg (by decide), if_neg (by decide), if_pos (by decide)]; exact (vlT_6 13 hz).symm
  · rw [if_neg (by decide), if_neg (by decide), if_neg (by decide)]; exact (vlP_6 14 hz).symm
