/-! ===== what a block is, what is asked of it: pure words ===== -/
abbrev sg : Type := Nat → Nat → Int32
/-- the class's block at b -/
def abX (w : jWd) (b : Nat) : sg := fun f k => match f with
  | 0 => if k < 8 then w.1 (b + 1) k else 0
  | 1 => if k < 8 then w.1 (b + 2) k else 0
  | 2 => if k < 8 then w.1 (b + 3) k else 0
  | 3 => if k < 8 then w.1 (b + 4) k else 0
  | 4 => if k < 8 then w.1 (b + 5) k else 0
  | 5 => if k < 8 then (w.1 b 9 >>> (nI k &&& 31)) &&& 1 else 0
  | 6 => match k with
    | 0 => w.1 b 8
    | 1 => w.1 b 10
    | 2 => w.1 b 11
    | 3 => w.1 b 12
    | 4 => w.1 b 13
    | 5 => w.1 b 14
    | 6 => w.1 b 15
    | 7 => w.1 b 16
    | _ => 0
  | 7 => if k < 60 then w.1 (b + 6) k else 0
  | 8 => if k < 24 then w.1 (b + 7) k else 0
  | 9 => if k < (w.1 (b + 9) 5).toNatClampNeg then w.1 (b + 10) k else 0
  | 10 => if k < (w.1 (b + 12) 5).toNatClampNeg then w.1 (b + 13) k else 0
  | 11 => match k with
    | 0 => w.1 (b + 9) 5
    | 1 => w.1 (b + 12) 5
    | _ => 0
  | _ => 0
/-- a step as the class writes it, out of the reference's two numbers -/
def sEnc (act v : Int32) : Int32 := if act = 1 then v else if act = 2 then -1 - v else if act = 3 then -33 else -act
/-- the reference's row -/
def abM (r : Nat → Int32) : sg := fun f k => match f with
  | 0 => if k < 8 then r (8 + 6 * k) else 0
  | 1 => if k < 8 then r (8 + 6 * k + 1) else 0
  | 2 => if k < 8 then r (8 + 6 * k + 2) else 0
  | 3 => if k < 8 then r (8 + 6 * k + 3) else 0
  | 4 => if k < 8 then r (8 + 6 * k + 4) else 0
  | 5 => if k < 8 then r (8 + 6 * k + 5) else 0
  | 6 => match k with
    | 0 => r 2
    | 1 => r 3
    | 2 => r 0
    | 3 => r 4
    | 4 => r 5
    | 5 => r 1
    | 6 => r 6
    | 7 => r 7
    | _ => 0
  | 7 => if k < 60 then r (56 + k) else 0
  | 8 => if k < 24 then r (116 + k) else 0
  | 9 => if k < (r 140).toNatClampNeg then sEnc (r (141 + k)) (r (201 + k)) else 0
  | 10 => if k < (r 261).toNatClampNeg then sEnc (r (262 + k)) (r (322 + k)) else 0
  | 11 => match k with
    | 0 => r 140
    | 1 => r 261
    | _ => 0
  | _ => 0
def sM (σ : sg) : Nat := (σ 6 0).toNatClampNeg
def sP (σ : sg) : Nat := (σ 6 1).toNatClampNeg
def sR (σ : sg) : Nat := (σ 6 2).toNatClampNeg
def sC (σ : sg) (u : Nat) : Nat := (σ 11 u).toNatClampNeg
/-- a step's kind is one that is known -/
def sSign (x : Int32) : Prop := x = -124 ∨ x = -38 ∨ x = -60 ∨ x = -61 ∨ x = -62 ∨ x = -43 ∨ x = -45 ∨ x = -42 ∨ x = -47 ∨ x = -37
/-- how many values stand behind i steps -/
def sDep (st : Nat → Int32) : Nat → Nat
  | 0 => 0
  | i + 1 => if -3 ≤ st i then sDep st i + 1 else if st i = -33 then sDep st i else sDep st i - 1
def sWf (st : Nat → Int32) (n : Nat) : Prop := (∀ i, i < n → -3 ≤ st i ∨ (st i = -33 ∧ 1 ≤ sDep st i) ∨ (sSign (st i) ∧ 2 ≤ sDep st i)) ∧ (0 < n → sDep st n = 1)
/-- what holds of each block -/
def sMk (σ : sg) (k : Nat) : Prop := (0 ≤ (σ 0 k).toInt ∧ (σ 0 k).toInt ≤ 6) ∧ (0 ≤ (σ 1 k).toInt ∧ (σ 1 k).toInt ≤ 9) ∧ (-1 ≤ (σ 2 k).toInt ∧ (σ 2 k).toInt < (sP σ : Int)) ∧ (0 ≤ (σ 3 k).toInt ∧ (σ 3 k).toInt < (sP σ : Int)) ∧ σ 2 k ≠ σ 3 k ∧ (-20 ≤ (σ 4 k).toInt ∧ (σ 4 k).toInt ≤ 20) ∧ (σ 5 k = 0 ∨ σ 5 k = 1)
def sInv (σ : sg) : Prop := (σ 6 0 = nI (sM σ) ∧ sM σ ≤ 8) ∧ (σ 6 1 = nI (sP σ) ∧ 1 ≤ sP σ ∧ sP σ ≤ 4) ∧ (σ 6 2 = nI (sR σ) ∧ sR σ ≤ 1000000) ∧ (0 ≤ (σ 6 3).toInt ∧ (σ 6 3).toInt ≤ 99) ∧ (0 ≤ (σ 6 4).toInt ∧ (σ 6 4).toInt ≤ 9999) ∧ (∃ n, σ 6 6 = nI n ∧ n ≤ 60) ∧ (∃ n, σ 6 7 = nI n ∧ n ≤ 24) ∧
  (∀ k, k < sM σ → sMk σ k) ∧ (∀ k, sM σ ≤ k → σ 5 k = 0) ∧ (∀ u, u < 2 → σ 11 u = nI (sC σ u) ∧ sC σ u ≤ 60 ∧ sWf (σ (9 + u)) (sC σ u)) ∧ (∀ k, k < 60 → 0 ≤ (σ 7 k).toInt ∧ (σ 7 k).toInt ≤ 255)
/-- two values and a sign -/
def sJoin (s a b : Int32) : Int32 :=
  if s = 124 then jb (a ≠ 0 ∨ b ≠ 0) else if s = 38 then jb (a ≠ 0 ∧ b ≠ 0) else if s = 60 then jb (a < b) else if s = 61 then jb (a = b) else if s = 62 then jb (b < a) else if s = 43 then a + b else if s = 45 then a - b else if s = 42 then a * b else if s = 47 then (if b = 0 then 0 else a / b) else if s = 37 then (if b = 0 then 0 else a - a / b * b) else 0
/-- what stands behind i steps, the last first -/
def sRun (st : Nat → Int32) (a b c : Int32) : Nat → List Int32
  | 0 => []
  | i + 1 => if 0 ≤ st i then st i :: sRun st a b c i else if st i = -1 then a :: sRun st a b c i else if st i = -2 then b :: sRun st a b c i else if st i = -3 then c :: sRun st a b c i else if st i = -33 then
      (match sRun st a b c i with
       | x :: r => jb (x = 0) :: r
       | [] => [])
    else
      (match sRun st a b c i with
       | y :: x :: r => sJoin (-st i) x y :: r
       | r => r)
def sHeld (x lo hi : Int32) : Int32 := if x < lo then lo else if hi < x then hi else x
def sLo (u : Nat) : Int32 := if u = 0 then 1 else -30
def sHi (u : Nat) : Int32 := if u = 0 then 4 else 30
/-- what a text gives -/
def sGiv (σ : sg) (u : Nat) (a b c : Int32) : Int32 := sHeld (if sC σ u = 0 then a else (sRun (σ (9 + u)) a b c (sC σ u)).headD 0) (sLo u) (sHi u)
/-- how many of the first n marks touch a picture and are on -/
def sTou (σ : sg) (p : Int32) : Nat → Nat
  | 0 => 0
  | n + 1 => sTou σ p n + (if σ 5 n = 1 ∧ (σ 2 n = p ∨ σ 3 n = p) then 1 else 0)
def sTch (σ : sg) (k : Nat) : Int32 := nI (sTou σ (σ 3 k) (sM σ))
def sStar (t : Int32) : Int32 := if 3 < t then 1 else 3
def sWd (σ : sg) (k : Nat) (t : Int32) : Int32 :=
  if σ 0 k = 1 then 3 else if σ 0 k = 2 then sStar t else if σ 0 k = 3 then (if 4 < σ 1 k then 4 else 2) else if σ 0 k = 4 then (if sR σ % 2 = 0 then 3 else 1) else if σ 0 k = 5 then sStar t - 1 else if σ 0 k = 6 then 4 else 2
def sRd (σ : sg) (k : Nat) : Int32 :=
  if σ 0 k = 3 then σ 4 k + (σ 1 k - σ 1 k / 3 * 3) - 1 else if σ 0 k = 4 then σ 4 k + (σ 6 2 - σ 6 2 / (σ 1 k + 1) * (σ 1 k + 1)) else if σ 0 k = 5 then 2 * (σ 4 k / 2) else if σ 0 k = 6 then (if σ 4 k < 0 then 0 else σ 4 k) - σ 1 k else σ 4 k
def sR8 (σ : sg) : Int32 := nI (sR σ % 8)
def sW (σ : sg) (k : Nat) : Int32 := sGiv σ 0 (sWd σ k (sTch σ k)) (sTch σ k) (sR8 σ)
def sS (σ : sg) (k : Nat) : Int32 := sGiv σ 1 (sRd σ k) (σ 4 k) (sR8 σ)
/-- the marks that are on, of the first n, as a set -/
def sOn (σ : sg) : Nat → Nat
  | 0 => 0
  | n + 1 => sOn σ n + (if σ 5 n = 1 then 2 ^ n else 0)
def sSet (σ : sg) : Nat := sOn σ (sM σ)
/-- one pass over the first n marks of a set: what is tied (bit 0: the ground) -/
def sPass (σ : sg) (set : Nat) : Nat → Nat → Nat
  | 0, t => t
  | n + 1, t => let t1 := sPass σ set n t
    let e := 2 ^ ((σ 2 n).toInt + 1).toNat ||| 2 ^ ((σ 3 n).toInt + 1).toNat
    if set.testBit n = true ∧ t1 &&& e ≠ 0 then t1 ||| e else t1
def sPasses (σ : sg) (set : Nat) : Nat → Nat
  | 0 => 1
  | n + 1 => sPass σ set (sM σ) (sPasses σ set n)
/-- the pictures that a set ties -/
def sTied (σ : sg) (set : Nat) : Nat := sPasses σ set (sP σ) >>> 1
def sHolds (σ : sg) (set : Nat) : Prop := sTied σ set = 2 ^ sP σ - 1
