/-! ===== what the answers are: over the reference's arrays in I ===== -/
/-- how many of the first k bits are set -/
def pcN (s : BitVec 64) : Nat → Int
  | 0 => 0
  | k + 1 => pcN s k + (if s.getLsbD k = true then 1 else 0)
theorem pcN_B (s : BitVec 64) : ∀ k : Nat, 0 ≤ pcN s k ∧ pcN s k ≤ k
  | 0 => by simp [pcN]
  | k + 1 => by
    have h := pcN_B s k
    simp only [pcN]
    split <;> omega
/-- a book is looked at -/
abbrev bitI (x : Int) (k : Nat) : Prop := andI (shrI x k) 1 = 1
/-- book k has an entry of w from a to b that counts -/
abbrev entW (I : Nat → Int → Int) (lk a w b : Int) (k : Nat) : Prop := bitI lk k ∧ I 35 k ≤ I 32 9 ∧ I 33 k = a ∧ I 34 k = b ∧ 0 < I 36 (60 * k + w)
/-- of the first j books the latest that has it; -1 -/
def latN (I : Nat → Int → Int) (lk a w b : Int) : Nat → Int
  | 0 => -1
  | j + 1 => if entW I lk a w b j ∧ (latN I lk a w b j < 0 ∨ I 35 (latN I lk a w b j) ≤ I 35 j) then (j : Int) else latN I lk a w b j
theorem latN_B (I : Nat → Int → Int) (lk a w b : Int) : ∀ j : Nat, -1 ≤ latN I lk a w b j ∧ latN I lk a w b j < j
  | 0 => by simp [latN]
  | j + 1 => by
    have h := latN_B I lk a w b j
    simp only [latN]
    split <;> omega
/-- the number of the book, of all -/
def lat (I : Nat → Int → Int) (lk a w b : Int) : Int := latN I lk a w b (I 32 0).toNat
/-- the entry's place; -1 -/
def ent (I : Nat → Int → Int) (lk a w b : Int) : Int := if lat I lk a w b < 0 then -1 else 60 * lat I lk a w b + w
/-- the first j words of a sense, those that count -/
def ssN (I : Nat → Int → Int) (ag s : Int) : Nat → BitVec 64
  | 0 => 0#64
  | j + 1 => ssN I ag s j ||| (if ag ≠ 0 ∨ I 40 (6 * s + j) = 0 then 1#64 <<< (I 39 (6 * s + j)).toNat else 0#64)
def ss (I : Nat → Int → Int) (ag s : Int) : BitVec 64 := ssN I ag s (I 38 s).toNat
/-- the first j senses of an entry -/
def geN (I : Nat → Int → Int) (ag e : Int) : Nat → BitVec 64
  | 0 => 0#64
  | j + 1 => geN I ag e j ||| ss I ag (3 * e + j)
def ge (I : Nat → Int → Int) (ag e : Int) : BitVec 64 := if e < 0 then 0#64 else geN I ag e (I 36 e).toNat
/-- GIVES -/
def gv (I : Nat → Int → Int) (lk a w b : Int) : BitVec 64 := ge I (I 32 10) (ent I lk a w b)
/-- the reference's arrays hold what they must -/
def RW (I : Nat → Int → Int) : Prop :=
  0 ≤ I 32 0 ∧ I 32 0 ≤ 8 ∧ 0 ≤ I 32 9 ∧ I 32 9 ≤ 999 ∧ (I 32 10 = 0 ∨ I 32 10 = 1) ∧
  ∀ k : Nat, (k : Int) < I 32 0 → (0 ≤ I 33 k ∧ I 33 k < 4 ∧ 0 ≤ I 34 k ∧ I 34 k < 4 ∧ I 33 k ≠ I 34 k ∧ 0 ≤ I 35 k ∧ I 35 k ≤ 999) ∧
    ∀ w : Int, 0 ≤ w → w < 60 → (0 ≤ I 36 (60 * k + w) ∧ I 36 (60 * k + w) ≤ 3) ∧
      ∀ s : Int, 0 ≤ s → s < I 36 (60 * k + w) → (-1 ≤ I 37 (3 * (60 * k + w) + s) ∧ I 37 (3 * (60 * k + w) + s) ≤ 5 ∧ 1 ≤ I 38 (3 * (60 * k + w) + s) ∧ I 38 (3 * (60 * k + w) + s) ≤ 6) ∧
        ∀ p : Int, 0 ≤ p → p < I 38 (3 * (60 * k + w) + s) → (0 ≤ I 39 (6 * (3 * (60 * k + w) + s) + p) ∧ I 39 (6 * (3 * (60 * k + w) + s) + p) < 60 ∧ (I 40 (6 * (3 * (60 * k + w) + s) + p) = 0 ∨ I 40 (6 * (3 * (60 * k + w) + s) + p) = 1)) ∧
          ∀ p' : Int, 0 ≤ p' → p' < p → I 39 (6 * (3 * (60 * k + w) + s) + p') ≠ I 39 (6 * (3 * (60 * k + w) + s) + p)

