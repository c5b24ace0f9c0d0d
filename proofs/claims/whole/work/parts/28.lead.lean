/-! ===== families of words that lead on ===== -/
abbrev ALLW : BitVec 64 := 1152921504606846975#64
theorem ALLW_bit (i : Nat) : ALLW.getLsbD i = decide (i < 60) := by
  by_cases h : i < 64
  · have key : ∀ i : Fin 64, ALLW.getLsbD (i : Nat) = decide ((i : Nat) < 60) := by decide +kernel
    exact key ⟨i, h⟩
  · rw [BitVec.getLsbD_of_ge _ _ (by omega)]
    simp; omega
def Clo (I : Nat → Int → Int) (lk b : Int) (T : Int → BitVec 64) : Prop := (∀ w : Nat, w < 60 → (T b).getLsbD w = true) ∧ ∀ (p : Int) (w : Nat) (q : Int), tgP p → w < 60 → tgP q → ¬ gv I lk p w q &&& T q = 0#64 → (T p).getLsbD w = true
/-- a set of words of a all lead to b, in every closed family -/
def cov (I : Nat → Int → Int) (lk a b : Int) (s : BitVec 64) : Prop := ∀ T, Clo I lk b T → ∀ w : Nat, w < 60 → s.getLsbD w = true → (T a).getLsbD w = true
def Ivl (I : Nat → Int → Int) (lk b : Int) (S : Int → BitVec 64) : Prop := S b = ALLW ∧ (∀ p, tgP p → ∀ i : Nat, 60 ≤ i → (S p).getLsbD i = false) ∧ ∀ T, Clo I lk b T → ∀ p, tgP p → ∀ w : Nat, w < 60 → (S p).getLsbD w = true → (T p).getLsbD w = true
/-- the least family -/
def Lst (I : Nat → Int → Int) (lk b : Int) (S : Int → BitVec 64) : Prop := Ivl I lk b S ∧ Clo I lk b S
theorem bv_ne0 {s : BitVec 64} (h : ¬ s = 0#64) : ∃ i : Nat, i < 64 ∧ s.getLsbD i = true := by
  apply Classical.byContradiction
  intro hn
  apply h
  apply BitVec.eq_of_getLsbD_eq
  intro i hi
  simp only [BitVec.getLsbD_zero]
  cases hc : s.getLsbD i with
  | false => rfl
  | true => exact absurd ⟨i, hi, hc⟩ hn
theorem bv_ne0' {s : BitVec 64} {i : Nat} (h : s.getLsbD i = true) : ¬ s = 0#64 := by
  intro q; rw [q] at h; simp at h
theorem Lst_cov {I : Nat → Int → Int} {lk a b : Int} {S : Int → BitVec 64} {s : BitVec 64} (h : Lst I lk b S) (ha : tgP a) (hs : ∀ i : Nat, 60 ≤ i → s.getLsbD i = false) : s &&& (S a ^^^ 18446744073709551615#64) = 0#64 ↔ cov I lk a b s := by
  have hbit : ∀ i : Nat, i < 64 → (s &&& (S a ^^^ 18446744073709551615#64)).getLsbD i = (s.getLsbD i && !(S a).getLsbD i) := by
    intro i hi
    rw [BitVec.getLsbD_and, BitVec.getLsbD_xor]
    have key : ∀ i : Fin 64, (18446744073709551615#64 : BitVec 64).getLsbD (i : Nat) = true := by decide +kernel
    rw [key ⟨i, hi⟩]; simp
  constructor
  · intro h0 T hT w hw hsw
    refine h.1.2.2 T hT a ha w hw ?_
    have h1 := hbit w (by omega)
    rw [h0, hsw] at h1
    simpa using h1
  · intro hc
    apply BitVec.eq_of_getLsbD_eq
    intro i hi
    rw [hbit i hi, BitVec.getLsbD_zero]
    by_cases h60 : i < 60
    · cases hsi : s.getLsbD i with
      | false => rfl
      | true => rw [hc S h.2 i h60 hsi]; rfl
    · rw [hs i (by omega)]; rfl
theorem shl1_bit (w i : Nat) (hw : w < 64) : (1#64 <<< w).getLsbD i = decide (i = w) := by
  rw [BitVec.getLsbD_shiftLeft]
  by_cases h : i = w
  · subst h; simp [hw]
  · by_cases h2 : i < w
    · simp [h2, h]
    · simp [h2, h]
      intro h3 h4
      omega
theorem pcN_set (s : BitVec 64) {w : Nat} (hw : w < 64) (h0 : s.getLsbD w = false) : ∀ k, pcN (s ||| 1#64 <<< w) k = pcN s k + (if w < k then 1 else 0)
  | 0 => by simp [pcN]
  | k + 1 => by
    have ih := pcN_set s hw h0 k
    simp only [pcN, ih, BitVec.getLsbD_or, shl1_bit w k hw]
    by_cases hk : k = w
    · subst hk
      simp [h0]
    · by_cases hlt : w < k
      · rw [if_pos hlt, if_pos (show w < k + 1 by omega)]
        simp [hk]; omega
      · rw [if_neg hlt, if_neg (show ¬ w < k + 1 by omega)]
        simp [hk]
def cntF (S : Int → BitVec 64) : Int := pcN (S 0) 60 + pcN (S 1) 60 + pcN (S 2) 60 + pcN (S 3) 60
theorem cntF_B (S : Int → BitVec 64) : 0 ≤ cntF S ∧ cntF S ≤ 240 := by
  have h0 := pcN_B (S 0) 60
  have h1 := pcN_B (S 1) 60
  have h2 := pcN_B (S 2) 60
  have h3 := pcN_B (S 3) 60
  unfold cntF; omega
/-- a family with one word more -/
def addF (S : Int → BitVec 64) (p : Int) (w : Nat) : Int → BitVec 64 := fun q => if q = p then S p ||| 1#64 <<< w else S q
theorem cntF_add {S : Int → BitVec 64} {p : Int} {w : Nat} (hp : tgP p) (hw : w < 60) (h0 : (S p).getLsbD w = false) : cntF (addF S p w) = cntF S + 1 := by
  have e := pcN_set (S p) (show w < 64 by omega) h0 60
  rw [if_pos hw] at e
  unfold cntF addF
  rcases (show p = 0 ∨ p = 1 ∨ p = 2 ∨ p = 3 by omega) with rfl | rfl | rfl | rfl <;> simp [e] <;> omega
theorem Ivl_add {I : Nat → Int → Int} {lk b : Int} {S : Int → BitVec 64} {p : Int} {w : Nat} {q : Int} (h : Ivl I lk b S) (hp : tgP p) (hq : tgP q) (hb : tgP b) (hw : w < 60) (hh : ¬ gv I lk p w q &&& S q = 0#64) : Ivl I lk b (addF S p w) := by
  obtain ⟨h1, h2, h3⟩ := h
  refine ⟨?_, ?_, ?_⟩
  · unfold addF
    split
    · rename_i e
      rw [← e, h1]
      apply BitVec.eq_of_getLsbD_eq
      intro i hi
      rw [BitVec.getLsbD_or, shl1_bit w i (by omega), ALLW_bit]
      by_cases hiw : i = w
      · subst hiw; simp [hw]
      · simp [hiw]
    · exact h1
  · intro p' hp' i hi
    unfold addF
    split
    · rw [BitVec.getLsbD_or, shl1_bit w i (by omega), h2 p hp i hi]
      simp; omega
    · exact h2 p' hp' i hi
  · intro T hT p' hp' w' hw' hb'
    unfold addF at hb'
    split at hb'
    · rename_i e
      subst e
      rw [BitVec.getLsbD_or, shl1_bit w w' (by omega)] at hb'
      by_cases hww : w' = w
      · subst hww
        obtain ⟨i, hi, hib⟩ := bv_ne0 hh
        rw [BitVec.getLsbD_and] at hib
        simp only [Bool.and_eq_true] at hib
        have hi60 : i < 60 := by
          apply Classical.byContradiction
          intro q1
          have := h2 q hq i (by omega)
          rw [hib.2] at this; cases this
        refine hT.2 p' w' q hp' hw hq (bv_ne0' (i := i) ?_)
        rw [BitVec.getLsbD_and, hib.1, h3 T hT q hq i hi60 hib.2]; rfl
      · have : (S p').getLsbD w' = true := by simpa [hww] using hb'
        exact h3 T hT p' hp w' hw' this
    · exact h3 T hT p' hp' w' hw' hb'

