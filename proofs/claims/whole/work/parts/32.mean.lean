/-! ===== groups: closures under neighbours ===== -/
/-- a set closed under neighbours -/
def NCl (nb : Nat → BitVec 64) (S : BitVec 64) : Prop := ∀ x : Nat, x < 60 → S.getLsbD x = true → ∀ i : Nat, i < 60 → (nb x).getLsbD i = true → S.getLsbD i = true
def inClo (nb : Nat → BitVec 64) (t i : Nat) : Prop := ∀ S, NCl nb S → S.getLsbD t = true → S.getLsbD i = true
noncomputable def cloB (nb : Nat → BitVec 64) (t i : Nat) : Bool := @decide (inClo nb t i) (Classical.propDecidable _)
theorem cloB_iff {nb : Nat → BitVec 64} {t i : Nat} : cloB nb t i = true ↔ inClo nb t i := by
  unfold cloB
  exact @decide_eq_true_iff (inClo nb t i) (Classical.propDecidable _)
/-- what is left, and how many groups there were, behind the first t words -/
noncomputable def mnF (nb : Nat → BitVec 64) (g : BitVec 64) : Nat → (Nat → Bool) × Int
  | 0 => (fun i => g.getLsbD i, 0)
  | t + 1 => if (mnF nb g t).1 t = true then (fun i => (mnF nb g t).1 i && !cloB nb t i, (mnF nb g t).2 + 1) else mnF nb g t
theorem mnF_skip {nb : Nat → BitVec 64} {g : BitVec 64} {t : Nat} : ∀ d : Nat, (∀ i, t ≤ i → i < t + d → (mnF nb g t).1 i = false) → mnF nb g (t + d) = mnF nb g t
  | 0, _ => rfl
  | d + 1, h => by
    have ih := mnF_skip d (fun i h1 h2 => h i h1 (by omega))
    show mnF nb g ((t + d) + 1) = _
    simp only [mnF]
    rw [ih, if_neg (by rw [h (t + d) (by omega) (by omega)]; decide)]
theorem mnF_B (nb : Nat → BitVec 64) (g : BitVec 64) : ∀ t : Nat, 0 ≤ (mnF nb g t).2 ∧ (mnF nb g t).2 ≤ t
  | 0 => by simp [mnF]
  | t + 1 => by
    have ih := mnF_B nb g t
    simp only [mnF]
    split
    · dsimp only; omega
    · omega
theorem low_bit {s : BitVec 64} (h : ¬ s = 0#64) : ∃ t : Nat, t < 64 ∧ s.getLsbD t = true ∧ (∀ i : Nat, i < t → s.getLsbD i = false) ∧ s &&& -s = 1#64 <<< t := by
  obtain ⟨i0, hi0, hb0⟩ := bv_ne0 h
  obtain ⟨t, ⟨ht1, ht2⟩, ht3⟩ := pk_least (fun i => i < 64 ∧ s.getLsbD i = true) ⟨i0, hi0, hb0⟩
  have hlow : ∀ i : Nat, i < t → s.getLsbD i = false := fun i hi => by
    cases hc : s.getLsbD i with
    | false => rfl
    | true => exact absurd ⟨by omega, hc⟩ (ht3 i hi)
  refine ⟨t, ht1, ht2, hlow, ?_⟩
  apply BitVec.eq_of_getLsbD_eq
  intro i hi
  rw [BitVec.getLsbD_and, BitVec.getLsbD_neg, shl1_bit t i ht1]
  rcases Nat.lt_trichotomy i t with hlt | heq | hgt
  · rw [hlow i hlt]; simp; omega
  · subst heq
    have : ¬ ∃ j, j < i ∧ s.getLsbD j = true := fun ⟨j, hj, hb⟩ => by rw [hlow j hj] at hb; cases hb
    simp [ht2, this, hi]
  · have : ∃ j, j < i ∧ s.getLsbD j = true := ⟨t, hgt, ht2⟩
    have hne : ¬ i = t := by omega
    cases hc : s.getLsbD i <;> simp [this, hi, hne, hc]
/-- what x leads back to, but w -/
def miX (I : Nat → Int → Int) (lk a w b : Int) (x : Nat) : BitVec 64 := if (gv I lk a w b).getLsbD x = true then gv I lk b x a &&& (1#64 <<< w.toNat ^^^ 18446744073709551615#64) else 0#64
/-- the reference's neighbours of x: by common words .. -/
def nrN (I : Nat → Int → Int) (lk a w b : Int) (x : Nat) : Nat → BitVec 64
  | 0 => 1#64 <<< x
  | y + 1 => nrN I lk a w b x y ||| (if (gv I lk a w b).getLsbD y = true ∧ ¬ miX I lk a w b x &&& gv I lk b y a = 0#64 then 1#64 <<< y else 0#64)
/-- .. and by senses -/
def nsN (I : Nat → Int → Int) (lk a w b : Int) (x : Nat) : Nat → BitVec 64
  | 0 => nrN I lk a w b x 60
  | j + 1 => nsN I lk a w b x j ||| (if (ss I (I 32 10) (3 * ent I lk a w b + j)).getLsbD x = true then ss I (I 32 10) (3 * ent I lk a w b + j) else 0#64)
def nbr (I : Nat → Int → Int) (lk a w b : Int) (x : Nat) : BitVec 64 := nsN I lk a w b x (cntE I (ent I lk a w b))
noncomputable def aMean (I : Nat → Int → Int) (lk a w b : Int) : Int := if tgP a ∧ wdP w ∧ tgP b then (if a = b then -1002 else (mnF (nbr I lk a w b) (gv I lk a w b) 60).2) else -1001
/-- sets of words have no bits from 60 on -/
theorem or60 {s t : BitVec 64} (hs : ∀ i : Nat, 60 ≤ i → s.getLsbD i = false) (ht : ∀ i : Nat, 60 ≤ i → t.getLsbD i = false) : ∀ i : Nat, 60 ≤ i → (s ||| t).getLsbD i = false := fun i hi => by rw [BitVec.getLsbD_or, hs i hi, ht i hi]; rfl
theorem shl60 {w : Nat} (hw : w < 60) : ∀ i : Nat, 60 ≤ i → (1#64 <<< w).getLsbD i = false := fun i hi => by rw [shl1_bit w i (by omega)]; simp; omega
theorem zero60 : ∀ i : Nat, 60 ≤ i → (0#64 : BitVec 64).getLsbD i = false := fun i _ => by simp
section
variable {I : Nat → Int → Int}
theorem ss60 {ag s : Int} (hs : SOk I s) : ∀ i : Nat, 60 ≤ i → (ss I ag s).getLsbD i = false := by
  have key : ∀ j : Nat, j ≤ (I 38 s).toNat → ∀ i : Nat, 60 ≤ i → (ssN I ag s j).getLsbD i = false := by
    intro j
    induction j with
    | zero => intro _ i hi; simp [ssN]
    | succ j ih =>
      intro hj
      have hp := hs.2 j (by omega) (by omega)
      simp only [ssN]
      refine or60 (ih (by omega)) ?_
      split
      · exact shl60 (by omega)
      · exact zero60
  exact key _ (Nat.le_refl _)
theorem ge60 {ag e : Int} (he : e = -1 ∨ EOk I e) : ∀ i : Nat, 60 ≤ i → (ge I ag e).getLsbD i = false := by
  unfold ge
  rcases he with he | he
  · rw [if_pos (by omega)]; exact zero60
  · have h1 := he.1
    rw [if_neg (by omega)]
    have key : ∀ j : Nat, j ≤ (I 36 e).toNat → ∀ i : Nat, 60 ≤ i → (geN I ag e j).getLsbD i = false := by
      intro j
      induction j with
      | zero => intro _ i hi; simp [geN]
      | succ j ih =>
        intro hj
        simp only [geN]
        exact or60 (ih (by omega)) (ss60 (he.2 j (by omega) (by omega)))
    exact key _ (Nat.le_refl _)
theorem gv60 (hW : RW I) (lk a b : Int) {w : Int} (h0 : 0 ≤ w) (h1 : w < 60) : ∀ i : Nat, 60 ≤ i → (gv I lk a w b).getLsbD i = false := ge60 (hW.entOk h0 h1)
theorem nrN60 {lk a w b : Int} {x : Nat} (hx : x < 60) : ∀ k : Nat, k ≤ 60 → ∀ i : Nat, 60 ≤ i → (nrN I lk a w b x k).getLsbD i = false
  | 0, _ => shl60 hx
  | k + 1, hk => by
    simp only [nrN]
    refine or60 (nrN60 hx k (by omega)) ?_
    split
    · exact shl60 (by omega)
    · exact zero60
theorem nbr60 (hW : RW I) {lk a w b : Int} (h0 : 0 ≤ w) (h1 : w < 60) {x : Nat} (hx : x < 60) : ∀ i : Nat, 60 ≤ i → (nbr I lk a w b x).getLsbD i = false := by
  have he := hW.entOk (lk := lk) (a := a) (b := b) h0 h1
  have key : ∀ j : Nat, j ≤ cntE I (ent I lk a w b) → ∀ i : Nat, 60 ≤ i → (nsN I lk a w b x j).getLsbD i = false := by
    intro j
    induction j with
    | zero => intro _; exact nrN60 hx 60 (by omega)
    | succ j ih =>
      intro hj
      obtain ⟨hE, _, hk, _⟩ := cntE_le (k := j) (tt := cntE I (ent I lk a w b) - j - 1) he (by omega)
      simp only [nsN]
      refine or60 (ih (by omega)) ?_
      split
      · exact ss60 (hE.2 j (by omega) hk)
      · exact zero60
  exact key _ (Nat.le_refl _)
end

