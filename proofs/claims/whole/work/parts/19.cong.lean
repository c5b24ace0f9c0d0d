/-! ===== scratch cells, and what doesn't see them ===== -/
def scr (o : Nat) (k : Int) : Prop := (o = 32 ∧ 15 ≤ k ∧ k ≤ 24) ∨ (o = 32 ∧ k = 42) ∨ (52 ≤ o ∧ o ≤ 55) ∨ o = 6 ∨ (19 ≤ o ∧ o ≤ 28) ∨ o = 3
def Eqv (I J : Nat → Int → Int) : Prop := ∀ (o : Nat) (k : Int), ¬ scr o k → J o k = I o k
def EqvL (L K : Nat → Int → BitVec 64) : Prop := ∀ (o : Nat) (k : Int), ¬ (o = 42 ∨ o = 56 ∨ o = 30 ∨ o = 31) → K o k = L o k
theorem Eqv.rf (I : Nat → Int → Int) : Eqv I I := fun _ _ _ => rfl
theorem EqvL.rf (L : Nat → Int → BitVec 64) : EqvL L L := fun _ _ _ => rfl
theorem Eqv.tr {I J K : Nat → Int → Int} (h : Eqv I J) (h2 : Eqv J K) : Eqv I K := fun o k hs => (h2 o k hs).trans (h o k hs)
theorem EqvL.tr {I J K : Nat → Int → BitVec 64} (h : EqvL I J) (h2 : EqvL J K) : EqvL I K := fun o k hs => (h2 o k hs).trans (h o k hs)
theorem Eqv.wr {I J : Nat → Int → Int} (h : Eqv I J) {o : Nat} {k v : Int} (hs : scr o k) : Eqv I (up J o k v) := fun o' k' hs' => by
  unfold up
  rw [if_neg (fun q => hs' (by rw [q.1, q.2]; exact hs))]
  exact h o' k' hs'
theorem EqvL.wr {I J : Nat → Int → BitVec 64} (h : EqvL I J) {o : Nat} {k : Int} {v : BitVec 64} (hs : o = 42 ∨ o = 56 ∨ o = 30 ∨ o = 31) : EqvL I (up J o k v) := fun o' k' hs' => by
  unfold up
  rw [if_neg (fun q => hs' (by rw [q.1]; exact hs))]
  exact h o' k' hs'
/-- the entries' arrays and their taste are the same -/
def SE (I J : Nat → Int → Int) : Prop := (∀ (o : Nat), 33 ≤ o → o ≤ 40 → ∀ k, J o k = I o k) ∧ J 32 0 = I 32 0 ∧ J 32 9 = I 32 9 ∧ J 32 10 = I 32 10
theorem Eqv.se {I J : Nat → Int → Int} (h : Eqv I J) : SE I J :=
  ⟨fun o h1 h2 k => h o k (by unfold scr; omega), h 32 0 (by unfold scr; omega), h 32 9 (by unfold scr; omega), h 32 10 (by unfold scr; omega)⟩
theorem Eqv.lk {I J : Nat → Int → Int} (h : Eqv I J) : J 32 11 = I 32 11 := h 32 11 (by unfold scr; omega)
section
variable {I J : Nat → Int → Int}
theorem latN_cg (h : SE I J) (lk a w b : Int) : ∀ j, latN J lk a w b j = latN I lk a w b j
  | 0 => rfl
  | j + 1 => by
    have ih := latN_cg h lk a w b j
    simp only [latN, entW, ih, h.1 35 (by omega) (by omega), h.1 33 (by omega) (by omega), h.1 34 (by omega) (by omega), h.1 36 (by omega) (by omega), h.2.2.1]
theorem lat_cg (h : SE I J) (lk a w b : Int) : lat J lk a w b = lat I lk a w b := by
  unfold lat; rw [h.2.1, latN_cg h]
theorem ent_cg (h : SE I J) (lk a w b : Int) : ent J lk a w b = ent I lk a w b := by
  unfold ent; rw [lat_cg h]
theorem ssN_cg (h : SE I J) (ag s : Int) : ∀ j, ssN J ag s j = ssN I ag s j
  | 0 => rfl
  | j + 1 => by
    have ih := ssN_cg h ag s j
    simp only [ssN, ih, h.1 40 (by omega) (by omega), h.1 39 (by omega) (by omega)]
theorem ss_cg (h : SE I J) (ag s : Int) : ss J ag s = ss I ag s := by
  unfold ss; rw [h.1 38 (by omega) (by omega), ssN_cg h]
theorem geN_cg (h : SE I J) (ag e : Int) : ∀ j, geN J ag e j = geN I ag e j
  | 0 => rfl
  | j + 1 => by
    have ih := geN_cg h ag e j
    simp only [geN, ih, ss_cg h]
theorem ge_cg (h : SE I J) (ag e : Int) : ge J ag e = ge I ag e := by
  unfold ge; rw [h.1 36 (by omega) (by omega), geN_cg h]
theorem gv_cg (h : SE I J) (lk a w b : Int) : gv J lk a w b = gv I lk a w b := by
  unfold gv; rw [h.2.2.2, ent_cg h, ge_cg h]
theorem RW_cg (h : SE I J) (hW : RW I) : RW J := by
  unfold RW at *
  simp only [h.1 35 (by omega) (by omega), h.1 33 (by omega) (by omega), h.1 34 (by omega) (by omega), h.1 36 (by omega) (by omega), h.1 37 (by omega) (by omega), h.1 38 (by omega) (by omega), h.1 39 (by omega) (by omega), h.1 40 (by omega) (by omega), h.2.1, h.2.2.1, h.2.2.2]
  exact hW
theorem gaN_cg (h : SE I J) (lk a : Int) (s : BitVec 64) (b : Int) : ∀ j, gaN J lk a s b j = gaN I lk a s b j
  | 0 => rfl
  | j + 1 => by
    have ih := gaN_cg h lk a s b j
    simp only [gaN, ih, gv_cg h]
/-- how many senses an entry has (of a place -1: none) -/
def cntE (I : Nat → Int → Int) (e : Int) : Nat := if e < 0 then 0 else (I 36 e).toNat
/-- WAYS: the first j senses of the entry o, from a sense s, that have t -/
def wtU (I : Nat → Int → Int) (ag s t o : Int) : Nat → Int
  | 0 => 0
  | j + 1 => wtU I ag s t o j + (if (I 37 s < 0 ∨ I 37 (3 * o + j) < 0 ∨ I 37 s = I 37 (3 * o + j)) ∧ (ss I ag (3 * o + j)).getLsbD t.toNat = true then 1 else 0)
/-- the first k words of a sense -/
def wtX (I : Nat → Int → Int) (lk ag s m c t : Int) : Nat → Int
  | 0 => 0
  | k + 1 => wtX I lk ag s m c t k + (if (ss I ag s).getLsbD k = true then wtU I ag s t (ent I lk m k c) (cntE I (ent I lk m k c)) else 0)
/-- the first j senses of an entry -/
def wtS (I : Nat → Int → Int) (lk ag e m c t : Int) : Nat → Int
  | 0 => 0
  | j + 1 => wtS I lk ag e m c t j + wtX I lk ag (3 * e + j) m c t 60
def wt (I : Nat → Int → Int) (lk a w m c t : Int) : Int := wtS I lk (I 32 10) (ent I lk a w m) m c t (cntE I (ent I lk a w m))
theorem cntE_cg (h : SE I J) (e : Int) : cntE J e = cntE I e := by
  unfold cntE; rw [h.1 36 (by omega) (by omega)]
theorem wtU_cg (h : SE I J) (ag s t o : Int) : ∀ j, wtU J ag s t o j = wtU I ag s t o j
  | 0 => rfl
  | j + 1 => by
    have ih := wtU_cg h ag s t o j
    simp only [wtU, ih, ss_cg h, h.1 37 (by omega) (by omega)]
theorem wtX_cg (h : SE I J) (lk ag s m c t : Int) : ∀ j, wtX J lk ag s m c t j = wtX I lk ag s m c t j
  | 0 => rfl
  | j + 1 => by
    have ih := wtX_cg h lk ag s m c t j
    simp only [wtX, ih, ss_cg h, ent_cg h, cntE_cg h, wtU_cg h]
theorem wtS_cg (h : SE I J) (lk ag e m c t : Int) : ∀ j, wtS J lk ag e m c t j = wtS I lk ag e m c t j
  | 0 => rfl
  | j + 1 => by
    have ih := wtS_cg h lk ag e m c t j
    simp only [wtS, ih, wtX_cg h]
theorem wt_cg (h : SE I J) (lk a w m c t : Int) : wt J lk a w m c t = wt I lk a w m c t := by
  unfold wt; rw [h.2.2.2, ent_cg h, cntE_cg h, wtS_cg h]
theorem wtU_B (I : Nat → Int → Int) (ag s t o : Int) : ∀ j : Nat, 0 ≤ wtU I ag s t o j ∧ wtU I ag s t o j ≤ j
  | 0 => by simp [wtU]
  | j + 1 => by
    have ih := wtU_B I ag s t o j
    simp only [wtU]
    split <;> omega
end

