/-! ===== sentences put over ===== -/
/-- the strength of a pair, of those told first k -/
def stN (A X Y B : Int → Int) (b x y : Int) : Nat → Int
  | 0 => 0
  | k + 1 => if A k = b ∧ X k = x ∧ Y k = y then B k else stN A X Y B b x y k
def PrW (A X Y B : Int → Int) (c : Int) : Prop := 0 ≤ c ∧ c ≤ 40 ∧ ∀ j : Nat, (j : Int) < c → tgP (A j) ∧ wdP (X j) ∧ wdP (Y j) ∧ 1 ≤ B j ∧ B j ≤ 99
theorem stN_B {A X Y B : Int → Int} {c : Int} (h : PrW A X Y B c) (b x y : Int) : ∀ k : Nat, (k : Int) ≤ c → 0 ≤ stN A X Y B b x y k ∧ stN A X Y B b x y k ≤ 99
  | 0, _ => by simp [stN]
  | k + 1, hk => by
    have ih := stN_B h b x y k (by omega)
    have hj := h.2.2 k (by omega)
    simp only [stN]
    split <;> omega
/-- what two words side by side bring (places of the reference's words) -/
def tieP (I : Nat → Int → Int) (b p q : Int) : Int := stN (I 47) (I 48) (I 49) (I 50) b (I 39 p) (I 39 q) (I 32 30).toNat + (if 0 ≤ I 37 (p.tdiv 6) ∧ I 37 (p.tdiv 6) = I 37 (q.tdiv 6) then 10 else 0)
def tieO (I : Nat → Int → Int) (b : Int) (p : Option Int) (q : Int) : Int := match p with
  | none => 0
  | some p => tieP I b p q
/-- the greatest of f over the first d of a list (0 at least) -/
def mxT (f : Int → Int) (l : List Int) : Nat → Int
  | 0 => 0
  | d + 1 => max (mxT f l d) (f (l.getD d 0))
/-- the most that the rest of a sentence comes to, behind prev -/
def wv (I : Nat → Int → Int) (b : Int) : List (List Int) → Option Int → Int
  | [], _ => 0
  | l :: r, p => if l = [] then wv I b r none else mxT (fun q => tieO I b p q + wv I b r (some q)) l l.length
/-- the words of a sense that count, by their places; of an entry -/
def cpN (I : Nat → Int → Int) (ag s : Int) : Nat → List Int
  | 0 => []
  | p + 1 => cpN I ag s p ++ (if ag ≠ 0 ∨ I 40 (6 * s + p) = 0 then [6 * s + (p : Int)] else [])
def csN (I : Nat → Int → Int) (ag e : Int) : Nat → List Int
  | 0 => []
  | j + 1 => csN I ag e j ++ cpN I ag (3 * e + j) (I 38 (3 * e + j)).toNat
def chL (I : Nat → Int → Int) (lk b : Int) (i : Nat) : List Int := csN I (I 32 10) (ent I lk (I 32 36) (I 51 i) b) (cntE I (ent I lk (I 32 36) (I 51 i) b))
/-- the last d words of a sentence of S -/
def sfD (c : Nat → List Int) (S : Nat) : Nat → List (List Int)
  | 0 => []
  | d + 1 => c (S - (d + 1)) :: sfD c S d
/-- what is chosen: of word k -/
def cz (I : Nat → Int → Int) (b : Int) (c : Nat → List Int) (S : Nat) : Nat → Option Int
  | 0 => (c 0).find? (fun q => decide (tieO I b none q + wv I b (sfD c S (S - 1)) (some q) = wv I b (sfD c S S) none))
  | k + 1 => (c (k + 1)).find? (fun q => decide (tieO I b (cz I b c S k) q + wv I b (sfD c S (S - (k + 2))) (some q) = wv I b (sfD c S (S - (k + 1))) (cz I b c S k)))
def aPut (I : Nat → Int → Int) (lk b i what : Int) : Int :=
  if tgP b then (if 0 ≤ what ∧ what ≤ 1 then (if I 32 35 = 0 ∨ I 32 36 = b then -1003
    else if i = -1 then wv I b (sfD (chL I lk b) (I 32 35).toNat (I 32 35).toNat) none
    else if 0 ≤ i ∧ i < I 32 35 then (match cz I b (chL I lk b) (I 32 35).toNat i.toNat with
      | none => -1
      | some q => if what = 0 then I 39 q else (q.tdiv 6) - (q.tdiv 6).tdiv 3 * 3)
    else -1) else -1002) else -1001
theorem mxT_B {f : Int → Int} {l : List Int} {M : Int} (hM : 0 ≤ M) : ∀ d : Nat, (∀ j : Nat, j < d → f (l.getD j 0) ≤ M) → 0 ≤ mxT f l d ∧ mxT f l d ≤ M
  | 0, _ => by simp [mxT, hM]
  | d + 1, h => by
    have ih := mxT_B hM d (fun j hj => h j (by omega))
    have h1 := h d (by omega)
    simp only [mxT]; omega
theorem mxT_ge {f : Int → Int} {l : List Int} : ∀ (d j : Nat), j < d → f (l.getD j 0) ≤ mxT f l d
  | 0, j, h => by omega
  | d + 1, j, h => by
    simp only [mxT]
    rcases Nat.lt_or_ge j d with h1 | h1
    · have := mxT_ge (f := f) (l := l) d j h1; omega
    · have : j = d := by omega
      subst this; omega
theorem mxT_at {f : Int → Int} {l : List Int} : ∀ d : Nat, 0 < d → (∀ j : Nat, j < d → 0 ≤ f (l.getD j 0)) → ∃ j : Nat, j < d ∧ f (l.getD j 0) = mxT f l d
  | 0, h, _ => by omega
  | d + 1, _, hp => by
    simp only [mxT]
    by_cases hd : d = 0
    · subst hd
      have := hp 0 (by omega)
      exact ⟨0, by omega, by simp only [mxT]; omega⟩
    · obtain ⟨j, h1, h2⟩ := mxT_at d (by omega) (fun j hj => hp j (by omega))
      rcases Int.lt_or_le (mxT f l d) (f (l.getD d 0)) with h3 | h3
      · exact ⟨d, by omega, by omega⟩
      · exact ⟨j, by omega, by omega⟩
theorem sfD_s {c : Nat → List Int} {S k : Nat} (h : k < S) : sfD c S (S - k) = c k :: sfD c S (S - (k + 1)) := by
  have : S - k = (S - (k + 1)) + 1 := by omega
  rw [this]
  simp only [sfD]
  congr 2
  omega
section
variable {I : Nat → Int → Int}
theorem tieP_B (h : PrW (I 47) (I 48) (I 49) (I 50) (I 32 30)) (b p q : Int) : 0 ≤ tieP I b p q ∧ tieP I b p q ≤ 109 := by
  have h0 := h.1
  have h1 := stN_B h b (I 39 p) (I 39 q) (I 32 30).toNat (by omega)
  unfold tieP; split <;> omega
theorem tieO_B (h : PrW (I 47) (I 48) (I 49) (I 50) (I 32 30)) (b : Int) (p : Option Int) (q : Int) : 0 ≤ tieO I b p q ∧ tieO I b p q ≤ 109 := by
  cases p with
  | none => simp [tieO]
  | some p => exact tieP_B h b p q
theorem wv_B (h : PrW (I 47) (I 48) (I 49) (I 50) (I 32 30)) (b : Int) : ∀ (r : List (List Int)) (p : Option Int), 0 ≤ wv I b r p ∧ wv I b r p ≤ 109 * r.length
  | [], _ => by simp [wv]
  | l :: r, p => by
    simp only [wv, List.length_cons]
    split
    · have := wv_B h b r none; omega
    · have key := mxT_B (f := fun q => tieO I b p q + wv I b r (some q)) (l := l) (M := 109 * (r.length + 1 : Nat)) (by omega) l.length (fun j _ => by
        have h1 := tieO_B h b p (l.getD j 0)
        have h2 := wv_B h b r (some (l.getD j 0))
        show tieO I b p (l.getD j 0) + wv I b r (some (l.getD j 0)) ≤ _
        omega)
      exact key
theorem cpN_len (ag s : Int) : ∀ j : Nat, (cpN I ag s j).length ≤ j
  | 0 => by simp [cpN]
  | j + 1 => by
    have ih := cpN_len ag s j
    simp only [cpN, List.length_append]
    split <;> simp <;> omega
theorem csN_len {e : Int} (he : EOk I e) (ag : Int) : ∀ j : Nat, j ≤ (I 36 e).toNat → (csN I ag e j).length ≤ 6 * j
  | 0, _ => by simp [csN]
  | j + 1, hj => by
    have ih := csN_len he ag j (by omega)
    have h1 := cpN_len (I := I) ag (3 * e + j) (I 38 (3 * e + j)).toNat
    have h2 := (he.2 j (by omega) (by omega)).1
    simp only [csN, List.length_append]
    omega
end

