/-! ===== what both hold behind each call that writes ===== -/
section
variable {I J : Nat → Int → Int} {L K : Nat → Int → BitVec 64} {R R2 : Nat → Int → Option Nat} {n k : Nat}
theorem SR_now {d : Int} (h : SR I L R n) (hJ : J = if 0 ≤ d ∧ d ≤ 999 then up I 4 3 d else I) : (J 32 9 = I 32 9 ∧ I 4 3 = I 32 9) ∧ SR (if 0 ≤ d ∧ d ≤ 999 then up J 32 9 d else J) L R n := by
  obtain ⟨h1, h2, h3, h4, h5, h6, h7⟩ := h
  refine ⟨⟨by rw [hJ]; split <;> first | rfl | (simp (disch := omega) only [up_same, up_o, up_k]), h1.2.2.2.2.1⟩, ?_⟩
  by_cases hok : 0 ≤ d ∧ d ≤ 999
  · rw [if_pos hok] at hJ ⊢
    subst hJ
    have fr : ∀ (o : Nat) (z : Int), ¬ (o = 4 ∧ z = 3) → ¬ (o = 32 ∧ z = 9) → up (up I 4 3 d) 32 9 d o z = I o z := fun o z a b => by unfold up; rw [if_neg b, if_neg a]
    obtain ⟨g1, g2, g3, g4, g5, g6, g7⟩ := h1
    refine ⟨⟨g1, g2, ?_, ?_, ?_, ?_, fun k hk => BR_fr (fun o z ho => fr o z (by omega) (by omega)) (fun _ _ _ => rfl) (g7 k (by rw [fr 32 0 (by omega) (by omega)] at hk; exact hk))⟩, PuR_fr (fun o z ho => fr o z (by unfold puO at ho; omega) (by unfold puO at ho; omega)) h2, LkR_fr (fun o z ho => fr o z (by unfold lkO at ho; omega) (by unfold lkO at ho; omega)) h3, TxR_fr (fun o z ho => fr o z (by unfold txO at ho; omega) (by unfold txO at ho; omega)) h4, ?_, ?_, DrR_fr (fr 32 0 (by omega) (by omega)) h7⟩
    · obtain ⟨w1, w2, w3, w4, w5, w6⟩ := g3
      refine ⟨by rw [fr 32 0 (by omega) (by omega)]; exact w1, by rw [fr 32 0 (by omega) (by omega)]; exact w2, by rw [up_same]; exact hok.1, by rw [up_same]; exact hok.2, by rw [fr 32 10 (by omega) (by omega)]; exact w5, fun k hk => ?_⟩
      rw [fr 32 0 (by omega) (by omega)] at hk
      refine RWk_E (I := I) (J := up (up I 4 3 d) 32 9 d) (k := k) ⟨⟨fr _ _ (by omega) (by omega), fr _ _ (by omega) (by omega), fr _ _ (by omega) (by omega)⟩, fun w _ _ => fr _ _ (by omega) (by omega), fun i _ _ => ⟨fr _ _ (by omega) (by omega), fr _ _ (by omega) (by omega)⟩, fun i _ _ => ⟨fr _ _ (by omega) (by omega), fr _ _ (by omega) (by omega)⟩⟩ (w6 k hk)
    · rw [fr 4 2 (by omega) (by omega), fr 32 0 (by omega) (by omega)]; exact g4
    · rw [up_o _ _ _ _ (by omega), up_same, up_same]
    · rw [fr 4 4 (by omega) (by omega), fr 32 10 (by omega) (by omega)]; exact g6
    · rw [fr 0 10 (by omega) (by omega), fr 32 14 (by omega) (by omega)]; exact h5
    · rw [fr 32 11 (by omega) (by omega)]; exact h6
  · rw [if_neg hok] at hJ ⊢
    subst hJ
    exact ⟨h1, h2, h3, h4, h5, h6, h7⟩
theorem SR_taste {d : Int} (hd : d = 0 ∨ d = 1) (h : SR I L R n) : SR (up (up I 4 4 d) 32 10 d) L R n := by
  obtain ⟨h1, h2, h3, h4, h5, h6, h7⟩ := h
  have fr : ∀ (o : Nat) (z : Int), ¬ (o = 4 ∧ z = 4) → ¬ (o = 32 ∧ z = 10) → up (up I 4 4 d) 32 10 d o z = I o z := fun o z a b => by unfold up; rw [if_neg b, if_neg a]
  obtain ⟨g1, g2, g3, g4, g5, g6, g7⟩ := h1
  refine ⟨⟨g1, g2, ?_, ?_, ?_, ?_, fun k hk => BR_fr (fun o z ho => fr o z (by omega) (by omega)) (fun _ _ _ => rfl) (g7 k (by rw [fr 32 0 (by omega) (by omega)] at hk; exact hk))⟩, PuR_fr (fun o z ho => fr o z (by unfold puO at ho; omega) (by unfold puO at ho; omega)) h2, LkR_fr (fun o z ho => fr o z (by unfold lkO at ho; omega) (by unfold lkO at ho; omega)) h3, TxR_fr (fun o z ho => fr o z (by unfold txO at ho; omega) (by unfold txO at ho; omega)) h4, ?_, ?_, DrR_fr (fr 32 0 (by omega) (by omega)) h7⟩
  · obtain ⟨w1, w2, w3, w4, w5, w6⟩ := g3
    refine ⟨by rw [fr 32 0 (by omega) (by omega)]; exact w1, by rw [fr 32 0 (by omega) (by omega)]; exact w2, by rw [fr 32 9 (by omega) (by omega)]; exact w3, by rw [fr 32 9 (by omega) (by omega)]; exact w4, by rw [up_same]; exact hd, fun k hk => ?_⟩
    rw [fr 32 0 (by omega) (by omega)] at hk
    refine RWk_E (I := I) (J := up (up I 4 4 d) 32 10 d) (k := k) ⟨⟨fr _ _ (by omega) (by omega), fr _ _ (by omega) (by omega), fr _ _ (by omega) (by omega)⟩, fun w _ _ => fr _ _ (by omega) (by omega), fun i _ _ => ⟨fr _ _ (by omega) (by omega), fr _ _ (by omega) (by omega)⟩, fun i _ _ => ⟨fr _ _ (by omega) (by omega), fr _ _ (by omega) (by omega)⟩⟩ (w6 k hk)
  · rw [fr 4 2 (by omega) (by omega), fr 32 0 (by omega) (by omega)]; exact g4
  · rw [fr 4 3 (by omega) (by omega), fr 32 9 (by omega) (by omega)]; exact g5
  · rw [up_o _ _ _ _ (by omega), up_same, up_same]
  · rw [fr 0 10 (by omega) (by omega), fr 32 14 (by omega) (by omega)]; exact h5
  · rw [fr 32 11 (by omega) (by omega)]; exact h6
theorem SR_clear (h : SR I L R n) : SR (up (up I 17 2 0) 32 35 0) L R n := by
  obtain ⟨h1, h2, h3, h4, h5, h6, h7⟩ := h
  have fr : ∀ (o : Nat) (z : Int), ¬ (o = 17 ∧ z = 2) → ¬ (o = 32 ∧ z = 35) → up (up I 17 2 0) 32 35 0 o z = I o z := fun o z a b => by unfold up; rw [if_neg b, if_neg a]
  have f : ∀ o : Nat, o ≠ 17 → o ≠ 32 → up (up I 17 2 0) 32 35 0 o = I o := fun o a b => funext (fun z => fr o z (by omega) (by omega))
  refine ⟨ShR_fr (fun o z ho => fr o z (by unfold shO at ho; omega) (by unfold shO at ho; omega)) (fun _ _ _ => rfl) h1, ?_, LkR_fr (fun o z ho => fr o z (by unfold lkO at ho; omega) (by unfold lkO at ho; omega)) h3, TxR_fr (fun o z ho => fr o z (by unfold txO at ho; omega) (by unfold txO at ho; omega)) h4, ?_, ?_, DrR_fr (fr 32 0 (by omega) (by omega)) h7⟩
  · obtain ⟨u1, u2, u3, u4, u5, u6, u7, u8, u9⟩ := h2
    refine ⟨by rw [up_o _ _ _ _ (by omega), up_same, up_same], fun q => by rw [up_same] at q; omega, fun j hj => by rw [up_same] at hj; omega, ?_, ?_, ?_, by rw [up_same]; omega, ?_, ?_⟩
    · rw [fr 12 4 (by omega) (by omega), fr 32 30 (by omega) (by omega)]; exact u4
    · rw [fr 32 30 (by omega) (by omega), f 13 (by omega) (by omega), f 14 (by omega) (by omega), f 15 (by omega) (by omega), f 16 (by omega) (by omega), f 47 (by omega) (by omega), f 48 (by omega) (by omega), f 49 (by omega) (by omega), f 50 (by omega) (by omega)]; exact u5
    · rw [fr 32 30 (by omega) (by omega), f 47 (by omega) (by omega), f 48 (by omega) (by omega), f 49 (by omega) (by omega), f 50 (by omega) (by omega)]; exact u6
    · rw [fr 32 36 (by omega) (by omega)]; exact u8
    · rw [fr 17 1 (by omega) (by omega)]; exact u9
  · rw [fr 0 10 (by omega) (by omega), fr 32 14 (by omega) (by omega)]; exact h5
  · rw [fr 32 11 (by omega) (by omega)]; exact h6
theorem SR_say {a w : Int} (ha : inR a) (h : SR I L R n) (hJ : J = if okSay (I 17 2) (I 17 1) a w then up (up (up I 17 1 a) 18 (I 17 2) w) 17 2 (I 17 2 + 1) else I) : (J 32 35 = I 32 35 ∧ J 32 36 = I 32 36 ∧ aSay (I 17 2) (I 17 1) a w = aSay (I 32 35) (I 32 36) a w) ∧ SR (if okSay (J 32 35) (J 32 36) a w then up (up (up J 32 36 a) 51 (J 32 35) w) 32 35 (J 32 35 + 1) else J) L R n := by
  obtain ⟨h1, h2, h3, h4, h5, h6, h7⟩ := h
  obtain ⟨u1, u2, u3, u4, u5, u6, u7, u8, u9⟩ := id h2
  have j35 : J 32 35 = I 32 35 := by rw [hJ]; split <;> first | rfl | (simp (disch := omega) only [up_same, up_o, up_k])
  have j36 : J 32 36 = I 32 36 := by rw [hJ]; split <;> first | rfl | (simp (disch := omega) only [up_same, up_o, up_k])
  have hoke : okSay (I 17 2) (I 17 1) a w ↔ okSay (I 32 35) (I 32 36) a w := by
    unfold okSay
    rw [u1]
    by_cases h0 : 0 < I 32 35
    · rw [u2 h0]
    · constructor <;> intro q <;> exact ⟨q.1, q.2.1, fun q2 => h0 q2.1, q.2.2.2⟩
  refine ⟨⟨j35, j36, ?_⟩, ?_⟩
  · unfold aSay
    rw [u1]
    by_cases h0 : 0 < I 32 35
    · rw [u2 h0]
    · (repeat' split) <;> first | rfl | (exfalso; omega)
  rw [j35, j36]
  by_cases hok : okSay (I 32 35) (I 32 36) a w
  · rw [if_pos (hoke.mpr hok), u1] at hJ
    rw [if_pos hok]
    subst hJ
    obtain ⟨o1, o2, o3, o4⟩ := hok
    generalize hX : up (up (up (up (up (up I 17 1 a) 18 (I 32 35) w) 17 2 (I 32 35 + 1)) 32 36 a) 51 (I 32 35) w) 32 35 (I 32 35 + 1) = X
    have fr : ∀ (o : Nat) (z : Int), ¬ o = 17 → ¬ o = 18 → ¬ o = 51 → ¬ (o = 32 ∧ (z = 35 ∨ z = 36)) → X o z = I o z := fun o z a b c d => by rw [← hX]; unfold up; (repeat rw [if_neg (by omega)])
    have f : ∀ o : Nat, o ≠ 17 → o ≠ 18 → o ≠ 51 → o ≠ 32 → X o = I o := fun o a b c d => funext (fun z => fr o z a b c (by omega))
    have x1 : X 17 2 = I 32 35 + 1 := by rw [← hX]; simp (disch := omega) only [up_same, up_o, up_k]
    have x2 : X 32 35 = I 32 35 + 1 := by rw [← hX]; simp (disch := omega) only [up_same, up_o, up_k]
    have x3 : X 17 1 = a := by rw [← hX]; simp (disch := omega) only [up_same, up_o, up_k]
    have x4 : X 32 36 = a := by rw [← hX]; simp (disch := omega) only [up_same, up_o, up_k]
    have x5 : ∀ j : Nat, (j : Int) < I 32 35 + 1 → X 18 j = X 51 j ∧ wdP (X 51 j) := fun j hj => by
      by_cases hjj : (j : Int) = I 32 35
      · have q1 : X 18 j = w := by rw [hjj, ← hX]; simp (disch := omega) only [up_same, up_o, up_k]
        have q2 : X 51 j = w := by rw [hjj, ← hX]; simp (disch := omega) only [up_same, up_o, up_k]
        rw [q1, q2]; exact ⟨rfl, o2⟩
      · have q1 : X 18 j = I 18 j := by rw [← hX]; simp (disch := omega) only [up_same, up_o, up_k]
        have q2 : X 51 j = I 51 j := by rw [← hX]; simp (disch := omega) only [up_same, up_o, up_k]
        rw [q1, q2]; exact u3 j (by omega)
    clear hX
    refine ⟨ShR_fr (fun o z ho => by unfold shO at ho; exact fr o z (by omega) (by omega) (by omega) (by omega)) (fun _ _ _ => rfl) h1, ?_, LkR_fr (fun o z ho => by unfold lkO at ho; exact fr o z (by omega) (by omega) (by omega) (by omega)) h3, TxR_fr (fun o z ho => by unfold txO at ho; exact fr o z (by omega) (by omega) (by omega) (by omega)) h4, ?_, ?_, DrR_fr (fr 32 0 (by omega) (by omega) (by omega) (by omega)) h7⟩
    · refine ⟨by rw [x1, x2], fun _ => by rw [x3, x4], fun j hj => x5 j (by rw [x2] at hj; exact hj), ?_, ?_, ?_, by rw [x2]; omega, by rw [x4]; exact ha, by rw [x3]; exact ha⟩
      · rw [fr 12 4 (by omega) (by omega) (by omega) (by omega), fr 32 30 (by omega) (by omega) (by omega) (by omega)]; exact u4
      · rw [fr 32 30 (by omega) (by omega) (by omega) (by omega), f 13 (by omega) (by omega) (by omega) (by omega), f 14 (by omega) (by omega) (by omega) (by omega), f 15 (by omega) (by omega) (by omega) (by omega), f 16 (by omega) (by omega) (by omega) (by omega), f 47 (by omega) (by omega) (by omega) (by omega), f 48 (by omega) (by omega) (by omega) (by omega), f 49 (by omega) (by omega) (by omega) (by omega), f 50 (by omega) (by omega) (by omega) (by omega)]; exact u5
      · rw [fr 32 30 (by omega) (by omega) (by omega) (by omega), f 47 (by omega) (by omega) (by omega) (by omega), f 48 (by omega) (by omega) (by omega) (by omega), f 49 (by omega) (by omega) (by omega) (by omega), f 50 (by omega) (by omega) (by omega) (by omega)]; exact u6
    · rw [fr 0 10 (by omega) (by omega) (by omega) (by omega), fr 32 14 (by omega) (by omega) (by omega) (by omega)]; exact h5
    · rw [fr 32 11 (by omega) (by omega) (by omega) (by omega)]; exact h6
  · rw [if_neg (fun q => hok (hoke.mp q))] at hJ
    rw [if_neg hok]
    subst hJ
    exact ⟨h1, h2, h3, h4, h5, h6, h7⟩
theorem SR_pair {a x y s : Int} (h : SR I L R n) (hJ : J = if okPair (I 12 4) a x y s then up (up (up (up (up I 13 (I 12 4) a) 14 (I 12 4) x) 15 (I 12 4) y) 16 (I 12 4) s) 12 4 (I 12 4 + 1) else I) : (J 32 30 = I 32 30 ∧ I 12 4 = I 32 30) ∧ SR (if okPair (J 32 30) a x y s then up (up (up (up (up J 47 (J 32 30) a) 48 (J 32 30) x) 49 (J 32 30) y) 50 (J 32 30) s) 32 30 (J 32 30 + 1) else J) L R n := by
  obtain ⟨h1, h2, h3, h4, h5, h6, h7⟩ := h
  obtain ⟨u1, u2, u3, u4, u5, u6, u7, u8, u9⟩ := id h2
  have j30 : J 32 30 = I 32 30 := by rw [hJ]; split <;> first | rfl | (simp (disch := omega) only [up_same, up_o, up_k])
  refine ⟨⟨j30, u4⟩, ?_⟩
  rw [j30]
  rw [u4] at hJ
  by_cases hok : okPair (I 32 30) a x y s
  · rw [if_pos hok] at hJ ⊢
    subst hJ
    obtain ⟨o1, o2, o3, o4, o5, o6⟩ := hok
    generalize hX : up (up (up (up (up (up (up (up (up (up I 13 (I 32 30) a) 14 (I 32 30) x) 15 (I 32 30) y) 16 (I 32 30) s) 12 4 (I 32 30 + 1)) 47 (I 32 30) a) 48 (I 32 30) x) 49 (I 32 30) y) 50 (I 32 30) s) 32 30 (I 32 30 + 1) = X
    have fr : ∀ (o : Nat) (z : Int), ¬ (12 ≤ o ∧ o ≤ 16) → ¬ (47 ≤ o ∧ o ≤ 50) → ¬ (o = 32 ∧ z = 30) → X o z = I o z := fun o z a b c => by rw [← hX]; unfold up; (repeat rw [if_neg (by omega)])
    have f : ∀ o : Nat, ¬ (12 ≤ o ∧ o ≤ 16) → ¬ (47 ≤ o ∧ o ≤ 50) → o ≠ 32 → X o = I o := fun o a b c => funext (fun z => fr o z a b (by omega))
    have x1 : X 12 4 = I 32 30 + 1 := by rw [← hX]; simp (disch := omega) only [up_same, up_o, up_k]
    have x2 : X 32 30 = I 32 30 + 1 := by rw [← hX]; simp (disch := omega) only [up_same, up_o, up_k]
    have xn : X 13 (I 32 30) = a ∧ X 14 (I 32 30) = x ∧ X 15 (I 32 30) = y ∧ X 16 (I 32 30) = s ∧ X 47 (I 32 30) = a ∧ X 48 (I 32 30) = x ∧ X 49 (I 32 30) = y ∧ X 50 (I 32 30) = s := by rw [← hX]; refine ⟨?_, ?_, ?_, ?_, ?_, ?_, ?_, ?_⟩ <;> simp (disch := omega) only [up_same, up_o, up_k]
    have xo : ∀ j : Nat, (j : Int) ≠ I 32 30 → X 13 j = I 13 j ∧ X 14 j = I 14 j ∧ X 15 j = I 15 j ∧ X 16 j = I 16 j ∧ X 47 j = I 47 j ∧ X 48 j = I 48 j ∧ X 49 j = I 49 j ∧ X 50 j = I 50 j := fun j hj => by rw [← hX]; refine ⟨?_, ?_, ?_, ?_, ?_, ?_, ?_, ?_⟩ <;> simp (disch := omega) only [up_same, up_o, up_k]
    clear hX
    refine ⟨ShR_fr (fun o z ho => by unfold shO at ho; exact fr o z (by omega) (by omega) (by omega)) (fun _ _ _ => rfl) h1, ?_, LkR_fr (fun o z ho => by unfold lkO at ho; exact fr o z (by omega) (by omega) (by omega)) h3, TxR_fr (fun o z ho => by unfold txO at ho; exact fr o z (by omega) (by omega) (by omega)) h4, ?_, ?_, DrR_fr (fr 32 0 (by omega) (by omega) (by omega)) h7⟩
    · refine ⟨?_, ?_, ?_, by rw [x1, x2], fun j hj => ?_, ⟨?_, ?_, fun j hj => ?_⟩, ?_, ?_, ?_⟩
      · rw [fr 17 2 (by omega) (by omega) (by omega), fr 32 35 (by omega) (by omega) (by omega)]; exact u1
      · rw [fr 17 1 (by omega) (by omega) (by omega), fr 32 35 (by omega) (by omega) (by omega), fr 32 36 (by omega) (by omega) (by omega)]; exact u2
      · rw [fr 32 35 (by omega) (by omega) (by omega), f 18 (by omega) (by omega) (by omega), f 51 (by omega) (by omega) (by omega)]; exact u3
      · rw [x2] at hj
        by_cases hjj : (j : Int) = I 32 30
        · rw [hjj, xn.1, xn.2.1, xn.2.2.1, xn.2.2.2.1, xn.2.2.2.2.1, xn.2.2.2.2.2.1, xn.2.2.2.2.2.2.1, xn.2.2.2.2.2.2.2]; exact ⟨rfl, rfl, rfl, rfl⟩
        · have q := xo j hjj
          rw [q.1, q.2.1, q.2.2.1, q.2.2.2.1, q.2.2.2.2.1, q.2.2.2.2.2.1, q.2.2.2.2.2.2.1, q.2.2.2.2.2.2.2]; exact u5 j (by omega)
      · rw [x2]; have := u6.1; omega
      · rw [x2]; have := u6.2.1; omega
      · rw [x2] at hj
        by_cases hjj : (j : Int) = I 32 30
        · rw [hjj, xn.2.2.2.2.1, xn.2.2.2.2.2.1, xn.2.2.2.2.2.2.1, xn.2.2.2.2.2.2.2]; exact ⟨o1, o2, o3, o4, o5⟩
        · have q := xo j hjj
          rw [q.2.2.2.2.1, q.2.2.2.2.2.1, q.2.2.2.2.2.2.1, q.2.2.2.2.2.2.2]; exact u6.2.2 j (by omega)
      · rw [fr 32 35 (by omega) (by omega) (by omega)]; exact u7
      · rw [fr 32 36 (by omega) (by omega) (by omega)]; exact u8
      · rw [fr 17 1 (by omega) (by omega) (by omega)]; exact u9
    · rw [fr 0 10 (by omega) (by omega) (by omega), fr 32 14 (by omega) (by omega) (by omega)]; exact h5
    · rw [fr 32 11 (by omega) (by omega) (by omega)]; exact h6
  · rw [if_neg hok] at hJ ⊢
    subst hJ
    exact ⟨h1, h2, h3, h4, h5, h6, h7⟩
theorem SR_alike {a w b v : Int} (h : SR I L R n) (hJ : J = if okAlike (I 8) (I 9) (I 10) (I 11) (I 7 4) a w b v then up (up (up (up (up I 8 (I 7 4) a) 9 (I 7 4) w) 10 (I 7 4) b) 11 (I 7 4) v) 7 4 (I 7 4 + 1) else I) : ((J 43 = I 43 ∧ J 44 = I 44 ∧ J 45 = I 45 ∧ J 46 = I 46 ∧ J 32 25 = I 32 25) ∧ aAlike (I 8) (I 9) (I 10) (I 11) (I 7 4) a w b v = aAlike (I 43) (I 44) (I 45) (I 46) (I 32 25) a w b v) ∧ SR (if okAlike (I 43) (I 44) (I 45) (I 46) (I 32 25) a w b v then up (up (up (up (up J 43 (I 32 25) a) 44 (I 32 25) w) 45 (I 32 25) b) 46 (I 32 25) v) 32 25 (I 32 25 + 1) else J) L R n := by
  obtain ⟨h1, h2, h3, h4, h5, h6, h7⟩ := h
  have hal := alk_A h3 a w b v
  obtain ⟨l1, l2, l3⟩ := id h3
  have jf : ∀ (o : Nat) (z : Int), 12 ≤ o → J o z = I o z := fun o z ho => by rw [hJ]; split <;> first | rfl | (simp (disch := omega) only [up_same, up_o, up_k])
  have hoke : okAlike (I 8) (I 9) (I 10) (I 11) (I 7 4) a w b v ↔ okAlike (I 43) (I 44) (I 45) (I 46) (I 32 25) a w b v := by unfold okAlike; rw [hal, l1]
  refine ⟨⟨⟨funext (fun z => jf 43 z (by omega)), funext (fun z => jf 44 z (by omega)), funext (fun z => jf 45 z (by omega)), funext (fun z => jf 46 z (by omega)), jf 32 25 (by omega)⟩, by unfold aAlike; rw [hal, l1]⟩, ?_⟩
  by_cases hok : okAlike (I 43) (I 44) (I 45) (I 46) (I 32 25) a w b v
  · rw [if_pos (hoke.mpr hok), l1] at hJ
    rw [if_pos hok]
    clear jf
    subst hJ
    obtain ⟨o1, o2, o3⟩ := hok
    generalize hX : up (up (up (up (up (up (up (up (up (up I 8 (I 32 25) a) 9 (I 32 25) w) 10 (I 32 25) b) 11 (I 32 25) v) 7 4 (I 32 25 + 1)) 43 (I 32 25) a) 44 (I 32 25) w) 45 (I 32 25) b) 46 (I 32 25) v) 32 25 (I 32 25 + 1) = X
    have fr : ∀ (o : Nat) (z : Int), ¬ (7 ≤ o ∧ o ≤ 11) → ¬ (43 ≤ o ∧ o ≤ 46) → ¬ (o = 32 ∧ z = 25) → X o z = I o z := fun o z a b c => by rw [← hX]; unfold up; (repeat rw [if_neg (by omega)])
    have x1 : X 7 4 = I 32 25 + 1 := by rw [← hX]; simp (disch := omega) only [up_same, up_o, up_k]
    have x2 : X 32 25 = I 32 25 + 1 := by rw [← hX]; simp (disch := omega) only [up_same, up_o, up_k]
    have xn : X 8 (I 32 25) = a ∧ X 9 (I 32 25) = w ∧ X 10 (I 32 25) = b ∧ X 11 (I 32 25) = v ∧ X 43 (I 32 25) = a ∧ X 44 (I 32 25) = w ∧ X 45 (I 32 25) = b ∧ X 46 (I 32 25) = v := by rw [← hX]; refine ⟨?_, ?_, ?_, ?_, ?_, ?_, ?_, ?_⟩ <;> simp (disch := omega) only [up_same, up_o, up_k]
    have xo : ∀ j : Nat, (j : Int) ≠ I 32 25 → X 8 j = I 8 j ∧ X 9 j = I 9 j ∧ X 10 j = I 10 j ∧ X 11 j = I 11 j ∧ X 43 j = I 43 j ∧ X 44 j = I 44 j ∧ X 45 j = I 45 j ∧ X 46 j = I 46 j := fun j hj => by rw [← hX]; refine ⟨?_, ?_, ?_, ?_, ?_, ?_, ?_, ?_⟩ <;> simp (disch := omega) only [up_same, up_o, up_k]
    clear hX
    refine ⟨ShR_fr (fun o z ho => by unfold shO at ho; exact fr o z (by omega) (by omega) (by omega)) (fun _ _ _ => rfl) h1, PuR_fr (fun o z ho => by unfold puO at ho; exact fr o z (by omega) (by omega) (by omega)) h2, ?_, TxR_fr (fun o z ho => by unfold txO at ho; exact fr o z (by omega) (by omega) (by omega)) h4, ?_, ?_, DrR_fr (fr 32 0 (by omega) (by omega) (by omega)) h7⟩
    · refine ⟨by rw [x1, x2], fun j hj => ?_, ?_, ?_, fun j hj => ?_⟩
      · rw [x2] at hj
        by_cases hjj : (j : Int) = I 32 25
        · rw [hjj, xn.1, xn.2.1, xn.2.2.1, xn.2.2.2.1, xn.2.2.2.2.1, xn.2.2.2.2.2.1, xn.2.2.2.2.2.2.1, xn.2.2.2.2.2.2.2]; exact ⟨rfl, rfl, rfl, rfl⟩
        · have q := xo j hjj
          rw [q.1, q.2.1, q.2.2.1, q.2.2.2.1, q.2.2.2.2.1, q.2.2.2.2.2.1, q.2.2.2.2.2.2.1, q.2.2.2.2.2.2.2]; exact l2 j (by omega)
      · rw [x2]; have := l3.1; omega
      · rw [x2]; have := l3.2.1; omega
      · rw [x2] at hj
        by_cases hjj : (j : Int) = I 32 25
        · rw [hjj, xn.2.2.2.2.1, xn.2.2.2.2.2.1, xn.2.2.2.2.2.2.1, xn.2.2.2.2.2.2.2]; exact o1
        · have q := xo j hjj
          rw [q.2.2.2.2.1, q.2.2.2.2.2.1, q.2.2.2.2.2.2.1, q.2.2.2.2.2.2.2]; exact l3.2.2 j (by omega)
    · rw [fr 0 10 (by omega) (by omega) (by omega), fr 32 14 (by omega) (by omega) (by omega)]; exact h5
    · rw [fr 32 11 (by omega) (by omega) (by omega)]; exact h6
  · rw [if_neg (fun q => hok (hoke.mp q))] at hJ
    rw [if_neg hok]
    subst hJ
    exact ⟨h1, h2, h3, h4, h5, h6, h7⟩
theorem byt_B (b : BitVec 64) (k : Nat) : 0 ≤ byt b k ∧ byt b k ≤ 255 := by
  have h2 : ((b >>> (8 * k)) &&& 255#64).toNat < 256 := by
    rw [BitVec.toNat_and]
    exact Nat.lt_of_le_of_lt Nat.and_le_right (by decide)
  unfold byt; omega
theorem SR_feed {nn : Int} {b : BitVec 64} (h : SR I L R n) (hJ : J = if okFeed (I 1 1) nn then fed I 2 1 1 b nn nn else I) : (J 32 13 = I 32 13 ∧ I 1 1 = I 32 13) ∧ SR (if okFeed (J 32 13) nn then fed J 41 32 13 b nn nn else J) L R n := by
  obtain ⟨h1, h2, h3, h4, h5, h6, h7⟩ := h
  obtain ⟨t1, t2, t3⟩ := id h4
  have j13 : J 32 13 = I 32 13 := by
    rw [hJ]; split
    · unfold fed; rw [if_neg (by omega), if_neg (by omega)]
    · rfl
  refine ⟨⟨j13, t1⟩, ?_⟩
  rw [j13]
  rw [t1] at hJ
  by_cases hok : okFeed (I 32 13) nn
  · rw [if_pos hok] at hJ ⊢
    have fr : ∀ (o : Nat) (z : Int), ¬ o = 2 → ¬ o = 41 → ¬ (o = 1 ∧ z = 1) → ¬ (o = 32 ∧ z = 13) → fed J 41 32 13 b nn nn o z = I o z := fun o z a c d e => by
      unfold fed; rw [if_neg e, if_neg (fun q => c q.1), hJ]; unfold fed; rw [if_neg d, if_neg (fun q => a q.1)]
    have x1 : fed J 41 32 13 b nn nn 1 1 = I 32 13 + nn := by
      unfold fed; rw [if_neg (by omega), if_neg (by omega), hJ, fed_c, t1]
    have x2 : fed J 41 32 13 b nn nn 32 13 = I 32 13 + nn := by rw [fed_c, j13]
    have x3 : ∀ p, fed J 41 32 13 b nn nn 2 p = if I 32 13 ≤ p ∧ p < I 32 13 + nn then byt b (nn - 1 - (p - I 32 13)).toNat else I 2 p := fun p => by
      have e1 : fed J 41 32 13 b nn nn 2 p = J 2 p := by unfold fed; rw [if_neg (by omega), if_neg (by omega)]
      rw [e1, hJ]
      unfold fed
      rw [if_neg (by omega), t1]
      by_cases hp : I 32 13 ≤ p ∧ p < I 32 13 + nn
      · rw [if_pos ⟨rfl, hp⟩, if_pos hp]
      · rw [if_neg (fun q => hp q.2), if_neg hp]
    have x4 : ∀ p, fed J 41 32 13 b nn nn 41 p = if I 32 13 ≤ p ∧ p < I 32 13 + nn then byt b (nn - 1 - (p - I 32 13)).toNat else I 41 p := fun p => by
      have e1 : J 41 p = I 41 p := by rw [hJ]; unfold fed; rw [if_neg (by omega), if_neg (by omega)]
      unfold fed
      rw [if_neg (by omega), j13, e1]
      by_cases hp : I 32 13 ≤ p ∧ p < I 32 13 + nn
      · rw [if_pos ⟨rfl, hp⟩, if_pos hp]
      · rw [if_neg (fun q => hp q.2), if_neg hp]
    generalize fed J 41 32 13 b nn nn = X at *
    refine ⟨ShR_fr (fun o z ho => by unfold shO at ho; exact fr o z (by omega) (by omega) (by omega) (by omega)) (fun _ _ _ => rfl) h1, PuR_fr (fun o z ho => by unfold puO at ho; exact fr o z (by omega) (by omega) (by omega) (by omega)) h2, LkR_fr (fun o z ho => by unfold lkO at ho; exact fr o z (by omega) (by omega) (by omega) (by omega)) h3, ⟨by rw [x1, x2], ⟨by rw [x2]; have := t2.1; omega, by rw [x2]; omega, fun p p0 p1 => ?_⟩, fun p p0 p1 => ?_⟩, ?_, ?_, DrR_fr (fr 32 0 (by omega) (by omega) (by omega) (by omega)) h7⟩
    · rw [x2] at p1
      rw [x4]
      split
      · exact byt_B b _
      · exact t2.2.2 p p0 (by omega)
    · rw [x2] at p1
      rw [x3, x4]
      split
      · rfl
      · exact t3 p p0 (by omega)
    · rw [fr 0 10 (by omega) (by omega) (by omega) (by omega), fr 32 14 (by omega) (by omega) (by omega) (by omega)]; exact h5
    · rw [fr 32 11 (by omega) (by omega) (by omega) (by omega)]; exact h6
  · rw [if_neg hok] at hJ ⊢
    subst hJ
    exact ⟨h1, h2, h3, h4, h5, h6, h7⟩
end

