/-! ===== what both hold behind a book ===== -/
section
variable {I J J' : Nat → Int → Int} {L K : Nat → Int → BitVec 64} {R R2 : Nat → Int → Option Nat} {n kb : Nat} {a b day r : Int} {O : Int × Int × Dr}
/-- all that neither touched -/
theorem bk_fr (hc : cbO kb a b day O I J L K R R2 r) (hF : FrB kb J J') : ∀ (o : Nat) (z : Int), o < 57 + 7 * kb → ¬ o = 3 → ¬ (o = 1 ∧ z = 1) → ¬ (o = 0 ∧ z = 10) → ¬ (o = 4 ∧ z = 2) → ¬ tB kb o z → J' o z = I o z := fun o z h0 h1 h2 h3 h4 h5 => by rw [hF o z h5]; exact hc.1 o z h0 h1 h2 h3 h4
theorem bk_bkE (hc : cbO kb a b day O I J L K R R2 r) (hF : FrB kb J J') {k : Nat} (hk : k < kb) : bkE I J' k := by
  have fr := bk_fr hc hF
  refine ⟨⟨?_, ?_, ?_⟩, fun w w0 w1 => ?_, fun i i0 i1 => ⟨?_, ?_⟩, fun i i0 i1 => ⟨?_, ?_⟩⟩ <;> exact fr _ _ (by omega) (by omega) (by omega) (by omega) (by omega) (by unfold tB tC tW; omega)
theorem bk_hi (hF : FrB kb J J') {o : Nat} (z : Int) (ho : 57 ≤ o ∨ o = 4 ∨ o = 1 ∨ o = 0) : J' o z = J o z := hF o z (by unfold tB tC tW; omega)
/-- the shelf's books that stood before -/
theorem bk_old (hS : ShR I L R n) (hkI : I 32 0 = kb) (hn : n ≤ 57 + 7 * kb + 7) (hc : cbO kb a b day O I J L K R R2 r) (hF : FrB kb J J') : ∀ k : Nat, k < kb → RWk J' k ∧ BR J' K R2 (57 + 7 * kb + 7) k := fun k hk => by
  have hE := bk_bkE hc hF hk
  have hW := RW_k hS.2.2.1 (k := k) (by omega)
  refine ⟨RWk_E hE hW, BR_E hE hW (fun o z h1 h2 => ?_) (fun o z h1 h2 => hc.2.1 o z (by omega)) (hc.2.2.1 5 k (by omega) (by omega) (by omega)) (fun z => hc.2.2.1 _ z (by omega) (by omega) (by omega)) hn (hS.2.2.2.2.2.2 k (by omega))⟩
  rw [bk_hi hF z (by omega)]; exact hc.1 o z (by omega) (by omega) (by omega) (by omega) (by omega)
theorem bk_rest (h : SR I L R n) (hc : cbO kb a b day O I J L K R R2 r) (hF : FrB kb J J') (h13 : J' 32 13 = 0) : PuR J' ∧ LkR J' ∧ TxR J' ∧ J' 32 11 = 255 ∧ Fx R2 ∧ J' 32 9 = I 32 9 ∧ J' 32 10 = I 32 10 ∧ J' 4 3 = I 4 3 ∧ J' 4 4 = I 4 4 := by
  obtain ⟨h1, h2, h3, h4, h5, h6, h7⟩ := h
  have fr := bk_fr hc hF
  have e11 : J' 1 1 = 0 := by rw [bk_hi hF 1 (by omega)]; exact hc.2.2.2.2.1
  refine ⟨PuR_fr (fun o z ho => by unfold puO at ho; exact fr o z (by omega) (by omega) (by omega) (by omega) (by omega) (by unfold tB tC tW; omega)) h2, LkR_fr (fun o z ho => by unfold lkO at ho; exact fr o z (by omega) (by omega) (by omega) (by omega) (by omega) (by unfold tB tC tW; omega)) h3, ⟨by rw [e11, h13], ⟨by omega, by omega, fun p p0 p1 => by omega⟩, fun p p0 p1 => by omega⟩, ?_, Fx_fr (fun o z ho a5 b5 => hc.2.2.1 o z (by omega) a5 (by omega)) h1.2.1, ?_, ?_, ?_, ?_⟩
  · rw [fr 32 11 (by omega) (by omega) (by omega) (by omega) (by omega) (by unfold tB tC tW; omega)]; exact h6
  · exact fr 32 9 (by omega) (by omega) (by omega) (by omega) (by omega) (by unfold tB tC tW; omega)
  · exact fr 32 10 (by omega) (by omega) (by omega) (by omega) (by omega) (by unfold tB tC tW; omega)
  · exact fr 4 3 (by omega) (by omega) (by omega) (by omega) (by omega) (by unfold tB tC tW; omega)
  · exact fr 4 4 (by omega) (by omega) (by omega) (by omega) (by omega) (by unfold tB tC tW; omega)
theorem SR_fault (h : SR I L R n) (hkI : I 32 0 = kb) (hk8 : kb < 8) (hn : n ≤ 57 + 7 * kb + 7) (hc : cbO kb a b day O I J L K R R2 r) (hF : FrB kb J J') (h0 : J' 32 0 = kb) (h13 : J' 32 13 = 0) (h14 : J' 32 14 = O.2.1) (h1 : 1 ≤ O.1) : SR J' K R2 (57 + 7 * kb + 7) := by
  have hr := bk_rest h hc hF h13
  have hS := h.1
  have ho := bk_old hS hkI hn hc hF
  have hcs := hc.2.2.2.2.2.resolve_right (fun q => by have := q.1; omega)
  obtain ⟨w1, w2, w3, w4, w5, w6⟩ := hS.2.2.1
  obtain ⟨r1, r2, r3, r4, r5, r6, r7, r8, r9⟩ := hr
  have e42 : J' 4 2 = kb := by rw [bk_hi hF 2 (by omega), hcs.2.2.2.2.1, hS.2.2.2.1]; exact hkI
  have e010 : J' 0 10 = O.2.1 := by rw [bk_hi hF 10 (by omega)]; exact hcs.2.2.2.1
  refine ⟨⟨by omega, r5, ⟨by omega, by omega, by omega, by omega, by rw [r7]; exact w5, fun k hk => (ho k (by omega)).1⟩, by rw [e42, h0], by rw [r8, r6]; exact hS.2.2.2.2.1, by rw [r9, r7]; exact hS.2.2.2.2.2.1, fun k hk => (ho k (by omega)).2⟩, r1, r2, r3, by rw [e010, h14], r4, Or.inr ⟨?_, by omega, by omega, ?_⟩⟩
  · rw [h0]; exact hcs.2.2.2.2.2.1
  · rw [h0]; exact hc.2.2.2.1
theorem SR_made {hd : Int} (h : SR I L R n) (hkI : I 32 0 = kb) (hok : okBook (kb : Int) a b day) (hn : n ≤ 57 + 7 * kb + 7) (hc : cbO kb a b day O I J L K R R2 r) (hF : FrB kb J J') (h0 : J' 32 0 = (kb : Int) + 1) (h13 : J' 32 13 = 0) (h14 : J' 32 14 = O.2.1) (hO2 : O.2.1 = -1) (hO1 : O.1 = 0) (hRD : RDr J' kb O.2.2) (hR36 : R36 J' kb O.2.2) (hM : MI 0 hd O.2.2) (ha : J' 33 kb = a) (hb : J' 34 kb = b) (hdd : J' 35 kb = day) : SR J' K R2 (57 + 7 * kb + 7) := by
  have hr := bk_rest h hc hF h13
  have hS := h.1
  have ho := bk_old hS hkI hn hc hF
  obtain ⟨c1, c2, c3, c4, c5, c6, c7, c8, c9, c10⟩ := hc.2.2.2.2.2.resolve_left (fun q => by have := q.1; omega)
  obtain ⟨w1, w2, w3, w4, w5, w6⟩ := hS.2.2.1
  obtain ⟨r1, r2, r3, r4, r5, r6, r7, r8, r9⟩ := hr
  have e42 : J' 4 2 = (kb : Int) + 1 := by rw [bk_hi hF 2 (by omega)]; exact c4
  have e010 : J' 0 10 = -1 := by rw [bk_hi hF 10 (by omega)]; exact c3
  have hRn : RWk J' kb := new_RW hRD hR36 hM ha hb hdd hok
  have hBn : BR J' K R2 (57 + 7 * kb + 7) kb := by
    refine ⟨c6, hc.2.2.2.1, Nat.le_refl _, ?_, ?_, ?_, CB_D (new_ag hRD hR36 hM) (D_B hM) (CB_cg (fun o z q1 q2 => bk_hi hF z (by omega)) (fun _ _ _ _ => rfl) c7)⟩
    · rw [bk_hi hF 0 (by omega), c8, ha]
    · rw [bk_hi hF 1 (by omega), c9, hb]
    · rw [bk_hi hF 2 (by omega), c10, hdd]
  have hall : ∀ k : Nat, k < kb + 1 → RWk J' k ∧ BR J' K R2 (57 + 7 * kb + 7) k := fun k hk => by
    by_cases hkk : k = kb
    · subst hkk; exact ⟨hRn, hBn⟩
    · exact ho k (by omega)
  refine ⟨⟨by omega, r5, ⟨by omega, by omega, by omega, by omega, by rw [r7]; exact w5, fun k hk => (hall k (by omega)).1⟩, by rw [e42, h0], by rw [r8, r6]; exact hS.2.2.2.2.1, by rw [r9, r7]; exact hS.2.2.2.2.2.1, fun k hk => (hall k (by omega)).2⟩, r1, r2, r3, by rw [e010, h14, hO2], r4, Or.inl ⟨c5, by omega⟩⟩
end

