/-! ===== the class's draft: its methods ===== -/
/-- what reading may change -/
def dO (kb o : Nat) (z : Int) : Prop := (o = 3 ∧ 0 ≤ z ∧ z ≤ 3) ∨ (o = 57 + 7 * kb ∧ 4 ≤ z ∧ z ≤ 6) ∨ (57 + 7 * kb < o ∧ o < 57 + 7 * kb + 7)
def FrD (kb : Nat) (I J : Nat → Int → Int) : Prop := ∀ (o : Nat) (z : Int), ¬ dO kb o z → J o z = I o z
def FrDL (kb : Nat) (L K : Nat → Int → BitVec 64) : Prop := ∀ (o : Nat) (z : Int), ¬ (57 + 7 * kb ≤ o ∧ o < 57 + 7 * kb + 7) → K o z = L o z
section
variable {I J K : Nat → Int → Int} {L L' M' : Nat → Int → BitVec 64} {R : Nat → Int → Option Nat} {n kb : Nat} {Q : Option AV → Mm → Prop} {D : Dr} {nx hd v : Int}
theorem FrD.rf : FrD kb I I := fun _ _ _ => rfl
theorem FrDL.rf : FrDL kb L L := fun _ _ _ => rfl
theorem FrD.wr (h : FrD kb I J) {o : Nat} {z v : Int} (hs : dO kb o z) : FrD kb I (up J o z v) := fun o' z' hs' => by
  unfold up; rw [if_neg (fun q => hs' (by rw [q.1, q.2]; exact hs))]; exact h o' z' hs'
theorem FrDL.wr (h : FrDL kb L L') {o : Nat} {z : Int} {v : BitVec 64} (hs : 57 + 7 * kb ≤ o ∧ o < 57 + 7 * kb + 7) : FrDL kb L (up L' o z v) := fun o' z' hs' => by
  unfold up; rw [if_neg (fun q => hs' (by rw [q.1]; exact hs))]; exact h o' z' hs'
theorem CB.sn (h : CB I L kb D) {w : Int} (h0 : 0 ≤ w) (h1 : w < 60) : I (57 + 7 * kb + 1) w = D 36 w := (h.1 w h0 h1).1
theorem CB.se (h : CB I L kb D) {w s : Int} (h0 : 0 ≤ w) (h1 : w < 60) (h2 : 0 ≤ s) (h3 : s < D 36 w) : I (57 + 7 * kb + 2) (w * 3 + s) = D 37 (3 * w + s) ∧ I (57 + 7 * kb + 3) (w * 3 + s) = D 38 (3 * w + s) ∧ L (57 + 7 * kb + 5) (w * 3 + s) = ss D 1 (3 * w + s) ∧ L (57 + 7 * kb + 6) (w * 3 + s) = ss D 0 (3 * w + s) := (h.2.2.2 w s h0 h1 h2 h3).1
theorem CB.wd (h : CB I L kb D) {w s p : Int} (h0 : 0 ≤ w) (h1 : w < 60) (h2 : 0 ≤ s) (h3 : s < D 36 w) (h4 : 0 ≤ p) (h5 : p < D 38 (3 * w + s)) : I (57 + 7 * kb + 4) ((w * 3 + s) * 6 + p) = D 39 (6 * (3 * w + s) + p) := (h.2.2.2 w s h0 h1 h2 h3).2 p h4 h5
/-- memory that agrees on the draft's cells -/
theorem CB_cg (hI : ∀ (o : Nat) (z : Int), 57 + 7 * kb ≤ o → o < 57 + 7 * kb + 7 → J o z = I o z) (hL : ∀ (o : Nat) (z : Int), 57 + 7 * kb ≤ o → o < 57 + 7 * kb + 7 → L' o z = L o z) (h : CB I L kb D) : CB J L' kb D := by
  unfold CB at h ⊢
  simp only [hI (57 + 7 * kb) _ (by omega) (by omega), hI (57 + 7 * kb + 1) _ (by omega) (by omega), hI (57 + 7 * kb + 2) _ (by omega) (by omega), hI (57 + 7 * kb + 3) _ (by omega) (by omega), hI (57 + 7 * kb + 4) _ (by omega) (by omega), hL (57 + 7 * kb) _ (by omega) (by omega), hL (57 + 7 * kb + 5) _ (by omega) (by omega), hL (57 + 7 * kb + 6) _ (by omega) (by omega)]
  exact h
theorem CB_head (h : CB I L kb D) (h0 : 0 ≤ v) (h1 : v < 60) : CB I (up L (57 + 7 * kb) 3 (L (57 + 7 * kb) 3 ||| onlyW v)) kb (up D 41 v 1) := by
  have e : ∀ (o : Nat) (k : Int), o ≠ 41 → up D 41 v 1 o k = D o k := fun o k ho => up_o _ _ _ _ ho
  have e36 : ∀ k, up D 41 v 1 36 k = D 36 k := fun k => e 36 k (by decide)
  have hss : ∀ ag s, ss (up D 41 v 1) ag s = ss D ag s := fun ag s => by unfold ss; rw [e 38 _ (by decide)]; exact ss_cg2 _ (fun p _ => ⟨e _ _ (by decide), e _ _ (by decide)⟩)
  obtain ⟨g1, g2, g3, g4⟩ := h
  refine ⟨fun w hw0 hw1 => ⟨by rw [e36]; exact (g1 w hw0 hw1).1, ?_⟩, fun i hi => ?_, ?_, fun w s hw0 hw1 hs0 hs1 => ?_⟩
  · rw [up_same, or_bit, onlyW_t h0 h1, one_bit (by omega), (g1 w hw0 hw1).2]
    by_cases hwv : w = v
    · subst hwv; rw [up_same]; simp
    · rw [up_k _ _ _ _ hwv]
      constructor
      · rintro (q | q)
        · exact q
        · omega
      · exact Or.inl
  · rw [up_same, BitVec.getLsbD_or, g2 i hi, onlyW_t h0 h1, shl1_bit _ _ (by omega)]
    simp; omega
  · rw [sn_o e36, wo_o e36 (fun w => e 38 w (by decide)), ao_o e36 (fun w => e 38 w (by decide)) (fun w => e 40 w (by decide))]; exact g3
  · rw [e36] at hs1
    have g5 := g4 w s hw0 hw1 hs0 hs1
    rw [e 37 _ (by decide), e 38 _ (by decide), hss, hss, up_o _ _ _ _ (by omega), up_o _ _ _ _ (by omega)]
    refine ⟨g5.1, fun p hp0 hp1 => ?_⟩
    rw [e 39 _ (by decide)]; exact g5.2 p hp0 hp1
theorem CB_sense (h : CB I L kb D) (hM : MI nx hd D) (h0 : 0 ≤ hd) (h1 : hd < 60) (h3 : D 36 hd < 3) : CB (up (up (up (up I (57 + 7 * kb + 1) hd (D 36 hd + 1)) (57 + 7 * kb) 4 (I (57 + 7 * kb) 4 + 1)) (57 + 7 * kb + 2) (hd * 3 + D 36 hd) (-1)) (57 + 7 * kb + 3) (hd * 3 + D 36 hd) 0) (up (up L (57 + 7 * kb + 5) (hd * 3 + D 36 hd) 0#64) (57 + 7 * kb + 6) (hd * 3 + D 36 hd) 0#64) kb (addS D hd) := by
  have h30 := (hM.w h0 h1).1
  obtain ⟨g1, g2, g3, g4⟩ := h
  refine ⟨fun w hw0 hw1 => ?_, fun i hi => ?_, ?_, fun w s hw0 hw1 hs0 hs1 => ?_⟩
  · have g5 := g1 w hw0 hw1
    rw [addS_o (o := 41) (by decide) (by decide) (by decide)]
    simp (disch := omega) only [up_same, up_o, up_k]
    refine ⟨?_, g5.2⟩
    by_cases hwh : w = hd
    · subst hwh; rw [up_same, addS_36h]
    · rw [up_k _ _ _ _ hwh, addS_36 hwh]; exact g5.1
  · simp (disch := omega) only [up_same, up_o, up_k]
    exact g2 i hi
  · rw [sn_S hM h0 h1, wo_S hM h0 h1 h3, ao_S hM h0 h1 h3]
    simp (disch := omega) only [up_same, up_o, up_k]
    exact ⟨by rw [g3.1], g3.2⟩
  · have hw3 := hM.w hw0 hw1
    by_cases hns : w = hd ∧ s = D 36 hd
    · obtain ⟨q1, q2⟩ := hns
      subst q1
      rw [q2, addS_37h, addS_38h]
      have hss : ∀ ag, ss (addS D w) ag (3 * w + D 36 w) = 0#64 := fun ag => by unfold ss; rw [addS_38h]; rfl
      rw [hss, hss]
      simp (disch := omega) only [up_same, up_o, up_k]
      exact ⟨⟨trivial, trivial, trivial, trivial⟩, fun p hp0 hp1 => by omega⟩
    · have hs2 : s < D 36 w := by
        by_cases hwh : w = hd
        · subst hwh; rw [addS_36h] at hs1; omega
        · rw [addS_36 hwh] at hs1; exact hs1
      have hne : 3 * w + s ≠ 3 * hd + D 36 hd := by
        by_cases hwh : w = hd
        · subst hwh; omega
        · omega
      have g5 := g4 w s hw0 hw1 hs0 hs2
      have hss : ∀ ag, ss (addS D hd) ag (3 * w + s) = ss D ag (3 * w + s) := fun ag => by unfold ss; rw [addS_38 hne]; exact ss_cg2 _ (fun p _ => ⟨addS_o (by decide) (by decide) (by decide), addS_o (by decide) (by decide) (by decide)⟩)
      rw [addS_37 hne, addS_38 hne, hss, hss]
      simp (disch := omega) only [up_same, up_o, up_k]
      refine ⟨g5.1, fun p hp0 hp1 => ?_⟩
      rw [addS_o (o := 39) (by decide) (by decide) (by decide)]
      exact g5.2 p hp0 hp1
theorem CB_field (h : CB I L kb D) (hM : MI nx hd D) (hn : 2 ≤ nx) : CB (up I (57 + 7 * kb + 2) (hd * 3 + (D 36 hd - 1)) v) L kb (up D 37 (cur D hd) v) := by
  have hh := hM.hd hn
  have e : ∀ (o : Nat) (k : Int), o ≠ 37 → up D 37 (cur D hd) v o k = D o k := fun o k ho => up_o _ _ _ _ ho
  have e36 : ∀ k, up D 37 (cur D hd) v 36 k = D 36 k := fun k => e 36 k (by decide)
  have hss : ∀ ag s, ss (up D 37 (cur D hd) v) ag s = ss D ag s := fun ag s => by unfold ss; rw [e 38 _ (by decide)]; exact ss_cg2 _ (fun p _ => ⟨e _ _ (by decide), e _ _ (by decide)⟩)
  obtain ⟨g1, g2, g3, g4⟩ := h
  refine ⟨fun w hw0 hw1 => ?_, g2, ?_, fun w s hw0 hw1 hs0 hs1 => ?_⟩
  · rw [e36, e 41 _ (by decide), up_o _ _ _ _ (by omega)]; exact g1 w hw0 hw1
  · rw [sn_o e36, wo_o e36 (fun w => e 38 w (by decide)), ao_o e36 (fun w => e 38 w (by decide)) (fun w => e 40 w (by decide))]
    simp (disch := omega) only [up_same, up_o, up_k]
    exact g3
  · rw [e36] at hs1
    have hw3 := hM.w hw0 hw1
    have g5 := g4 w s hw0 hw1 hs0 hs1
    rw [e 38 _ (by decide), hss, hss]
    refine ⟨⟨?_, ?_, g5.1.2.2⟩, fun p hp0 hp1 => ?_⟩
    · by_cases hc : 3 * w + s = cur D hd
      · rw [hc, up_same, show w * 3 + s = hd * 3 + (D 36 hd - 1) by unfold cur at hc; omega, up_same]
      · rw [up_k _ _ _ _ hc, up_k _ _ _ _ (by unfold cur at hc; omega)]; exact g5.1.1
    · rw [up_o _ _ _ _ (by omega)]; exact g5.1.2.1
    · rw [e 39 _ (by decide), up_o _ _ _ _ (by omega)]; exact g5.2 p hp0 hp1
theorem ssW (hM : MI nx hd D) (hn : 2 ≤ nx) (ag : Int) : ss (addW D (cur D hd) v) ag (cur D hd) = ss D ag (cur D hd) ||| 1#64 <<< v.toNat := by
  have hcs := (hM.cs hn).1
  unfold ss
  rw [addW_38h, show (D 38 (cur D hd) + 1).toNat = (D 38 (cur D hd)).toNat + 1 by omega]
  simp only [ssN]
  rw [show (((D 38 (cur D hd)).toNat : Nat) : Int) = D 38 (cur D hd) by omega, addW_40h, addW_39h, if_pos (Or.inr rfl), ss_cg2 _ (fun p hp => ⟨addW_40 (by omega), addW_39 (by omega)⟩)]
theorem CB_word (h : CB I L kb D) (hM : MI nx hd D) (hn : 2 ≤ nx) (h6 : D 38 (cur D hd) < 6) (h0 : 0 ≤ v) (h1 : v < 60) : CB (up (up (up I (57 + 7 * kb + 4) ((hd * 3 + (D 36 hd - 1)) * 6 + D 38 (cur D hd)) v) (57 + 7 * kb + 3) (hd * 3 + (D 36 hd - 1)) (D 38 (cur D hd) + 1)) (57 + 7 * kb) 5 (I (57 + 7 * kb) 5 + 1)) (up (up L (57 + 7 * kb + 5) (hd * 3 + (D 36 hd - 1)) (L (57 + 7 * kb + 5) (hd * 3 + (D 36 hd - 1)) ||| onlyW v)) (57 + 7 * kb + 6) (hd * 3 + (D 36 hd - 1)) (L (57 + 7 * kb + 6) (hd * 3 + (D 36 hd - 1)) ||| onlyW v)) kb (addW D (cur D hd) v) := by
  have hh := hM.hd hn
  have hcs := (hM.cs hn).1
  have e36 : ∀ k, addW D (cur D hd) v 36 k = D 36 k := fun k => addW_o (by decide) (by decide) (by decide)
  obtain ⟨g1, g2, g3, g4⟩ := h
  refine ⟨fun w hw0 hw1 => ?_, fun i hi => ?_, ?_, fun w s hw0 hw1 hs0 hs1 => ?_⟩
  · rw [e36, addW_o (o := 41) (by decide) (by decide) (by decide)]
    simp (disch := omega) only [up_same, up_o, up_k]
    exact g1 w hw0 hw1
  · simp (disch := omega) only [up_same, up_o, up_k]
    exact g2 i hi
  · rw [sn_o e36, wo_W hM hn, ao_W hM hn h6]
    simp (disch := omega) only [up_same, up_o, up_k]
    exact ⟨g3.1, by rw [g3.2.1], g3.2.2⟩
  · rw [e36] at hs1
    have hw3 := hM.w hw0 hw1
    have g5 := g4 w s hw0 hw1 hs0 hs1
    have hsi := (hM.s hw0 hw1 hs0 hs1).1
    rw [addW_o (o := 37) (by decide) (by decide) (by decide)]
    by_cases hc : 3 * w + s = cur D hd
    · have hws : w * 3 + s = hd * 3 + (D 36 hd - 1) := by unfold cur at hc; omega
      rw [hc, hws] at g5
      rw [hc, hws, addW_38h, ssW hM hn, ssW hM hn, ← onlyW_t h0 h1]
      simp (disch := omega) only [up_same, up_o, up_k]
      refine ⟨⟨g5.1.1, trivial, by rw [g5.1.2.2.1], by rw [g5.1.2.2.2]⟩, fun p hp0 hp1 => ?_⟩
      by_cases hp : p = D 38 (cur D hd)
      · rw [hp, up_same, addW_39h]
      · rw [up_k _ _ _ _ (by omega), addW_39 (by omega)]; exact g5.2 p hp0 (by omega)
    · have hne : w * 3 + s ≠ hd * 3 + (D 36 hd - 1) := by unfold cur at hc; omega
      have hss : ∀ ag, ss (addW D (cur D hd) v) ag (3 * w + s) = ss D ag (3 * w + s) := fun ag => by
        unfold ss; rw [addW_38 hc]
        exact ss_cg2 _ (fun p hp => ⟨addW_40 (by omega), addW_39 (by omega)⟩)
      rw [addW_38 hc, hss, hss]
      simp (disch := omega) only [up_same, up_o, up_k]
      refine ⟨g5.1, fun p hp0 hp1 => ?_⟩
      rw [up_k _ _ _ _ (by omega), addW_39 (by omega)]
      exact g5.2 p hp0 hp1
/-- the last word ages -/
theorem ssA (hM : MI 6 hd D) (ha : D 40 (6 * cur D hd + (D 38 (cur D hd) - 1)) = 0) : ss (up D 40 (6 * cur D hd + (D 38 (cur D hd) - 1)) 1) 0 (cur D hd) = ss D 0 (cur D hd) &&& (1#64 <<< (D 39 (6 * cur D hd + (D 38 (cur D hd) - 1))).toNat ^^^ 18446744073709551615#64) := by
  have hcs := hM.cs (by omega)
  have h1 := hM.2.2.2.2.1 (by omega)
  have e : ∀ (o : Nat) (k : Int), o ≠ 40 → up D 40 (6 * cur D hd + (D 38 (cur D hd) - 1)) 1 o k = D o k := fun o k ho => up_o _ _ _ _ ho
  have hl := hcs.2 (D 38 (cur D hd) - 1) (by omega) (by omega)
  have hR : ∀ p : Nat, p < (D 38 (cur D hd) - 1).toNat → (D 39 (6 * cur D hd + p)).toNat < 64 := fun p hp => by have := (hcs.2 p (by omega) (by omega)).1; omega
  unfold ss
  rw [e 38 _ (by decide), show (D 38 (cur D hd)).toNat = (D 38 (cur D hd) - 1).toNat + 1 by omega]
  simp only [ssN]
  rw [show (((D 38 (cur D hd) - 1).toNat : Nat) : Int) = D 38 (cur D hd) - 1 by omega, up_same, if_neg (by decide), ha, if_pos (Or.inr rfl), BitVec.or_zero, ss_cg2 (D' := up D 40 (6 * cur D hd + (D 38 (cur D hd) - 1)) 1) (D := D) _ (fun p hp => ⟨up_k _ _ _ _ (by omega), e _ _ (by decide)⟩)]
  apply bv_ext
  intro i hi
  rw [and_bit, or_bit, not_bit hi, one_bit (by omega)]
  constructor
  · intro q
    refine ⟨Or.inl q, fun hi2 => ?_⟩
    obtain ⟨p, hp, _, hp2⟩ := (ssN_bit i _ hR).mp q
    have h2 := hl.2 p (by omega) (by omega)
    have h3 := (hcs.2 p (by omega) (by omega)).1
    omega
  · rintro ⟨q | q, q2⟩
    · exact q
    · exact absurd q q2
theorem CB_age (h : CB I L kb D) (hM : MI 6 hd D) (ha : D 40 (6 * cur D hd + (D 38 (cur D hd) - 1)) = 0) : CB (up I (57 + 7 * kb) 6 (I (57 + 7 * kb) 6 + 1)) (up L (57 + 7 * kb + 6) (hd * 3 + (D 36 hd - 1)) (L (57 + 7 * kb + 6) (hd * 3 + (D 36 hd - 1)) &&& (onlyW (D 39 (6 * cur D hd + (D 38 (cur D hd) - 1))) ^^^ 18446744073709551615#64))) kb (up D 40 (6 * cur D hd + (D 38 (cur D hd) - 1)) 1) := by
  have hh := hM.hd (by omega)
  have hcs := hM.cs (by omega)
  have h1 := hM.2.2.2.2.1 (by omega)
  have hl := hcs.2 (D 38 (cur D hd) - 1) (by omega) (by omega)
  have hcs1 := hcs.1
  have e : ∀ (o : Nat) (k : Int), o ≠ 40 → up D 40 (6 * cur D hd + (D 38 (cur D hd) - 1)) 1 o k = D o k := fun o k ho => up_o _ _ _ _ ho
  have e36 : ∀ k, up D 40 (6 * cur D hd + (D 38 (cur D hd) - 1)) 1 36 k = D 36 k := fun k => e 36 k (by decide)
  obtain ⟨g1, g2, g3, g4⟩ := h
  refine ⟨fun w hw0 hw1 => ?_, fun i hi => ?_, ?_, fun w s hw0 hw1 hs0 hs1 => ?_⟩
  · rw [e36, e 41 _ (by decide)]
    simp (disch := omega) only [up_same, up_o, up_k]
    exact g1 w hw0 hw1
  · simp (disch := omega) only [up_same, up_o, up_k]
    exact g2 i hi
  · rw [sn_o e36, wo_o e36 (fun w => e 38 w (by decide)), ao_A hM ha]
    simp (disch := omega) only [up_same, up_o, up_k]
    exact ⟨g3.1, g3.2.1, by rw [g3.2.2]⟩
  · rw [e36] at hs1
    have hw3 := hM.w hw0 hw1
    have g5 := g4 w s hw0 hw1 hs0 hs1
    have hsi := (hM.s hw0 hw1 hs0 hs1).1
    have hs1e : ∀ s : Int, ss (up D 40 (6 * cur D hd + (D 38 (cur D hd) - 1)) 1) 1 s = ss D 1 s := fun s => by
      unfold ss; rw [e 38 _ (by decide)]
      have key : ∀ k : Nat, ssN (up D 40 (6 * cur D hd + (D 38 (cur D hd) - 1)) 1) 1 s k = ssN D 1 s k := fun k => by
        induction k with
        | zero => rfl
        | succ k ih => simp only [ssN]; rw [ih, e 39 _ (by decide), if_pos (Or.inl (by decide)), if_pos (Or.inl (by decide))]
      exact key _
    rw [e 37 _ (by decide), e 38 _ (by decide), hs1e]
    refine ⟨⟨?_, ?_, ?_, ?_⟩, fun p hp0 hp1 => ?_⟩
    · simp (disch := omega) only [up_same, up_o, up_k]; exact g5.1.1
    · simp (disch := omega) only [up_same, up_o, up_k]; exact g5.1.2.1
    · simp (disch := omega) only [up_same, up_o, up_k]; exact g5.1.2.2.1
    · by_cases hc : 3 * w + s = cur D hd
      · have hws : w * 3 + s = hd * 3 + (D 36 hd - 1) := by unfold cur at hc; omega
        rw [hc, hws] at g5
        rw [hc, hws, up_same, ssA hM ha, onlyW_t hl.1.1 hl.1.2.1, g5.1.2.2.2]
      · have hne : w * 3 + s ≠ hd * 3 + (D 36 hd - 1) := by unfold cur at hc; omega
        have hss : ss (up D 40 (6 * cur D hd + (D 38 (cur D hd) - 1)) 1) 0 (3 * w + s) = ss D 0 (3 * w + s) := by
          unfold ss; rw [e 38 _ (by decide)]
          exact ss_cg2 _ (fun p hp => ⟨up_k _ _ _ _ (by omega), e _ _ (by decide)⟩)
        rw [up_k _ _ _ _ hne, hss]; exact g5.1.2.2.2
    · rw [e 39 _ (by decide), up_o _ _ _ _ (by omega)]
      exact g5.2 p hp0 hp1
end

