/-! ===== reading a text: what holds meanwhile ===== -/
section
variable {D : Dr} {h i v w k : Int} {o : Nat}
theorem addS_36h : addS D h 36 h = D 36 h + 1 := by unfold addS; rw [up_o _ _ _ _ (by decide), up_o _ _ _ _ (by decide), up_same]
theorem addS_36 (hw : w ≠ h) : addS D h 36 w = D 36 w := by unfold addS; rw [up_o _ _ _ _ (by decide), up_o _ _ _ _ (by decide), up_k _ _ _ _ hw]
theorem addS_37h : addS D h 37 (3 * h + D 36 h) = -1 := by unfold addS; rw [up_o _ _ _ _ (by decide), up_same]
theorem addS_37 (hi : i ≠ 3 * h + D 36 h) : addS D h 37 i = D 37 i := by unfold addS; rw [up_o _ _ _ _ (by decide), up_k _ _ _ _ hi, up_o _ _ _ _ (by decide)]
theorem addS_38h : addS D h 38 (3 * h + D 36 h) = 0 := by unfold addS; rw [up_same]
theorem addS_38 (hi : i ≠ 3 * h + D 36 h) : addS D h 38 i = D 38 i := by unfold addS; rw [up_k _ _ _ _ hi, up_o _ _ _ _ (by decide), up_o _ _ _ _ (by decide)]
theorem addS_o (h1 : o ≠ 36) (h2 : o ≠ 37) (h3 : o ≠ 38) : addS D h o i = D o i := by unfold addS; rw [up_o _ _ _ _ h3, up_o _ _ _ _ h2, up_o _ _ _ _ h1]
theorem addW_38h : addW D i v 38 i = D 38 i + 1 := by unfold addW; rw [up_same]
theorem addW_38 (hk : k ≠ i) : addW D i v 38 k = D 38 k := by unfold addW; rw [up_k _ _ _ _ hk, up_o _ _ _ _ (by decide), up_o _ _ _ _ (by decide)]
theorem addW_39h : addW D i v 39 (6 * i + D 38 i) = v := by unfold addW; rw [up_o _ _ _ _ (by decide), up_o _ _ _ _ (by decide), up_same]
theorem addW_39 (hk : k ≠ 6 * i + D 38 i) : addW D i v 39 k = D 39 k := by unfold addW; rw [up_o _ _ _ _ (by decide), up_o _ _ _ _ (by decide), up_k _ _ _ _ hk]
theorem addW_40h : addW D i v 40 (6 * i + D 38 i) = 0 := by unfold addW; rw [up_o _ _ _ _ (by decide), up_same]
theorem addW_40 (hk : k ≠ 6 * i + D 38 i) : addW D i v 40 k = D 40 k := by unfold addW; rw [up_o _ _ _ _ (by decide), up_k _ _ _ _ hk, up_o _ _ _ _ (by decide)]
theorem addW_o (h1 : o ≠ 38) (h2 : o ≠ 39) (h3 : o ≠ 40) : addW D i v o k = D o k := by unfold addW; rw [up_o _ _ _ _ h1, up_o _ _ _ _ h3, up_o _ _ _ _ h2]
end
/-- a sense of the arrays -/
def SI (D : Dr) (i : Int) : Prop := (-1 ≤ D 37 i ∧ D 37 i ≤ 5 ∧ 0 ≤ D 38 i ∧ D 38 i ≤ 6) ∧ ∀ p : Int, 0 ≤ p → p < D 38 i → (0 ≤ D 39 (6 * i + p) ∧ D 39 (6 * i + p) < 60 ∧ (D 40 (6 * i + p) = 0 ∨ D 40 (6 * i + p) = 1)) ∧ ∀ p' : Int, 0 ≤ p' → p' < p → D 39 (6 * i + p') ≠ D 39 (6 * i + p)
theorem SI_cg {D D' : Dr} {i : Int} (h37 : D' 37 i = D 37 i) (h38 : D' 38 i = D 38 i) (h39 : ∀ p : Int, 0 ≤ p → p < 6 → D' 39 (6 * i + p) = D 39 (6 * i + p) ∧ D' 40 (6 * i + p) = D 40 (6 * i + p)) (h : SI D i) : SI D' i := by
  refine ⟨by rw [h37, h38]; exact h.1, fun p hp0 hp1 => ?_⟩
  rw [h38] at hp1
  have h6 := h.1.2.2.2
  obtain ⟨h2, h3⟩ := h.2 p hp0 hp1
  have h4 := h39 p hp0 (by omega)
  rw [h4.1, h4.2]
  refine ⟨h2, fun p' hp' hp'' => ?_⟩
  rw [(h39 p' hp' (by omega)).1]
  exact h3 p' hp' hp''
/-- what holds of a state -/
def MI (nx hd : Int) (D : Dr) : Prop :=
  (0 ≤ nx ∧ nx ≤ 7) ∧ (nx ≠ 0 → 0 ≤ hd ∧ hd < 60) ∧ (nx = 1 → D 36 hd = 0 ∧ D 41 hd = 1) ∧ (2 ≤ nx → 1 ≤ D 36 hd) ∧ (6 ≤ nx → 1 ≤ D 38 (cur D hd)) ∧
  ∀ w : Int, 0 ≤ w → w < 60 → ((0 ≤ D 36 w ∧ D 36 w ≤ 3 ∧ (D 41 w = 0 ∨ D 41 w = 1)) ∧ (0 < D 36 w → D 41 w = 1) ∧ (D 41 w = 1 → ¬ (nx = 1 ∧ w = hd) → 0 < D 36 w)) ∧
    ∀ s : Int, 0 ≤ s → s < D 36 w → SI D (3 * w + s) ∧ (¬ (2 ≤ nx ∧ nx ≤ 5 ∧ w = hd ∧ s = D 36 hd - 1) → 1 ≤ D 38 (3 * w + s))
theorem MI.w {nx hd : Int} {D : Dr} (h : MI nx hd D) {w : Int} (h0 : 0 ≤ w) (h1 : w < 60) : 0 ≤ D 36 w ∧ D 36 w ≤ 3 ∧ (D 41 w = 0 ∨ D 41 w = 1) := (h.2.2.2.2.2 w h0 h1).1.1
theorem MI.s {nx hd : Int} {D : Dr} (h : MI nx hd D) {w s : Int} (h0 : 0 ≤ w) (h1 : w < 60) (h2 : 0 ≤ s) (h3 : s < D 36 w) : SI D (3 * w + s) := ((h.2.2.2.2.2 w h0 h1).2 s h2 h3).1
theorem MI.hd {nx hd : Int} {D : Dr} (h : MI nx hd D) (hn : 2 ≤ nx) : 0 ≤ hd ∧ hd < 60 ∧ 1 ≤ D 36 hd ∧ D 36 hd ≤ 3 := by
  have h1 := h.2.1 (by omega)
  have h2 := h.w h1.1 h1.2
  exact ⟨h1.1, h1.2, h.2.2.2.1 hn, h2.2.1⟩
theorem MI.cs {nx hd : Int} {D : Dr} (h : MI nx hd D) (hn : 2 ≤ nx) : SI D (cur D hd) := by
  have h1 := h.hd hn
  exact h.s h1.1 h1.2.1 (by omega) (by omega)
theorem MI_head {hd v : Int} {D : Dr} (h : MI 0 hd D) (h0 : 0 ≤ v) (h1 : v < 60) (hv : ¬ D 41 v = 1) : MI 1 v (up D 41 v 1) := by
  have e : ∀ (o : Nat) (k : Int), o ≠ 41 → up D 41 v 1 o k = D o k := fun o k ho => up_o _ _ _ _ ho
  have hz : D 36 v = 0 := by
    have h2 := h.w h0 h1
    have h3 := (h.2.2.2.2.2 v h0 h1).1.2.1
    omega
  refine ⟨by omega, fun _ => ⟨h0, h1⟩, fun _ => ⟨by rw [e 36 _ (by decide)]; exact hz, up_same _ _ _ _⟩, fun q => by omega, fun q => by omega, fun w hw0 hw1 => ?_⟩
  obtain ⟨⟨g1, g2, g3⟩, g4⟩ := h.2.2.2.2.2 w hw0 hw1
  rw [e 36 w (by decide)]
  refine ⟨?_, fun s hs0 hs1 => ?_⟩
  · by_cases hwv : w = v
    · subst hwv
      rw [up_same]
      exact ⟨⟨g1.1, g1.2.1, Or.inr rfl⟩, fun _ => rfl, fun _ q => absurd ⟨rfl, rfl⟩ q⟩
    · rw [up_k _ _ _ _ hwv]
      exact ⟨g1, g2, fun q1 _ => g3 q1 (by omega)⟩
  · obtain ⟨g5, g6⟩ := g4 s hs0 hs1
    refine ⟨SI_cg (e _ _ (by decide)) (e _ _ (by decide)) (fun p _ _ => ⟨e _ _ (by decide), e _ _ (by decide)⟩) g5, fun _ => ?_⟩
    rw [e 38 _ (by decide)]
    exact g6 (by omega)
theorem MI_sense {nx hd : Int} {D : Dr} (h : MI nx hd D) (hn : nx = 1 ∨ nx = 6 ∨ nx = 7) (h3 : D 36 hd < 3) : MI 2 hd (addS D hd) := by
  have hh := h.2.1 (by omega)
  have hw := h.w hh.1 hh.2
  refine ⟨by omega, fun _ => hh, fun q => by omega, fun _ => by rw [addS_36h]; omega, fun q => by omega, fun w hw0 hw1 => ?_⟩
  obtain ⟨⟨g1, g2, g3⟩, g4⟩ := h.2.2.2.2.2 w hw0 hw1
  rw [addS_o (o := 41) (by decide) (by decide) (by decide), addS_36h]
  by_cases hwv : w = hd
  · subst hwv
    rw [addS_36h]
    have h41 : D 41 w = 1 := by
      rcases hn with q | q
      · exact (h.2.2.1 q).2
      · exact g2 (by have := h.2.2.2.1 (by omega); omega)
    refine ⟨⟨⟨by omega, by omega, g1.2.2⟩, fun _ => h41, fun _ _ => by omega⟩, fun s hs0 hs1 => ?_⟩
    by_cases hs : s = D 36 w
    · subst hs
      refine ⟨⟨by rw [addS_37h, addS_38h]; omega, fun p hp0 hp1 => ?_⟩, fun q => absurd ⟨by omega, by omega, rfl, by omega⟩ q⟩
      rw [addS_38h] at hp1
      omega
    · obtain ⟨g5, g6⟩ := g4 s hs0 (by omega)
      refine ⟨SI_cg (addS_37 (by omega)) (addS_38 (by omega)) (fun p _ _ => ⟨addS_o (by decide) (by decide) (by decide), addS_o (by decide) (by decide) (by decide)⟩) g5, fun _ => ?_⟩
      rw [addS_38 (by omega)]
      exact g6 (by omega)
  · rw [addS_36 hwv]
    refine ⟨⟨g1, g2, fun q _ => g3 q (by omega)⟩, fun s hs0 hs1 => ?_⟩
    obtain ⟨g5, g6⟩ := g4 s hs0 (by omega)
    refine ⟨SI_cg (addS_37 (by omega)) (addS_38 (by omega)) (fun p _ _ => ⟨addS_o (by decide) (by decide) (by decide), addS_o (by decide) (by decide) (by decide)⟩) g5, fun _ => ?_⟩
    rw [addS_38 (by omega)]
    exact g6 (by omega)
theorem MI_nx {nx nx' hd : Int} {D : Dr} (h : MI nx hd D) (hn : nx = 2 ∧ nx' = 3 ∨ nx = 4 ∧ nx' = 5 ∨ (nx = 6 ∨ nx = 7) ∧ (nx' = 5 ∨ nx' = 0)) : MI nx' hd D := by
  refine ⟨by omega, fun _ => h.2.1 (by omega), fun q => by omega, fun q => h.2.2.2.1 (by omega), fun q => h.2.2.2.2.1 (by omega), fun w hw0 hw1 => ?_⟩
  obtain ⟨⟨g1, g2, g3⟩, g4⟩ := h.2.2.2.2.2 w hw0 hw1
  exact ⟨⟨g1, g2, fun q _ => g3 q (by omega)⟩, fun s hs0 hs1 => ⟨(g4 s hs0 hs1).1, fun q => (g4 s hs0 hs1).2 (by omega)⟩⟩
theorem MI_field {hd v : Int} {D : Dr} (h : MI 3 hd D) (h0 : 0 ≤ v) (h1 : v < 6) : MI 4 hd (up D 37 (cur D hd) v) := by
  have e : ∀ (o : Nat) (k : Int), o ≠ 37 → up D 37 (cur D hd) v o k = D o k := fun o k ho => up_o _ _ _ _ ho
  have hh := h.hd (by omega)
  refine ⟨by omega, fun _ => ⟨hh.1, hh.2.1⟩, fun q => by omega, fun _ => by rw [e 36 _ (by decide)]; exact hh.2.2.1, fun q => by omega, fun w hw0 hw1 => ?_⟩
  obtain ⟨⟨g1, g2, g3⟩, g4⟩ := h.2.2.2.2.2 w hw0 hw1
  rw [e 36 w (by decide), e 36 hd (by decide), e 41 w (by decide)]
  refine ⟨⟨g1, g2, fun q _ => g3 q (by omega)⟩, fun s hs0 hs1 => ?_⟩
  obtain ⟨g5, g6⟩ := g4 s hs0 hs1
  rw [e 38 _ (by decide)]
  refine ⟨?_, fun q => g6 (by omega)⟩
  by_cases hc : 3 * w + s = cur D hd
  · refine ⟨?_, ?_⟩
    · rw [e 38 _ (by decide), hc, up_same]
      have := g5.1
      rw [hc] at this
      omega
    · intro p hp0 hp1
      rw [e 38 _ (by decide)] at hp1
      rw [e 39 _ (by decide), e 40 _ (by decide)]
      refine ⟨(g5.2 p hp0 hp1).1, fun p' a b => ?_⟩
      rw [e 39 _ (by decide)]
      exact (g5.2 p hp0 hp1).2 p' a b
  · exact SI_cg (up_k _ _ _ _ hc) (e _ _ (by decide)) (fun p _ _ => ⟨e _ _ (by decide), e _ _ (by decide)⟩) g5
theorem MI_word {nx hd v : Int} {D : Dr} (h : MI nx hd D) (hn : nx = 2 ∨ nx = 5) (h0 : 0 ≤ v) (h1 : v < 60) (hg : ¬ anyB (fun k => decide (D 39 (6 * cur D hd + k) = v)) (D 38 (cur D hd)).toNat = true) (h6 : ¬ 6 ≤ D 38 (cur D hd)) : MI 6 hd (addW D (cur D hd) v) := by
  have hh := h.hd (by omega)
  have hcs := h.cs (by omega)
  have e36 : ∀ k : Int, addW D (cur D hd) v 36 k = D 36 k := fun k => addW_o (by decide) (by decide) (by decide)
  have e41 : ∀ k : Int, addW D (cur D hd) v 41 k = D 41 k := fun k => addW_o (by decide) (by decide) (by decide)
  have e37 : ∀ k : Int, addW D (cur D hd) v 37 k = D 37 k := fun k => addW_o (by decide) (by decide) (by decide)
  have hsz := hcs.1
  refine ⟨by omega, fun _ => ⟨hh.1, hh.2.1⟩, fun q => by omega, fun _ => by rw [e36]; exact hh.2.2.1, fun q => ?_, fun w hw0 hw1 => ?_⟩
  · show 1 ≤ addW D (cur D hd) v 38 (3 * hd + (addW D (cur D hd) v 36 hd - 1))
    rw [e36, addW_38h]; omega
  obtain ⟨⟨g1, g2, g3⟩, g4⟩ := h.2.2.2.2.2 w hw0 hw1
  rw [e36, e36, e41]
  refine ⟨⟨g1, g2, fun q _ => g3 q (by omega)⟩, fun s hs0 hs1 => ?_⟩
  obtain ⟨g5, g6⟩ := g4 s hs0 hs1
  by_cases hc : 3 * w + s = cur D hd
  · rw [hc]
    refine ⟨⟨by rw [e37, addW_38h]; omega, fun p hp0 hp1 => ?_⟩, fun _ => by rw [addW_38h]; omega⟩
    rw [addW_38h] at hp1
    by_cases hp : p = D 38 (cur D hd)
    · subst hp
      rw [addW_39h, addW_40h]
      refine ⟨⟨h0, h1, Or.inl rfl⟩, fun p' a b => ?_⟩
      rw [addW_39 (by omega)]
      intro q
      refine hg ((anyB_iff _ _).mpr ⟨p'.toNat, by omega, decide_eq_true ?_⟩)
      rw [show ((p'.toNat : Nat) : Int) = p' by omega]
      exact q
    · obtain ⟨g7, g8⟩ := hcs.2 p hp0 (by omega)
      rw [addW_39 (by omega), addW_40 (by omega)]
      refine ⟨g7, fun p' a b => ?_⟩
      rw [addW_39 (by omega)]
      exact g8 p' a b
  · refine ⟨SI_cg (e37 _) (addW_38 hc) (fun p a b => ⟨addW_39 (by omega), addW_40 (by omega)⟩) g5, fun _ => ?_⟩
    rw [addW_38 hc]
    refine g6 ?_
    rintro ⟨_, _, q1, q2⟩
    subst q1; subst q2
    exact hc rfl
theorem MI_age {hd : Int} {D : Dr} (h : MI 6 hd D) : MI 7 hd (up D 40 (6 * cur D hd + (D 38 (cur D hd) - 1)) 1) := by
  have e : ∀ (o : Nat) (k : Int), o ≠ 40 → up D 40 (6 * cur D hd + (D 38 (cur D hd) - 1)) 1 o k = D o k := fun o k ho => up_o _ _ _ _ ho
  have hh := h.hd (by omega)
  refine ⟨by omega, fun _ => ⟨hh.1, hh.2.1⟩, fun q => by omega, fun _ => by rw [e 36 _ (by decide)]; exact hh.2.2.1, fun q => ?_, fun w hw0 hw1 => ?_⟩
  · rw [show cur (up D 40 (6 * cur D hd + (D 38 (cur D hd) - 1)) 1) hd = cur D hd by unfold cur; rw [e 36 _ (by decide)], e 38 _ (by decide)]
    exact h.2.2.2.2.1 (by omega)
  obtain ⟨⟨g1, g2, g3⟩, g4⟩ := h.2.2.2.2.2 w hw0 hw1
  rw [e 36 w (by decide), e 36 hd (by decide), e 41 w (by decide)]
  refine ⟨⟨g1, g2, fun q _ => g3 q (by omega)⟩, fun s hs0 hs1 => ?_⟩
  obtain ⟨g5, g6⟩ := g4 s hs0 hs1
  rw [e 38 _ (by decide)]
  refine ⟨⟨by rw [e 37 _ (by decide), e 38 _ (by decide)]; exact g5.1, fun p hp0 hp1 => ?_⟩, fun q => g6 (by omega)⟩
  rw [e 38 _ (by decide)] at hp1
  obtain ⟨g7, g8⟩ := g5.2 p hp0 hp1
  rw [e 39 _ (by decide)]
  refine ⟨⟨g7.1, g7.2.1, ?_⟩, fun p' a b => ?_⟩
  · by_cases hk : 6 * (3 * w + s) + p = 6 * cur D hd + (D 38 (cur D hd) - 1)
    · rw [hk, up_same]; exact Or.inr rfl
    · rw [up_k _ _ _ _ hk]; exact g7.2.2
  · rw [e 39 _ (by decide)]
    exact g8 p' a b

