/-! ===== a book more on both shelves ===== -/
section
variable {I J : Nat → Int → Int} {L K : Nat → Int → BitVec 64} {R R2 : Nat → Int → Option Nat} {n n2 k : Nat} {D D' : Dr}
/-- the draft's arrays are the same where they are read -/
def agD (D D' : Dr) : Prop := (∀ w : Int, 0 ≤ w → w < 60 → D' 36 w = D 36 w ∧ (D' 41 w = 1 ↔ D 41 w = 1)) ∧ (∀ i : Int, 0 ≤ i → i < 180 → D' 37 i = D 37 i ∧ D' 38 i = D 38 i) ∧ ∀ i : Int, 0 ≤ i → i < 1080 → D' 39 i = D 39 i ∧ D' 40 i = D 40 i
theorem CB_D (h : agD D D') (hB : ∀ w : Int, 0 ≤ w → w < 60 → (0 ≤ D 36 w ∧ D 36 w ≤ 3) ∧ ∀ s : Int, 0 ≤ s → s < D 36 w → 0 ≤ D 38 (3 * w + s) ∧ D 38 (3 * w + s) ≤ 6) (hC : CB I L k D) : CB I L k D' := by
  have hss : ∀ (w s ag : Int), 0 ≤ w → w < 60 → 0 ≤ s → s < D 36 w → ss D' ag (3 * w + s) = ss D ag (3 * w + s) := fun w s ag w0 w1 s0 s1 => by
    have h1 := hB w w0 w1
    have h2 := h1.2 s s0 s1
    unfold ss
    rw [(h.2.1 (3 * w + s) (by omega) (by omega)).2]
    refine ss_cg2 _ (fun p hp => ?_)
    have := h.2.2 (6 * (3 * w + s) + p) (by omega) (by omega)
    exact ⟨this.2, this.1⟩
  have hwa : ∀ (w : Nat), w < 60 → waN D' w (D' 36 w).toNat = waN D w (D 36 w).toNat := fun w hw => by
    have h1 := hB w (by omega) (by omega)
    rw [(h.1 w (by omega) (by omega)).1, wa_sm, wa_sm]
    exact smK_cg _ (fun i hi => (h.2.1 (3 * w + i) (by omega) (by omega)).2)
  have hae : ∀ (w : Nat), w < 60 → aeN D' w (D' 36 w).toNat = aeN D w (D 36 w).toNat := fun w hw => by
    have h1 := hB w (by omega) (by omega)
    rw [(h.1 w (by omega) (by omega)).1, ae_sm, ae_sm]
    refine smK_cg _ (fun i hi => ?_)
    have h2 := h1.2 i (by omega) (by omega)
    show agN D' (3 * w + i) (D' 38 (3 * w + i)).toNat = agN D (3 * w + i) (D 38 (3 * w + i)).toNat
    rw [(h.2.1 (3 * w + i) (by omega) (by omega)).2]
    exact ag_cg (fun p hp => (h.2.2 (6 * (3 * w + i) + p) (by omega) (by omega)).2)
  obtain ⟨g1, g2, g3, g4⟩ := hC
  refine ⟨fun w w0 w1 => ⟨by rw [(h.1 w w0 w1).1]; exact (g1 w w0 w1).1, by rw [(h.1 w w0 w1).2]; exact (g1 w w0 w1).2⟩, g2, ⟨?_, ?_, ?_⟩, fun w s w0 w1 s0 s1 => ?_⟩
  · rw [g3.1, sn_sm, sn_sm]; exact smK_cg 60 (fun w hw => (h.1 w (by omega) (by omega)).1.symm)
  · rw [g3.2.1, wo_sm, wo_sm]; exact smK_cg 60 (fun w hw => (hwa w hw).symm)
  · rw [g3.2.2, ao_sm, ao_sm]; exact smK_cg 60 (fun w hw => (hae w hw).symm)
  · rw [(h.1 w w0 w1).1] at s1
    have h1 := hB w w0 w1
    have h2 := h1.2 s s0 s1
    have g5 := g4 w s w0 w1 s0 s1
    have h3 := h.2.1 (3 * w + s) (by omega) (by omega)
    rw [h3.1, h3.2, hss w s 1 w0 w1 s0 s1, hss w s 0 w0 w1 s0 s1]
    refine ⟨g5.1, fun p p0 p1 => ?_⟩
    rw [(h.2.2 (6 * (3 * w + s) + p) (by omega) (by omega)).1]
    exact g5.2 p p0 p1
/-- book k of the reference is the same -/
def bkE (I J : Nat → Int → Int) (k : Nat) : Prop := (J 33 k = I 33 k ∧ J 34 k = I 34 k ∧ J 35 k = I 35 k) ∧ (∀ w : Int, 0 ≤ w → w < 60 → J 36 (60 * k + w) = I 36 (60 * k + w)) ∧ (∀ i : Int, 0 ≤ i → i < 180 → J 37 (180 * k + i) = I 37 (180 * k + i) ∧ J 38 (180 * k + i) = I 38 (180 * k + i)) ∧ ∀ i : Int, 0 ≤ i → i < 1080 → J 39 (1080 * k + i) = I 39 (1080 * k + i) ∧ J 40 (1080 * k + i) = I 40 (1080 * k + i)
def RWk (I : Nat → Int → Int) (k : Nat) : Prop := (0 ≤ I 33 k ∧ I 33 k < 4 ∧ 0 ≤ I 34 k ∧ I 34 k < 4 ∧ I 33 k ≠ I 34 k ∧ 0 ≤ I 35 k ∧ I 35 k ≤ 999) ∧
    ∀ w : Int, 0 ≤ w → w < 60 → (0 ≤ I 36 (60 * k + w) ∧ I 36 (60 * k + w) ≤ 3) ∧
      ∀ s : Int, 0 ≤ s → s < I 36 (60 * k + w) → (-1 ≤ I 37 (3 * (60 * k + w) + s) ∧ I 37 (3 * (60 * k + w) + s) ≤ 5 ∧ 1 ≤ I 38 (3 * (60 * k + w) + s) ∧ I 38 (3 * (60 * k + w) + s) ≤ 6) ∧
        ∀ p : Int, 0 ≤ p → p < I 38 (3 * (60 * k + w) + s) → (0 ≤ I 39 (6 * (3 * (60 * k + w) + s) + p) ∧ I 39 (6 * (3 * (60 * k + w) + s) + p) < 60 ∧ (I 40 (6 * (3 * (60 * k + w) + s) + p) = 0 ∨ I 40 (6 * (3 * (60 * k + w) + s) + p) = 1)) ∧
          ∀ p' : Int, 0 ≤ p' → p' < p → I 39 (6 * (3 * (60 * k + w) + s) + p') ≠ I 39 (6 * (3 * (60 * k + w) + s) + p)
theorem RW_k (hW : RW I) (hk : (k : Int) < I 32 0) : RWk I k := hW.2.2.2.2.2 k hk
theorem bkE_i (h : bkE I J k) {w s : Int} (w0 : 0 ≤ w) (w1 : w < 60) (s0 : 0 ≤ s) (s1 : s < 3) : J 37 (3 * (60 * k + w) + s) = I 37 (3 * (60 * k + w) + s) ∧ J 38 (3 * (60 * k + w) + s) = I 38 (3 * (60 * k + w) + s) ∧ ∀ p : Int, 0 ≤ p → p < 6 → J 39 (6 * (3 * (60 * k + w) + s) + p) = I 39 (6 * (3 * (60 * k + w) + s) + p) ∧ J 40 (6 * (3 * (60 * k + w) + s) + p) = I 40 (6 * (3 * (60 * k + w) + s) + p) := by
  have h1 := h.2.2.1 (3 * w + s) (by omega) (by omega)
  rw [show 180 * (k : Int) + (3 * w + s) = 3 * (60 * k + w) + s by omega] at h1
  refine ⟨h1.1, h1.2, fun p p0 p1 => ?_⟩
  have h2 := h.2.2.2 (6 * (3 * w + s) + p) (by omega) (by omega)
  rw [show 1080 * (k : Int) + (6 * (3 * w + s) + p) = 6 * (3 * (60 * k + w) + s) + p by omega] at h2
  exact h2
theorem RWk_E (h : bkE I J k) (hW : RWk I k) : RWk J k := by
  refine ⟨by rw [h.1.1, h.1.2.1, h.1.2.2]; exact hW.1, fun w w0 w1 => ?_⟩
  have h1 := hW.2 w w0 w1
  rw [h.2.1 w w0 w1]
  refine ⟨h1.1, fun s s0 s1 => ?_⟩
  have h2 := h1.2 s s0 s1
  have h3 := bkE_i h w0 w1 s0 (show s < 3 by omega)
  rw [h3.1, h3.2.1]
  refine ⟨h2.1, fun p p0 p1 => ?_⟩
  have h4 := h2.2 p p0 p1
  have h5 := h3.2.2 p p0 (by omega)
  rw [h5.1, h5.2]
  refine ⟨h4.1, fun p' q0 q1 => ?_⟩
  rw [(h3.2.2 p' q0 (by omega)).1]
  exact h4.2 p' q0 q1
theorem shf_ag (h : bkE I J k) : agD (shf I k) (shf J k) := by
  refine ⟨fun w w0 w1 => ?_, fun i i0 i1 => ⟨(h.2.2.1 i i0 i1).1, (h.2.2.1 i i0 i1).2⟩, fun i i0 i1 => ⟨(h.2.2.2 i i0 i1).1, (h.2.2.2 i i0 i1).2⟩⟩
  have h1 := h.2.1 w w0 w1
  refine ⟨h1, ?_⟩
  show (if 0 < J 36 (60 * k + w) then (1 : Int) else 0) = 1 ↔ (if 0 < I 36 (60 * k + w) then (1 : Int) else 0) = 1
  rw [h1]
theorem shf_B (hW : RWk I k) : ∀ w : Int, 0 ≤ w → w < 60 → (0 ≤ shf I k 36 w ∧ shf I k 36 w ≤ 3) ∧ ∀ s : Int, 0 ≤ s → s < shf I k 36 w → 0 ≤ shf I k 38 (3 * w + s) ∧ shf I k 38 (3 * w + s) ≤ 6 := fun w w0 w1 => by
  have h1 := hW.2 w w0 w1
  refine ⟨h1.1, fun s s0 s1 => ?_⟩
  have h2 := (h1.2 s s0 s1).1
  have e : shf I k 38 (3 * w + s) = I 38 (3 * (60 * k + w) + s) := by show I 38 (180 * k + (3 * w + s)) = _; congr 1; omega
  rw [e]; omega
/-- book k of the class stands as it stood -/
theorem BR_E (h : bkE I J k) (hW : RWk I k) (hI : ∀ (o : Nat) (z : Int), 57 + 7 * k ≤ o → o < 57 + 7 * k + 7 → J o z = I o z) (hL : ∀ (o : Nat) (z : Int), 57 + 7 * k ≤ o → o < 57 + 7 * k + 7 → K o z = L o z) (hR5 : R2 5 k = R 5 k) (hRb : ∀ z, R2 (57 + 7 * k) z = R (57 + 7 * k) z) (hn : n ≤ n2) (hB : BR I L R n k) : BR J K R2 n2 k := by
  obtain ⟨h1, h2, h3, h4, h5, h6, h7⟩ := hB
  refine ⟨by rw [hR5]; exact h1, ?_, by omega, ?_, ?_, ?_, ?_⟩
  · unfold Bk at h2 ⊢; simp only [hRb]; exact h2
  · rw [hI _ _ (by omega) (by omega), h.1.1]; exact h4
  · rw [hI _ _ (by omega) (by omega), h.1.2.1]; exact h5
  · rw [hI _ _ (by omega) (by omega), h.1.2.2]; exact h6
  · exact CB_D (shf_ag h) (shf_B hW) (CB_cg hI hL h7)
/-- the draft that was read is the reference's new book -/
theorem new_ag {hd : Int} (hR : RDr J k D) (h36 : R36 J k D) (hM : MI 0 hd D) : agD D (shf J k) := by
  refine ⟨fun w w0 w1 => ?_, fun i i0 i1 => hR.1 i i0 i1, fun i i0 i1 => hR.2 i i0 i1⟩
  have h1 := h36 w w0 w1
  obtain ⟨⟨g1, g2, g3⟩, _⟩ := hM.2.2.2.2.2 w w0 w1
  refine ⟨h1, ?_⟩
  show (if 0 < J 36 (60 * k + w) then (1 : Int) else 0) = 1 ↔ D 41 w = 1
  rw [h1]
  constructor
  · intro q
    split at q
    · rename_i h2; exact g2 h2
    · omega
  · intro q
    rw [if_pos (g3 q (by omega))]
theorem new_RW {hd a b day : Int} (hR : RDr J k D) (h36 : R36 J k D) (hM : MI 0 hd D) (ha : J 33 k = a) (hb : J 34 k = b) (hd' : J 35 k = day) (hok : okBook (k : Int) a b day) : RWk J k := by
  refine ⟨by rw [ha, hb, hd']; omega, fun w w0 w1 => ?_⟩
  obtain ⟨⟨g1, g2, g3⟩, g4⟩ := hM.2.2.2.2.2 w w0 w1
  rw [h36 w w0 w1]
  refine ⟨⟨g1.1, g1.2.1⟩, fun s s0 s1 => ?_⟩
  obtain ⟨g5, g6⟩ := g4 s s0 s1
  have g7 := g6 (by omega)
  have h1 := hR.1 (3 * w + s) (by omega) (by omega)
  rw [show 180 * (k : Int) + (3 * w + s) = 3 * (60 * k + w) + s by omega] at h1
  have g8 := g5.1
  have hp : ∀ p : Int, 0 ≤ p → p < 6 → J 39 (6 * (3 * (60 * k + w) + s) + p) = D 39 (6 * (3 * w + s) + p) ∧ J 40 (6 * (3 * (60 * k + w) + s) + p) = D 40 (6 * (3 * w + s) + p) := fun p p0 p1 => by
    have h2 := hR.2 (6 * (3 * w + s) + p) (by omega) (by omega)
    rw [show 1080 * (k : Int) + (6 * (3 * w + s) + p) = 6 * (3 * (60 * k + w) + s) + p by omega] at h2
    exact h2
  rw [h1.1, h1.2]
  refine ⟨by omega, fun p p0 p1 => ?_⟩
  obtain ⟨g9, g10⟩ := g5.2 p p0 p1
  have h3 := hp p p0 (by omega)
  rw [h3.1, h3.2]
  refine ⟨g9, fun p' q0 q1 => ?_⟩
  rw [(hp p' q0 (by omega)).1]
  exact g10 p' q0 q1
theorem D_B {nx hd : Int} (hM : MI nx hd D) : ∀ w : Int, 0 ≤ w → w < 60 → (0 ≤ D 36 w ∧ D 36 w ≤ 3) ∧ ∀ s : Int, 0 ≤ s → s < D 36 w → 0 ≤ D 38 (3 * w + s) ∧ D 38 (3 * w + s) ≤ 6 := fun w w0 w1 => by
  have h1 := hM.w w0 w1
  refine ⟨⟨h1.1, h1.2.1⟩, fun s s0 s1 => ?_⟩
  have h2 := (hM.s w0 w1 s0 s1).1
  omega
/-- an empty draft -/
theorem CB_0 {kb : Int} (hz : ∀ w : Int, 0 ≤ w → w < 60 → J (57 + 7 * k + 1) w = 0) (hL : K (57 + 7 * k) 3 = 0#64) (h4 : J (57 + 7 * k) 4 = 0 ∧ J (57 + 7 * k) 5 = 0 ∧ J (57 + 7 * k) 6 = 0) : CB J K k (dr0 I kb) := by
  have h36 : ∀ w, dr0 I kb 36 w = 0 := fun w => rfl
  have h41 : ∀ w, dr0 I kb 41 w = 0 := fun w => rfl
  have z0 : ∀ (f : Nat → Int) (j : Nat), (∀ i, f i = 0) → smK f j = 0 := fun f j hf => by
    induction j with
    | zero => rfl
    | succ j ih => simp only [smK]; rw [ih, hf]; rfl
  refine ⟨fun w w0 w1 => ⟨by rw [h36]; exact hz w w0 w1, by rw [hL, h41]; simp⟩, fun i hi => by rw [hL]; simp, ⟨?_, ?_, ?_⟩, fun w s w0 w1 s0 s1 => by rw [h36] at s1; omega⟩
  · rw [h4.1, sn_sm]; exact (z0 _ 60 (fun i => h36 i)).symm
  · rw [h4.2.1, wo_sm]; exact (z0 _ 60 (fun i => by show waN _ _ (dr0 I kb 36 i).toNat = 0; rw [h36]; rfl)).symm
  · rw [h4.2.2, ao_sm]; exact (z0 _ 60 (fun i => by show aeN _ _ (dr0 I kb 36 i).toNat = 0; rw [h36]; rfl)).symm
end

