/-! ===== the class: promise 14 ===== -/
section
variable {I : Nat → Int → Int} {L : Nat → Int → BitVec 64} {R : Nat → Int → Option Nat} {n k : Nat} {m : Mm} {Q : Option AV → Mm → Prop}
theorem ite_bit {c : Prop} [Decidable c] {s : BitVec 64} {i : Nat} : (if c then s else 0#64).getLsbD i = true ↔ c ∧ s.getLsbD i = true := by
  by_cases h : c
  · rw [if_pos h]; simp [h]
  · rw [if_neg h]; simp [h]
theorem or_bit {s t : BitVec 64} {i : Nat} : (s ||| t).getLsbD i = true ↔ s.getLsbD i = true ∨ t.getLsbD i = true := by
  rw [BitVec.getLsbD_or, Bool.or_eq_true]
theorem and_bit {s t : BitVec 64} {i : Nat} : (s &&& t).getLsbD i = true ↔ s.getLsbD i = true ∧ t.getLsbD i = true := by
  rw [BitVec.getLsbD_and, Bool.and_eq_true]
theorem not_bit {s : BitVec 64} {i : Nat} (hi : i < 64) : (s ^^^ 18446744073709551615#64).getLsbD i = true ↔ ¬ s.getLsbD i = true := by
  rw [show (18446744073709551615#64 : BitVec 64) = BitVec.allOnes 64 from rfl, BitVec.getLsbD_xor, BitVec.getLsbD_allOnes]
  cases s.getLsbD i <;> simp [hi]
theorem ne0_bit {s : BitVec 64} : ¬ s = 0#64 ↔ ∃ i : Nat, i < 64 ∧ s.getLsbD i = true :=
  ⟨bv_ne0, fun ⟨_, _, h⟩ => bv_ne0' h⟩
theorem one_bit {w i : Nat} (hw : w < 64) : (1#64 <<< w).getLsbD i = true ↔ i = w := by rw [shl1_bit w i hw]; simp
theorem bv_ext {s t : BitVec 64} (h : ∀ i : Nat, i < 64 → (s.getLsbD i = true ↔ t.getLsbD i = true)) : s = t := by
  apply BitVec.eq_of_getLsbD_eq
  intro i hi
  rw [Bool.eq_iff_iff]
  exact h i hi
theorem nrN_bit {lk a w b : Int} {x : Nat} (hx : x < 60) (i : Nat) : ∀ k : Nat, k ≤ 60 → ((nrN I lk a w b x k).getLsbD i = true ↔ i = x ∨ (i < k ∧ (gv I lk a w b).getLsbD i = true ∧ ¬ miX I lk a w b x &&& gv I lk b i a = 0#64))
  | 0, _ => by simp only [nrN]; rw [one_bit (by omega)]; simp
  | k + 1, hk => by
    simp only [nrN]
    rw [or_bit, nrN_bit hx i k (by omega), ite_bit, one_bit (by omega)]
    constructor
    · rintro ((h | h) | ⟨h, rfl⟩)
      · exact Or.inl h
      · exact Or.inr ⟨by omega, h.2⟩
      · exact Or.inr ⟨by omega, h⟩
    · rintro (h | ⟨h1, h⟩)
      · exact Or.inl (Or.inl h)
      · by_cases hik : i = k
        · subst hik; exact Or.inr ⟨h, rfl⟩
        · exact Or.inl (Or.inr ⟨by omega, h⟩)
theorem nsN_bit {lk a w b : Int} {x : Nat} (hx : x < 60) (i : Nat) : ∀ k : Nat, ((nsN I lk a w b x k).getLsbD i = true ↔ (nrN I lk a w b x 60).getLsbD i = true ∨ ∃ j : Nat, j < k ∧ (ss I (I 32 10) (3 * ent I lk a w b + j)).getLsbD x = true ∧ (ss I (I 32 10) (3 * ent I lk a w b + j)).getLsbD i = true)
  | 0 => by simp [nsN]
  | k + 1 => by
    simp only [nsN]
    rw [or_bit, nsN_bit hx i k, ite_bit]
    constructor
    · rintro ((h | ⟨j, hj, h⟩) | h)
      · exact Or.inl h
      · exact Or.inr ⟨j, by omega, h⟩
      · exact Or.inr ⟨k, by omega, h⟩
    · rintro (h | ⟨j, hj, h⟩)
      · exact Or.inl (Or.inl h)
      · by_cases hjk : j = k
        · subst hjk; exact Or.inr h
        · exact Or.inl (Or.inr ⟨j, by omega, h⟩)
theorem gaN_bit {lk a b : Int} {s : BitVec 64} (i : Nat) : ∀ k : Nat, (gaN I lk a s b k).getLsbD i = true ↔ ∃ x : Nat, x < k ∧ s.getLsbD x = true ∧ (gv I lk a x b).getLsbD i = true
  | 0 => by simp [gaN]
  | k + 1 => by
    simp only [gaN]
    rw [or_bit, gaN_bit i k, ite_bit]
    constructor
    · rintro (⟨x, hx, h⟩ | h)
      · exact ⟨x, by omega, h⟩
      · exact ⟨k, by omega, h⟩
    · rintro ⟨x, hx, h⟩
      by_cases hxk : x = k
      · subst hxk; exact Or.inr h
      · exact Or.inl ⟨x, by omega, h⟩
theorem shN_bit {e : Int} {s : BitVec 64} (i : Nat) : ∀ k : Nat, (shN I e s k).getLsbD i = true ↔ ∃ j : Nat, j < k ∧ ¬ sst I (I 32 10) e j &&& s = 0#64 ∧ (sst I (I 32 10) e j).getLsbD i = true
  | 0 => by simp [shN]
  | k + 1 => by
    simp only [shN]
    have hit : (if sst I (I 32 10) e k &&& s = 0#64 then 0#64 else sst I (I 32 10) e k).getLsbD i = true ↔ ¬ sst I (I 32 10) e k &&& s = 0#64 ∧ (sst I (I 32 10) e k).getLsbD i = true := by
      by_cases h : sst I (I 32 10) e k &&& s = 0#64
      · rw [if_pos h]; simp [h]
      · rw [if_neg h]; simp [h]
    rw [or_bit, shN_bit i k, hit]
    constructor
    · rintro (⟨x, hx, h⟩ | h)
      · exact ⟨x, by omega, h⟩
      · exact ⟨k, by omega, h⟩
    · rintro ⟨x, hx, h⟩
      by_cases hxk : x = k
      · subst hxk; exact Or.inr h
      · exact Or.inl ⟨x, by omega, h⟩
theorem geN_bit {ag e : Int} (i : Nat) : ∀ k : Nat, (geN I ag e k).getLsbD i = true ↔ ∃ j : Nat, j < k ∧ (ss I ag (3 * e + j)).getLsbD i = true
  | 0 => by simp [geN]
  | k + 1 => by
    simp only [geN]
    rw [or_bit, geN_bit i k]
    constructor
    · rintro (⟨x, hx, h⟩ | h)
      · exact ⟨x, by omega, h⟩
      · exact ⟨k, by omega, h⟩
    · rintro ⟨x, hx, h⟩
      by_cases hxk : x = k
      · subst hxk; exact Or.inr h
      · exact Or.inl ⟨x, by omega, h⟩
/-- what the class widens a group to -/
def wid (I : Nat → Int → Int) (lk a w b : Int) (g : BitVec 64) : BitVec 64 := (g ||| shr' I lk a w b g) ||| gsN I lk b (gv I lk a w b &&& ((g ||| shr' I lk a w b g) ^^^ 18446744073709551615#64)) a (gaN I lk b g a 60 &&& (onlyW w ^^^ 18446744073709551615#64)) 60
theorem shr_bit (hW : RW I) {lk a w b : Int} (h0 : 0 ≤ w) (h1 : w < 60) (g : BitVec 64) (hg : ∀ i : Nat, 60 ≤ i → g.getLsbD i = false) (i : Nat) : (shr' I lk a w b g).getLsbD i = true ↔ ∃ x : Nat, x < 60 ∧ g.getLsbD x = true ∧ ∃ j : Nat, j < cntE I (ent I lk a w b) ∧ (ss I (I 32 10) (3 * ent I lk a w b + j)).getLsbD x = true ∧ (ss I (I 32 10) (3 * ent I lk a w b + j)).getLsbD i = true := by
  have hE := hW.entOk (lk := lk) (a := a) (b := b) h0 h1
  unfold shr' cntE
  generalize ent I lk a w b = e at hE ⊢
  by_cases he : e < 0
  · rw [if_pos he, if_pos he]; simp
  · rw [if_neg he, if_neg he, shN_bit]
    have hE' : EOk I e := hE.resolve_left (by omega)
    have hc := hE'.1
    constructor
    · rintro ⟨j, hj, hne, hb⟩
      obtain ⟨x, hx, hxb⟩ := ne0_bit.mp hne
      rw [and_bit] at hxb
      unfold sst at hxb hb
      rw [ite_bit] at hxb hb
      have hx60 : x < 60 := by
        rcases Nat.lt_or_ge x 60 with h | h
        · exact h
        · rw [hg x h] at hxb; cases hxb.2
      exact ⟨x, hx60, hxb.2, j, by omega, hxb.1.2, hb.2⟩
    · rintro ⟨x, hx, hgx, j, hj, h3, h4⟩
      have hjj : (0 : Int) ≤ j ∧ (j : Int) < I 36 e := ⟨by omega, by omega⟩
      refine ⟨j, by omega, ?_, ?_⟩
      · unfold sst; rw [if_pos hjj]
        exact ne0_bit.mpr ⟨x, by omega, and_bit.mpr ⟨h3, hgx⟩⟩
      · unfold sst; rw [if_pos hjj]; exact h4
theorem ss_gv (hW : RW I) {lk a w b : Int} {j i : Nat} (hj : j < cntE I (ent I lk a w b)) (h : (ss I (I 32 10) (3 * ent I lk a w b + j)).getLsbD i = true) : (gv I lk a w b).getLsbD i = true := by
  unfold gv ge
  unfold cntE at hj
  by_cases he : ent I lk a w b < 0
  · rw [if_pos he] at hj; omega
  · rw [if_neg he] at hj
    rw [if_neg he]
    exact (geN_bit i _).mpr ⟨j, hj, h⟩
theorem wid_ex (hW : RW I) {lk a w b : Int} (h0 : 0 ≤ w) (h1 : w < 60) {g : BitVec 64} (hg : ∀ i : Nat, 60 ≤ i → g.getLsbD i = false) (hs : ∀ i : Nat, g.getLsbD i = true → (gv I lk a w b).getLsbD i = true) : wid I lk a w b g = exN (nbr I lk a w b) g g 60 := by
  have hgv := gv60 hW lk a b h0 h1
  apply bv_ext
  intro i hi
  unfold wid
  rw [exN_bit, or_bit, or_bit, gsN_bit _ _ _ _ _ _ _ (by omega), shr_bit hW h0 h1 g hg, and_bit, not_bit hi, or_bit, shr_bit hW h0 h1 g hg]
  have hmi : ∀ x : Nat, x < 60 → g.getLsbD x = true → ((nbr I lk a w b x).getLsbD i = true ↔ i = x ∨ (i < 60 ∧ (gv I lk a w b).getLsbD i = true ∧ ¬ (gv I lk b x a &&& (1#64 <<< w.toNat ^^^ 18446744073709551615#64)) &&& gv I lk b i a = 0#64) ∨ ∃ j : Nat, j < cntE I (ent I lk a w b) ∧ (ss I (I 32 10) (3 * ent I lk a w b + j)).getLsbD x = true ∧ (ss I (I 32 10) (3 * ent I lk a w b + j)).getLsbD i = true) := by
    intro x hx hgx
    unfold nbr
    rw [nsN_bit hx, nrN_bit hx i 60 (by omega)]
    unfold miX
    rw [if_pos (hs x hgx), or_assoc]
  constructor
  · rintro ((h | ⟨x, hx, hgx, h⟩) | ⟨hi60, ⟨hgi, _⟩, hne⟩)
    · exact Or.inl h
    · exact Or.inr ⟨x, hx, hgx, (hmi x hx hgx).mpr (Or.inr (Or.inr h))⟩
    · obtain ⟨y, hy, hyb⟩ := ne0_bit.mp hne
      rw [and_bit, and_bit, gaN_bit, onlyW_t h0 h1] at hyb
      obtain ⟨hy1, ⟨x, hx, hgx, hxy⟩, hy3⟩ := hyb
      refine Or.inr ⟨x, hx, hgx, (hmi x hx hgx).mpr (Or.inr (Or.inl ⟨hi60, hgi, ?_⟩))⟩
      exact ne0_bit.mpr ⟨y, hy, and_bit.mpr ⟨and_bit.mpr ⟨hxy, hy3⟩, hy1⟩⟩
  · rintro (h | ⟨x, hx, hgx, h⟩)
    · exact Or.inl (Or.inl h)
    · by_cases hin : g.getLsbD i = true ∨ ∃ x : Nat, x < 60 ∧ g.getLsbD x = true ∧ ∃ j : Nat, j < cntE I (ent I lk a w b) ∧ (ss I (I 32 10) (3 * ent I lk a w b + j)).getLsbD x = true ∧ (ss I (I 32 10) (3 * ent I lk a w b + j)).getLsbD i = true
      · exact Or.inl hin
      · rcases (hmi x hx hgx).mp h with rfl | ⟨hi60, hgi, hne⟩ | h
        · exact absurd (Or.inl hgx) hin
        · obtain ⟨y, hy, hyb⟩ := ne0_bit.mp hne
          rw [and_bit, and_bit] at hyb
          refine Or.inr ⟨hi60, ⟨hgi, hin⟩, ne0_bit.mpr ⟨y, hy, and_bit.mpr ⟨hyb.2, and_bit.mpr ⟨(gaN_bit y 60).mpr ⟨x, hx, hgx, hyb.1.1⟩, ?_⟩⟩⟩⟩
          rw [onlyW_t h0 h1]; exact hyb.1.2
        · exact Or.inl (Or.inr ⟨x, hx, hgx, h⟩)
theorem ex_sub (hW : RW I) {lk a w b : Int} (h0 : 0 ≤ w) (h1 : w < 60) {g : BitVec 64} (hg : ∀ i : Nat, 60 ≤ i → g.getLsbD i = false) (hs : ∀ i : Nat, g.getLsbD i = true → (gv I lk a w b).getLsbD i = true) : ∀ i : Nat, (wid I lk a w b g).getLsbD i = true → (gv I lk a w b).getLsbD i = true := by
  intro i hb
  unfold wid at hb
  rw [or_bit, or_bit, gsN_bit _ _ _ _ _ _ _ (by omega), shr_bit hW h0 h1 g hg, and_bit] at hb
  rcases hb with (h | ⟨x, hx, hgx, j, hj, h3, h4⟩) | ⟨_, h, _⟩
  · exact hs i h
  · exact ss_gv hW hj h4
  · exact h.1
/-- where the class's group stands behind k rounds -/
def gst (nb : Nat → BitVec 64) (G : BitVec 64) (t k : Nat) (g : BitVec 64) (gr : Int) : Prop := grw nb t g ∧ (∀ i : Nat, g.getLsbD i = true → G.getLsbD i = true) ∧ ((gr = 1 ∧ (k : Int) + 1 ≤ pcN g 60) ∨ (gr = 0 ∧ exN nb g g 60 = g))
theorem gst_0 {nb : Nat → BitVec 64} {G : BitVec 64} {t : Nat} (ht : t < 60) (hG : G.getLsbD t = true) : gst nb G t 0 (1#64 <<< t) 1 := by
  refine ⟨⟨(one_bit (by omega)).mpr rfl, shl60 ht, fun i _ h => ?_⟩, fun i h => ?_, Or.inl ⟨rfl, ?_⟩⟩
  · rw [one_bit (by omega)] at h; subst h; exact fun S _ h2 => h2
  · rw [one_bit (by omega)] at h; subst h; exact hG
  · have h := pcN_strict (s := 0#64) (t := 1#64 <<< t) (fun i _ h => by simp at h) (j := t) (by simp) ((one_bit (by omega)).mpr rfl) 60 (by omega) ht
    have h2 := pcN_B 0#64 60
    omega
theorem gst_g {nb : Nat → BitVec 64} {G g g' : BitVec 64} {t k : Nat} (hn : ∀ x : Nat, x < 60 → ∀ i : Nat, 60 ≤ i → (nb x).getLsbD i = false) (h : gst nb G t k g 1) (he : g' = exN nb g g 60) (hs : ∀ i : Nat, g'.getLsbD i = true → G.getLsbD i = true) (hne : ¬ g' = g) : gst nb G t (k + 1) g' 1 := by
  subst he
  refine ⟨grw_ex hn h.1, hs, Or.inl ⟨rfl, ?_⟩⟩
  obtain ⟨i, hi, hd⟩ := bv_diff hne
  have hg60 := h.1.2.1
  have h60 := exN60 (had := g) hn hg60 60 (by omega)
  have hi60 : i < 60 := by
    rcases Nat.lt_or_ge i 60 with h2 | h2
    · exact h2
    · exact absurd (by rw [h60 i h2, hg60 i h2]) hd
  have hsub : ∀ i : Nat, i < 60 → g.getLsbD i = true → (exN nb g g 60).getLsbD i = true := fun i _ hb => (exN_bit nb g g i 60).mpr (Or.inl hb)
  have hgi : g.getLsbD i = false := by
    cases hc : g.getLsbD i with
    | false => rfl
    | true => exact absurd (by rw [hsub i hi60 hc, hc]) hd
  have hei : (exN nb g g 60).getLsbD i = true := by
    cases hc : (exN nb g g 60).getLsbD i with
    | true => rfl
    | false => exact absurd (by rw [hc, hgi]) hd
  have h3 := pcN_strict hsub hgi hei 60 (by omega) hi60
  rcases h.2.2 with h4 | h4
  · have := h4.2
    push_cast
    omega
  · exact absurd h4.1 (by decide)
theorem gst_e {nb : Nat → BitVec 64} {G g g' : BitVec 64} {t k : Nat} {gr : Int} (h : gst nb G t k g gr) (he : g' = exN nb g g 60) (hee : g' = g) : gst nb G t (k + 1) g' 0 := by
  subst hee
  exact ⟨h.1, h.2.1, Or.inr ⟨rfl, he.symm⟩⟩
theorem gst_d {nb : Nat → BitVec 64} {G g : BitVec 64} {t k : Nat} {gr : Int} (h : gst nb G t k g gr) (hk : gr = 0 ∨ k = 60) : ∀ i : Nat, i < 60 → g.getLsbD i = cloB nb t i := by
  refine grw_done h.1 ?_
  rcases h.2.2 with h2 | h2
  · exfalso
    have := pcN_B g 60
    have h3 := h2.2
    have h4 := h2.1
    rcases hk with hk | hk
    · omega
    · subst hk; omega
  · exact h2.2
theorem gst_1 {nb : Nat → BitVec 64} {G g : BitVec 64} {t k : Nat} {gr : Int} (h : gst nb G t k g gr) : gr = 0 ∨ gr = 1 := by
  rcases h.2.2 with h2 | h2
  · exact Or.inr h2.1
  · exact Or.inl h2.1
theorem ct_X11_groupOf {a w b t : Int} (hS : ShR I L R n) (ha : inR a) (h0 : 0 ≤ w) (h1 : w < 60) (hb : inR b) (ht0 : 0 ≤ t) (ht1 : t < 60) (hG : (gv I 255 a w b).getLsbD t.toNat = true) (hq : ∀ g : BitVec 64, (∀ i : Nat, i < 60 → g.getLsbD i = cloB (nbr I 255 a w b) t.toNat i) → Q (some (vl g)) (I, L, R, n)) : Wp mX11_groupOf 0 [some (vr (some 0)), some (vi a), some (vi w), some (vi b), some (vi t), none, none, none, none, none, none, none, none, none, none] [] (I, L, R, n) (0, 0) Q := by
  have hn := hS.1
  have hW := hS.2.2.1
  have hFx := hS.2.1
  have lp : ∀ (tt k : Nat) (z : Int) (g : BitVec 64) (gr : Int) (x11 : Option AV) (x13 : Option AV), k + tt = 60 → z = k → gst (nbr I 255 a w b) (gv I 255 a w b) t.toNat k g gr → Wp mX11_groupOf 25 [some (vr (some 0)), some (vi a), some (vi w), some (vi b), some (vi t), some (vl (gv I 255 a w b)), none, some (vl g), none, some (vi gr), some (vi z), x11, none, x13, none] [] (I, L, R, n) (0, 0) Q := by
    intro tt
    induction tt with
    | zero =>
      intro k z g gr x11 x13 hkt hz e0
      obtain rfl : k = 60 := by omega
      refine Wp.iload rfl dX11_groupOf_25 ?_
      refine Wp.bipush rfl dX11_groupOf_27 ?_
      refine Wp.icmp_ge (tgt := 126) dX11_groupOf_29 (by decide) (by first | omega | exact bI_R _ | exact cmp_R _ _ | assumption) (by first | omega | exact bI_R _ | exact cmp_R _ _ | assumption) (fun c29 => ?_) (fun c29 => ?_)
      · refine Wp.lload rfl dX11_groupOf_126 ?_
        refine Wp.lreturn dX11_groupOf_128 rfl ?_
        first | (exfalso; omega) | (exact hq g (gst_d e0 (Or.inr rfl)))
      · exfalso; omega
    | succ tt ih =>
      intro k z g gr x11 x13 hkt hz e0
      subst hz
      have h01 := gst_1 e0
      have hwe := wid_ex hW h0 h1 e0.1.2.1 e0.2.1
      have hws := ex_sub hW h0 h1 e0.1.2.1 e0.2.1
      have hn60 : ∀ x : Nat, x < 60 → ∀ i : Nat, 60 ≤ i → (nbr I 255 a w b x).getLsbD i = false := fun x hx => nbr60 hW h0 h1 hx
      clear hG
      refine Wp.iload rfl dX11_groupOf_25 ?_
      refine Wp.bipush rfl dX11_groupOf_27 ?_
      refine Wp.icmp_ge (tgt := 126) dX11_groupOf_29 (by decide) (by first | omega | exact bI_R _ | exact cmp_R _ _ | assumption) (by first | omega | exact bI_R _ | exact cmp_R _ _ | assumption) (fun c29 => ?_) (fun c29 => ?_)
      · first | (exfalso; omega) | exact Wp.lload rfl dX11_groupOf_126 (Wp.lreturn dX11_groupOf_128 rfl (hq g (gst_d e0 (Or.inl c34))))
      · refine Wp.iload rfl dX11_groupOf_32 ?_
        refine Wp.if_eq (tgt := 126) dX11_groupOf_34 (by decide) (by first | omega | exact bI_R _ | exact cmp_R _ _ | assumption) (fun c34 => ?_) (fun c34 => ?_)
        · first | (exfalso; omega) | exact Wp.lload rfl dX11_groupOf_126 (Wp.lreturn dX11_groupOf_128 rfl (hq g (gst_d e0 (Or.inl c34))))
        · refine Wp.lload rfl dX11_groupOf_37 ?_
          refine Wp.aload_n rfl dX11_groupOf_39 ?_
          refine Wp.gr (kz := 2) rfl dX11_groupOf_40 fkX11_26 (by first | rfl | exact kd_b0 _ | exact kd_b1 _ | exact kd_b2 _ | exact kd_b3 _ | exact kd_b4 _ | exact kd_b5 _ | exact kd_b6 _) (by omega) (by first | exact hFx _ 2 _ rfl | assumption | exact hBk.1 | exact hBk.2.1 | exact hBk.2.2.1 | exact hBk.2.2.2.1 | exact hBk.2.2.2.2.1 | exact hBk.2.2.2.2.2) ?_
          refine Wp.iload_n rfl dX11_groupOf_43 ?_
          refine Wp.iload_n rfl dX11_groupOf_44 ?_
          refine Wp.iload_n rfl dX11_groupOf_45 ?_
          refine Wp.lload rfl dX11_groupOf_46 ?_
          refine Wp.callV (As := [_, _, _, _]) (ls0 := [_, _, _, _, _, _, _, _, _, _, _, _]) (bd := (0, 0)) (bd' := (0, 0)) dX11_groupOf_48 kmX8_sharingSense lkX11_219 (by decide) (by decide) (Nat.le_of_ble_eq_true rfl) (by first | rfl | exact kd_b0 _ | exact kd_b1 _ | exact kd_b2 _ | exact kd_b3 _ | exact kd_b4 _ | exact kd_b5 _ | exact kd_b6 _) (by omega) rfl rfl (Nat.le_of_ble_eq_true rfl) rfl ?_
          refine ct_X8_sharingSense hS (by omega) (by omega) (by omega) (by omega) ?_
          show Wp _ _ _ (_ :: _) _ _ _
          refine Wp.lor dX11_groupOf_51 ?_
          refine Wp.lstore (ls' := [_, _, _, _, _, _, _, _, _, _, _, _, _, _, _]) dX11_groupOf_52 (by decide) rfl ?_
          refine Wp.aload_n rfl dX11_groupOf_54 ?_
          refine Wp.gr (kz := 2) rfl dX11_groupOf_55 fkX11_26 (by first | rfl | exact kd_b0 _ | exact kd_b1 _ | exact kd_b2 _ | exact kd_b3 _ | exact kd_b4 _ | exact kd_b5 _ | exact kd_b6 _) (by omega) (by first | exact hFx _ 2 _ rfl | assumption | exact hBk.1 | exact hBk.2.1 | exact hBk.2.2.1 | exact hBk.2.2.2.1 | exact hBk.2.2.2.2.1 | exact hBk.2.2.2.2.2) ?_
          refine Wp.iload_n rfl dX11_groupOf_58 ?_
          refine Wp.lload rfl dX11_groupOf_59 ?_
          refine Wp.iload_n rfl dX11_groupOf_61 ?_
          refine Wp.callV (As := [_, _, _]) (ls0 := [_, _, _, _, _, _, _, _]) (bd := (0, 0)) (bd' := (0, 0)) dX11_groupOf_62 kmX8_givenByAll lkX11_215 (by decide) (by decide) (Nat.le_of_ble_eq_true rfl) (by first | rfl | exact kd_b0 _ | exact kd_b1 _ | exact kd_b2 _ | exact kd_b3 _ | exact kd_b4 _ | exact kd_b5 _ | exact kd_b6 _) (by omega) rfl rfl (Nat.le_of_ble_eq_true rfl) rfl ?_
          refine ct_X8_givenByAll hS (by omega) (by omega) ?_
          show Wp _ _ _ (_ :: _) _ _ _
          refine Wp.iload_n rfl dX11_groupOf_65 ?_
          refine Wp.callS (As := [_]) (ls0 := [_]) (bd := (0, 0)) (bd' := (0, 0)) dX11_groupOf_66 kmX11_only lkX11_189 (by decide) (by decide) (Nat.le_of_ble_eq_true rfl) rfl rfl (Nat.le_of_ble_eq_true rfl) rfl ?_
          refine ct_X11_only (by omega) ?_
          show Wp _ _ _ (_ :: _) _ _ _
          refine Wp.ldc2_w (b := 18446744073709551615#64) ckX11_206 rfl dX11_groupOf_69 ?_
          refine Wp.lxor dX11_groupOf_72 ?_
          refine Wp.land dX11_groupOf_73 ?_
          refine Wp.lstore (ls' := [_, _, _, _, _, _, _, _, _, _, _, _, _, _, _]) dX11_groupOf_74 (by decide) rfl ?_
          refine Wp.lload rfl dX11_groupOf_76 ?_
          refine Wp.aload_n rfl dX11_groupOf_78 ?_
          refine Wp.gr (kz := 2) rfl dX11_groupOf_79 fkX11_26 (by first | rfl | exact kd_b0 _ | exact kd_b1 _ | exact kd_b2 _ | exact kd_b3 _ | exact kd_b4 _ | exact kd_b5 _ | exact kd_b6 _) (by omega) (by first | exact hFx _ 2 _ rfl | assumption | exact hBk.1 | exact hBk.2.1 | exact hBk.2.2.1 | exact hBk.2.2.2.1 | exact hBk.2.2.2.2.1 | exact hBk.2.2.2.2.2) ?_
          refine Wp.iload_n rfl dX11_groupOf_82 ?_
          refine Wp.lload rfl dX11_groupOf_83 ?_
          refine Wp.lload rfl dX11_groupOf_85 ?_
          refine Wp.ldc2_w (b := 18446744073709551615#64) ckX11_206 rfl dX11_groupOf_87 ?_
          refine Wp.lxor dX11_groupOf_90 ?_
          refine Wp.land dX11_groupOf_91 ?_
          refine Wp.iload_n rfl dX11_groupOf_92 ?_
          refine Wp.lload rfl dX11_groupOf_93 ?_
          refine Wp.callV (As := [_, _, _, _]) (ls0 := [_, _, _, _, _, _, _, _, _, _]) (bd := (0, 0)) (bd' := (0, 0)) dX11_groupOf_95 kmX8_givers lkX11_193 (by decide) (by decide) (Nat.le_of_ble_eq_true rfl) (by first | rfl | exact kd_b0 _ | exact kd_b1 _ | exact kd_b2 _ | exact kd_b3 _ | exact kd_b4 _ | exact kd_b5 _ | exact kd_b6 _) (by omega) rfl rfl (Nat.le_of_ble_eq_true rfl) rfl ?_
          refine ct_X8_givers hS (by omega) (by omega) ?_
          show Wp _ _ _ (_ :: _) _ _ _
          refine Wp.lor dX11_groupOf_98 ?_
          refine Wp.lstore (ls' := [_, _, _, _, _, _, _, _, _, _, _, _, _, _, _]) dX11_groupOf_99 (by decide) rfl ?_
          refine Wp.lload rfl dX11_groupOf_101 ?_
          refine Wp.lload rfl dX11_groupOf_103 ?_
          refine Wp.lcmp dX11_groupOf_105 ?_
          refine Wp.if_eqC (tgt := 113) dX11_groupOf_106 (by decide) (fun c106 => ?_) (fun c106 => ?_)
          · refine Wp.iconst dX11_groupOf_113 ?_
            refine Wp.istore (ls' := [_, _, _, _, _, _, _, _, _, _, _, _, _, _, _]) dX11_groupOf_114 (by decide) rfl ?_
            refine Wp.lload rfl dX11_groupOf_116 ?_
            refine Wp.lstore (ls' := [_, _, _, _, _, _, _, _, _, _, _, _, _, _, _]) dX11_groupOf_118 (by decide) rfl ?_
            refine Wp.iinc (ls' := [_, _, _, _, _, _, _, _, _, _, _, _, _, _, _]) rfl dX11_groupOf_120 (by decide) rfl ?_
            refine Wp.goto (tgt := 25) dX11_groupOf_123 (by decide) ?_
            first | exact ih (k + 1) _ _ _ _ _ (by omega) (by omega) (gst_e e0 hwe c106) | exact ih (k + 1) _ _ _ _ _ (by omega) (by omega) (gst_g hn60 (h01.resolve_left c34 ▸ e0) hwe hws c106)
          · refine Wp.iconst dX11_groupOf_109 ?_
            refine Wp.goto (tgt := 114) dX11_groupOf_110 (by decide) ?_
            refine Wp.istore (ls' := [_, _, _, _, _, _, _, _, _, _, _, _, _, _, _]) dX11_groupOf_114 (by decide) rfl ?_
            refine Wp.lload rfl dX11_groupOf_116 ?_
            refine Wp.lstore (ls' := [_, _, _, _, _, _, _, _, _, _, _, _, _, _, _]) dX11_groupOf_118 (by decide) rfl ?_
            refine Wp.iinc (ls' := [_, _, _, _, _, _, _, _, _, _, _, _, _, _, _]) rfl dX11_groupOf_120 (by decide) rfl ?_
            refine Wp.goto (tgt := 25) dX11_groupOf_123 (by decide) ?_
            first | exact ih (k + 1) _ _ _ _ _ (by omega) (by omega) (gst_e e0 hwe c106) | exact ih (k + 1) _ _ _ _ _ (by omega) (by omega) (gst_g hn60 (h01.resolve_left c34 ▸ e0) hwe hws c106)
  refine Wp.aload_n rfl dX11_groupOf_0 ?_
  refine Wp.gr (kz := 2) rfl dX11_groupOf_1 fkX11_26 (by first | rfl | exact kd_b0 _ | exact kd_b1 _ | exact kd_b2 _ | exact kd_b3 _ | exact kd_b4 _ | exact kd_b5 _ | exact kd_b6 _) (by omega) (by first | exact hFx _ 2 _ rfl | assumption | exact hBk.1 | exact hBk.2.1 | exact hBk.2.2.1 | exact hBk.2.2.2.1 | exact hBk.2.2.2.2.1 | exact hBk.2.2.2.2.2) ?_
  refine Wp.iload_n rfl dX11_groupOf_4 ?_
  refine Wp.iload_n rfl dX11_groupOf_5 ?_
  refine Wp.iload_n rfl dX11_groupOf_6 ?_
  refine Wp.callV (As := [_, _, _]) (ls0 := [_, _, _, _, _]) (bd := (0, 0)) (bd' := (0, 0)) dX11_groupOf_7 kmX8_given lkX11_183 (by decide) (by decide) (Nat.le_of_ble_eq_true rfl) (by first | rfl | exact kd_b0 _ | exact kd_b1 _ | exact kd_b2 _ | exact kd_b3 _ | exact kd_b4 _ | exact kd_b5 _ | exact kd_b6 _) (by omega) rfl rfl (Nat.le_of_ble_eq_true rfl) rfl ?_
  refine ct_X8_given hS (by omega) (by omega) (by omega) (by omega) ?_
  show Wp _ _ _ (_ :: _) _ _ _
  refine Wp.lstore (ls' := [_, _, _, _, _, _, _, _, _, _, _, _, _, _, _]) dX11_groupOf_10 (by decide) rfl ?_
  refine Wp.iload rfl dX11_groupOf_12 ?_
  refine Wp.callS (As := [_]) (ls0 := [_]) (bd := (0, 0)) (bd' := (0, 0)) dX11_groupOf_14 kmX11_only lkX11_189 (by decide) (by decide) (Nat.le_of_ble_eq_true rfl) rfl rfl (Nat.le_of_ble_eq_true rfl) rfl ?_
  refine ct_X11_only (by omega) ?_
  show Wp _ _ _ (_ :: _) _ _ _
  rw [onlyW_t ht0 ht1]
  refine Wp.lstore (ls' := [_, _, _, _, _, _, _, _, _, _, _, _, _, _, _]) dX11_groupOf_17 (by decide) rfl ?_
  refine Wp.iconst dX11_groupOf_19 ?_
  refine Wp.istore (ls' := [_, _, _, _, _, _, _, _, _, _, _, _, _, _, _]) dX11_groupOf_20 (by decide) rfl ?_
  refine Wp.iconst dX11_groupOf_22 ?_
  refine Wp.istore (ls' := [_, _, _, _, _, _, _, _, _, _, _, _, _, _, _]) dX11_groupOf_23 (by decide) rfl ?_
  exact lp 60 0 _ _ _ _ _ (by omega) (by omega) (gst_0 (by omega) hG)
theorem mnF_sub {nb : Nat → BitVec 64} {g : BitVec 64} : ∀ (t i : Nat), (mnF nb g t).1 i = true → g.getLsbD i = true
  | 0, i, h => h
  | t + 1, i, h => by
    simp only [mnF] at h
    split at h
    · exact mnF_sub t i ((Bool.and_eq_true _ _ ▸ h).1)
    · exact mnF_sub t i h
theorem mn_t {nb : Nat → BitVec 64} {g r gg : BitVec 64} {k : Nat} {x : Int} (e : (∀ i : Nat, i < 60 → r.getLsbD i = (mnF nb g k).1 i) ∧ x = (mnF nb g k).2) (hk : k < 60) (h : hasW r k) (hg : ∀ i : Nat, i < 60 → gg.getLsbD i = cloB nb k i) : (∀ i : Nat, i < 60 → (r &&& (gg ^^^ 18446744073709551615#64)).getLsbD i = (mnF nb g (k + 1)).1 i) ∧ x + 1 = (mnF nb g (k + 1)).2 := by
  have h3 : (mnF nb g k).1 k = true := (e.1 k hk).symm.trans h.2.2
  simp only [mnF]
  rw [if_pos h3]
  refine ⟨fun i hi => ?_, by rw [e.2]⟩
  rw [Bool.eq_iff_iff, and_bit, not_bit (by omega), e.1 i hi, hg i hi]
  simp
theorem mn_f {nb : Nat → BitVec 64} {g r : BitVec 64} {k : Nat} {x : Int} (e : (∀ i : Nat, i < 60 → r.getLsbD i = (mnF nb g k).1 i) ∧ x = (mnF nb g k).2) (hk : k < 60) (h : ¬ hasW r k) : (∀ i : Nat, i < 60 → r.getLsbD i = (mnF nb g (k + 1)).1 i) ∧ x = (mnF nb g (k + 1)).2 := by
  have h3 : ¬ (mnF nb g k).1 k = true := fun q => h ⟨by omega, by omega, (e.1 k hk).trans q⟩
  simp only [mnF]
  rw [if_neg h3]
  exact e
theorem ct_X11_meanings {a w b : Int} (hS : ShR I L R n) (ha : inR a) (hw : inR w) (hb : inR b) (hq : Q (some (vi (aMean I 255 a w b))) (I, L, R, n)) : Wp mX11_meanings 0 [some (vr (some 0)), some (vi a), some (vi w), some (vi b), none, none, none, none] [] (I, L, R, n) (0, 0) Q := by
  have hn := hS.1
  have hFx := hS.2.1
  unfold aMean at hq
  have lp : ∀ (hab : (tgP a ∧ wdP w ∧ tgP b) ∧ a ≠ b) , ∀ (tt k : Nat) (z : Int) (r : BitVec 64) (x : Int), k + tt = 60 → z = k → (∀ i : Nat, i < 60 → r.getLsbD i = (mnF (nbr I 255 a w b) (gv I 255 a w b) k).1 i) ∧ x = (mnF (nbr I 255 a w b) (gv I 255 a w b) k).2 → Wp mX11_meanings 52 [some (vr (some 0)), some (vi a), some (vi w), some (vi b), some (vl r), none, some (vi x), some (vi z)] [] (I, L, R, n) (0, 0) Q := by
    intro hab
    intro tt
    induction tt with
    | zero =>
      intro k z r x hkt hz e0
      obtain rfl : k = 60 := by omega
      refine Wp.iload rfl dX11_meanings_52 ?_
      refine Wp.bipush rfl dX11_meanings_54 ?_
      refine Wp.icmp_ge (tgt := 96) dX11_meanings_56 (by decide) (by first | omega | exact bI_R _ | exact cmp_R _ _ | assumption) (by first | omega | exact bI_R _ | exact cmp_R _ _ | assumption) (fun c56 => ?_) (fun c56 => ?_)
      · refine Wp.iload rfl dX11_meanings_96 ?_
        refine Wp.ireturn dX11_meanings_98 rfl ?_
        first | (exfalso; omega) | (rw [if_pos hab.1, if_neg hab.2] at hq; exact qI hq e0.2)
      · exfalso; omega
    | succ tt ih =>
      intro k z r x hkt hz e0
      subst hz
      refine Wp.iload rfl dX11_meanings_52 ?_
      refine Wp.bipush rfl dX11_meanings_54 ?_
      refine Wp.icmp_ge (tgt := 96) dX11_meanings_56 (by decide) (by first | omega | exact bI_R _ | exact cmp_R _ _ | assumption) (by first | omega | exact bI_R _ | exact cmp_R _ _ | assumption) (fun c56 => ?_) (fun c56 => ?_)
      · exfalso; omega
      · refine Wp.lload rfl dX11_meanings_59 ?_
        refine Wp.iload rfl dX11_meanings_61 ?_
        refine Wp.callS (As := [_, _]) (ls0 := [_, _, _]) (bd := (0, 0)) (bd' := (0, 0)) dX11_meanings_63 kmX11_has lkX11_200 (by decide) (by decide) (Nat.le_of_ble_eq_true rfl) rfl rfl (Nat.le_of_ble_eq_true rfl) rfl ?_
        refine ct_X11_has (by omega) ?_
        show Wp _ _ _ (_ :: _) _ _ _
        refine Wp.if_eqB (tgt := 90) dX11_meanings_66 (by decide) (fun c66 => ?_) (fun c66 => ?_)
        · refine Wp.iinc (ls' := [_, _, _, _, _, _, _, _]) rfl dX11_meanings_90 (by decide) rfl ?_
          refine Wp.goto (tgt := 52) dX11_meanings_93 (by decide) ?_
          first | exact ih (k + 1) _ _ _ (by omega) (by omega) (mn_t e0 (by omega) c66 hgg) | exact ih (k + 1) _ _ _ (by omega) (by omega) (mn_f e0 (by omega) c66) | (exfalso; omega)
        · refine Wp.lload rfl dX11_meanings_69 ?_
          refine Wp.aload_n rfl dX11_meanings_71 ?_
          refine Wp.iload_n rfl dX11_meanings_72 ?_
          refine Wp.iload_n rfl dX11_meanings_73 ?_
          refine Wp.iload_n rfl dX11_meanings_74 ?_
          refine Wp.iload rfl dX11_meanings_75 ?_
          refine Wp.callV (As := [_, _, _, _]) (ls0 := [_, _, _, _, _, _, _, _, _, _, _, _, _, _, _]) (bd := (0, 0)) (bd' := (0, 0)) dX11_meanings_77 kmX11_groupOf lkX11_208 (by decide) (by decide) (Nat.le_of_ble_eq_true rfl) (by first | rfl | exact kd_b0 _ | exact kd_b1 _ | exact kd_b2 _ | exact kd_b3 _ | exact kd_b4 _ | exact kd_b5 _ | exact kd_b6 _) (by omega) rfl rfl (Nat.le_of_ble_eq_true rfl) rfl ?_
          refine ct_X11_groupOf hS (by omega) (by omega) (by omega) (by omega) (by omega) (by omega) (mnF_sub k k ((e0.1 k (by omega)).symm.trans c66.2.2)) (fun gg hgg => ?_)
          show Wp _ _ _ (_ :: _) _ _ _
          refine Wp.ldc2_w (b := 18446744073709551615#64) ckX11_206 rfl dX11_meanings_80 ?_
          refine Wp.lxor dX11_meanings_83 ?_
          refine Wp.land dX11_meanings_84 ?_
          refine Wp.lstore (ls' := [_, _, _, _, _, _, _, _]) dX11_meanings_85 (by decide) rfl ?_
          refine Wp.iinc (ls' := [_, _, _, _, _, _, _, _]) rfl dX11_meanings_87 (by decide) rfl ?_
          refine Wp.iinc (ls' := [_, _, _, _, _, _, _, _]) rfl dX11_meanings_90 (by decide) rfl ?_
          refine Wp.goto (tgt := 52) dX11_meanings_93 (by decide) ?_
          first | exact ih (k + 1) _ _ _ (by omega) (by omega) (mn_t e0 (by omega) c66 hgg) | exact ih (k + 1) _ _ _ (by omega) (by omega) (mn_f e0 (by omega) c66) | (exfalso; omega)
  refine Wp.iload_n rfl dX11_meanings_0 ?_
  refine Wp.callS (As := [_]) (ls0 := [_]) (bd := (0, 0)) (bd' := (0, 0)) dX11_meanings_1 kmX11_isTongue lkX11_94 (by decide) (by decide) (Nat.le_of_ble_eq_true rfl) rfl rfl (Nat.le_of_ble_eq_true rfl) rfl ?_
  refine ct_X11_isTongue (by omega) ?_
  show Wp _ _ _ (_ :: _) _ _ _
  refine Wp.if_eqB (tgt := 21) dX11_meanings_4 (by decide) (fun c4 => ?_) (fun c4 => ?_)
  · refine Wp.sipush rfl dX11_meanings_21 ?_
    refine Wp.ireturn dX11_meanings_24 rfl ?_
    first | (exfalso; omega) | (exact qI hq (by (repeat' split) <;> first | (exfalso; omega) | rfl))
  · refine Wp.iload_n rfl dX11_meanings_7 ?_
    refine Wp.callS (As := [_]) (ls0 := [_]) (bd := (0, 0)) (bd' := (0, 0)) dX11_meanings_8 kmX11_isWord lkX11_162 (by decide) (by decide) (Nat.le_of_ble_eq_true rfl) rfl rfl (Nat.le_of_ble_eq_true rfl) rfl ?_
    refine ct_X11_isWord (by omega) ?_
    show Wp _ _ _ (_ :: _) _ _ _
    refine Wp.if_eqB (tgt := 21) dX11_meanings_11 (by decide) (fun c11 => ?_) (fun c11 => ?_)
    · refine Wp.sipush rfl dX11_meanings_21 ?_
      refine Wp.ireturn dX11_meanings_24 rfl ?_
      first | (exfalso; omega) | (exact qI hq (by (repeat' split) <;> first | (exfalso; omega) | rfl))
    · refine Wp.iload_n rfl dX11_meanings_14 ?_
      refine Wp.callS (As := [_]) (ls0 := [_]) (bd := (0, 0)) (bd' := (0, 0)) dX11_meanings_15 kmX11_isTongue lkX11_94 (by decide) (by decide) (Nat.le_of_ble_eq_true rfl) rfl rfl (Nat.le_of_ble_eq_true rfl) rfl ?_
      refine ct_X11_isTongue (by omega) ?_
      show Wp _ _ _ (_ :: _) _ _ _
      refine Wp.if_neB (tgt := 25) dX11_meanings_18 (by decide) (fun c18 => ?_) (fun c18 => ?_)
      · refine Wp.iload_n rfl dX11_meanings_25 ?_
        refine Wp.iload_n rfl dX11_meanings_26 ?_
        refine Wp.icmp_ne (tgt := 34) dX11_meanings_27 (by decide) (by first | omega | exact bI_R _ | exact cmp_R _ _ | assumption) (by first | omega | exact bI_R _ | exact cmp_R _ _ | assumption) (fun c27 => ?_) (fun c27 => ?_)
        · refine Wp.aload_n rfl dX11_meanings_34 ?_
          refine Wp.gr (kz := 2) rfl dX11_meanings_35 fkX11_26 (by first | rfl | exact kd_b0 _ | exact kd_b1 _ | exact kd_b2 _ | exact kd_b3 _ | exact kd_b4 _ | exact kd_b5 _ | exact kd_b6 _) (by omega) (by first | exact hFx _ 2 _ rfl | assumption | exact hBk.1 | exact hBk.2.1 | exact hBk.2.2.1 | exact hBk.2.2.2.1 | exact hBk.2.2.2.2.1 | exact hBk.2.2.2.2.2) ?_
          refine Wp.iload_n rfl dX11_meanings_38 ?_
          refine Wp.iload_n rfl dX11_meanings_39 ?_
          refine Wp.iload_n rfl dX11_meanings_40 ?_
          refine Wp.callV (As := [_, _, _]) (ls0 := [_, _, _, _, _]) (bd := (0, 0)) (bd' := (0, 0)) dX11_meanings_41 kmX8_given lkX11_183 (by decide) (by decide) (Nat.le_of_ble_eq_true rfl) (by first | rfl | exact kd_b0 _ | exact kd_b1 _ | exact kd_b2 _ | exact kd_b3 _ | exact kd_b4 _ | exact kd_b5 _ | exact kd_b6 _) (by omega) rfl rfl (Nat.le_of_ble_eq_true rfl) rfl ?_
          refine ct_X8_given hS (by omega) (by omega) (by omega) (by omega) ?_
          show Wp _ _ _ (_ :: _) _ _ _
          refine Wp.lstore (ls' := [_, _, _, _, _, _, _, _]) dX11_meanings_44 (by decide) rfl ?_
          refine Wp.iconst dX11_meanings_46 ?_
          refine Wp.istore (ls' := [_, _, _, _, _, _, _, _]) dX11_meanings_47 (by decide) rfl ?_
          refine Wp.iconst dX11_meanings_49 ?_
          refine Wp.istore (ls' := [_, _, _, _, _, _, _, _]) dX11_meanings_50 (by decide) rfl ?_
          exact lp ⟨⟨by omega, by omega, by omega⟩, by omega⟩ 60 0 _ _ _ (by omega) (by omega) ⟨fun _ _ => rfl, rfl⟩
        · refine Wp.sipush rfl dX11_meanings_30 ?_
          refine Wp.ireturn dX11_meanings_33 rfl ?_
          first | (exfalso; omega) | (exact qI hq (by (repeat' split) <;> first | (exfalso; omega) | rfl))
      · refine Wp.sipush rfl dX11_meanings_21 ?_
        refine Wp.ireturn dX11_meanings_24 rfl ?_
        first | (exfalso; omega) | (exact qI hq (by (repeat' split) <;> first | (exfalso; omega) | rfl))
end

