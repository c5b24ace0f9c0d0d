/-! ===== the fewest books: sets of books, what counts in them ===== -/
theorem popS (s i : Nat) : (BitVec.ofInt 64 (s : Int)).getLsbD i = (decide (i < 64) && s.testBit i) := by
  rw [show BitVec.ofInt 64 (s : Int) = BitVec.ofNat 64 s from by simp, BitVec.getLsbD_ofNat]
theorem tb8 {s j : Nat} (hs : s < 256) (h : s.testBit j = true) : j < 8 := by
  rcases Nat.lt_or_ge j 8 with h1 | h1
  · exact h1
  · rw [Nat.testBit_lt_two_pow (Nat.lt_of_lt_of_le hs (Nat.pow_le_pow_right (n := 2) (i := 8) (by decide) h1))] at h
    cases h
theorem sub_tb {s u : Nat} : s &&& u = s ↔ ∀ j, s.testBit j = true → u.testBit j = true := by
  constructor
  · intro h j hj
    rw [← h, Nat.testBit_and, Bool.and_eq_true] at hj
    exact hj.2
  · intro h
    apply Nat.eq_of_testBit_eq
    intro j
    rw [Nat.testBit_and]
    cases hs : s.testBit j with
    | false => rfl
    | true => rw [h j hs]; rfl
section
variable {I J : Nat → Int → Int} {L K : Nat → Int → BitVec 64} {R : Nat → Int → Option Nat} {n k : Nat} {m : Mm} {Q : Option AV → Mm → Prop}
theorem bitI_tb {s k : Nat} (hs : s < 256) (hk : k < 8) : bitI (s : Int) k ↔ s.testBit k = true := (bitS ⟨s, hs⟩ ⟨k, hk⟩).1
theorem gd_iff (hW : RW I) {s : Nat} (hs : s < 256) : gdB I s = true ↔ ∀ j : Nat, (j : Int) < I 32 0 → s.testBit j = true → I 35 j ≤ I 32 9 := by
  have h0 := hW.1
  have h8 := hW.2.1
  unfold gdB
  rw [allB_iff]
  constructor
  · intro h j hj ht
    rcases of_decide_eq_true (h j (by omega)) with h1 | h1
    · rw [(bitS ⟨s, hs⟩ ⟨j, by omega⟩).2.1.mp h1] at ht; cases ht
    · exact h1
  · intro h j hj
    apply decide_eq_true
    cases ht : s.testBit j with
    | false => exact Or.inl ((bitS ⟨s, hs⟩ ⟨j, by omega⟩).2.1.mpr ht)
    | true => exact Or.inr (h j (by omega) ht)
/-- the latest is the greatest by day and number -/
theorem lat_max {lk a w b : Int} : ∀ N : Nat, 0 ≤ latN I lk a w b N → ∃ m : Nat, m < N ∧ latN I lk a w b N = m ∧ entW I lk a w b m ∧ ∀ j : Nat, j < N → entW I lk a w b j → I 35 j < I 35 m ∨ (I 35 j = I 35 m ∧ j ≤ m)
  | 0, h => by simp [latN] at h
  | N + 1, h => by
    have hB := latN_B I lk a w b N
    by_cases hc : entW I lk a w b N ∧ (latN I lk a w b N < 0 ∨ I 35 (latN I lk a w b N) ≤ I 35 N)
    · refine ⟨N, by omega, (latN_t hc).symm, hc.1, fun j hj hej => ?_⟩
      by_cases hjN : j = N
      · subst hjN; exact Or.inr ⟨rfl, by omega⟩
      · rcases hc.2 with hc2 | hc2
        · exact absurd hej ((lat_n N).mp hc2 j (by omega))
        · rcases Int.lt_or_le (latN I lk a w b N) 0 with h1 | h1
          · exact absurd hej ((lat_n N).mp h1 j (by omega))
          · obtain ⟨m, hm, em, _, hmax⟩ := lat_max N h1
            have := hmax j (by omega) hej
            rw [em] at hc2
            omega
    · rw [← latN_f hc] at h
      obtain ⟨m, hm, em, hem, hmax⟩ := lat_max N h
      refine ⟨m, by omega, by rw [← latN_f hc]; exact em, hem, fun j hj hej => ?_⟩
      by_cases hjN : j = N
      · subst hjN
        rw [em] at hc
        have : ¬ I 35 m ≤ I 35 j := fun q => hc ⟨hej, Or.inr q⟩
        omega
      · exact hmax j (by omega) hej
/-- book j comes ahead of book k -/
abbrev supP (I : Nat → Int → Int) (j k : Nat) : Prop := I 33 k = I 33 j ∧ I 34 k = I 34 j ∧ (I 35 k < I 35 j ∨ I 35 j = I 35 k ∧ k < j)
/-- the words whose entry is that of book k, if there were the books of s alone -/
def chP (I : Nat → Int → Int) (s k : Nat) (x : BitVec 64) : Prop := ∀ i : Nat, x.getLsbD i = true ↔ ((k : Int) < I 32 0 ∧ s.testBit k = true) ∧ (i < 60 ∧ 0 < I 36 (60 * k + i)) ∧ ∀ j : Nat, (j : Int) < I 32 0 → s.testBit j = true → supP I j k → ¬ 0 < I 36 (60 * j + i)
theorem ch_lat (hW : RW I) {s : Nat} (hs : s < 256) (hg : gdB I s = true) {x : BitVec 64} (hx : chP I s k x) {i : Nat} (hi : i < 60) : x.getLsbD i = true ↔ (k : Int) < I 32 0 ∧ lat I s (I 33 k) i (I 34 k) = k := by
  have h0 := hW.1
  have h8 := hW.2.1
  have hgd := (gd_iff hW hs).mp hg
  rw [hx i]
  unfold lat
  constructor
  · rintro ⟨⟨h1, h2⟩, ⟨_, h3⟩, h4⟩
    refine ⟨h1, ?_⟩
    have hek : entW I s (I 33 k) i (I 34 k) k := ⟨(bitI_tb hs (by omega)).mpr h2, hgd k h1 h2, rfl, rfl, h3⟩
    have hnn : 0 ≤ latN I s (I 33 k) i (I 34 k) (I 32 0).toNat := by
      rcases Int.lt_or_le (latN I s (I 33 k) i (I 34 k) (I 32 0).toNat) 0 with q | q
      · exact absurd hek ((lat_n _).mp q k (by omega))
      · exact q
    obtain ⟨m, hm, em, hem, hmax⟩ := lat_max _ hnn
    have hmk := hmax k (by omega) hek
    rw [em]
    by_cases hmk2 : m = k
    · rw [hmk2]
    · exact absurd hem.2.2.2.2 (h4 m (by omega) ((bitI_tb hs (by omega)).mp hem.1) ⟨hem.2.2.1.symm, hem.2.2.2.1.symm, by omega⟩)
  · rintro ⟨h1, h2⟩
    obtain ⟨m, hm, em, hem, hmax⟩ := lat_max (I := I) (lk := s) (a := I 33 k) (w := i) (b := I 34 k) (I 32 0).toNat (by omega)
    have hmk : m = k := by omega
    subst hmk
    refine ⟨⟨h1, (bitI_tb hs (by omega)).mp hem.1⟩, ⟨hi, hem.2.2.2.2⟩, fun j hj htj hsup q => ?_⟩
    have hej : entW I s (I 33 m) i (I 34 m) j := ⟨(bitI_tb hs (by omega)).mpr htj, hgd j hj htj, hsup.1.symm, hsup.2.1.symm, q⟩
    have := hmax j (by omega) hej
    have h5 := hsup.2.2
    omega
/-- a family is closed for book k -/
def clK (I : Nat → Int → Int) (x : BitVec 64) (k : Nat) (S : Int → BitVec 64) : Prop := ∀ w : Nat, w < 60 → x.getLsbD w = true → ¬ geN I (I 32 10) (60 * k + w) (I 36 (60 * k + w)).toNat &&& S (I 34 k) = 0#64 → (S (I 33 k)).getLsbD w = true
theorem gv_ch (hW : RW I) {s : Nat} (hs : s < 256) (hg : gdB I s = true) {x : BitVec 64} (hx : chP I s k x) {w : Nat} (hw : w < 60) (hb : x.getLsbD w = true) : gv I s (I 33 k) w (I 34 k) = geN I (I 32 10) (60 * k + w) (I 36 (60 * k + w)).toNat := by
  have hl := (ch_lat hW hs hg hx hw).mp hb
  unfold gv ge ent
  rw [hl.2, if_neg (by omega), if_neg (by omega)]
theorem clo_of (hW : RW I) {s : Nat} (hs : s < 256) (hg : gdB I s = true) {b : Int} {C S : Int → BitVec 64} (hC : ∀ k : Nat, k < 8 → chP I s k (C k)) (hS : S b = ALLW) (hcl : ∀ k : Nat, k < 8 → clK I (C k) k S) : Clo I s b S := by
  have h0 := hW.1
  have h8 := hW.2.1
  refine ⟨fun w hw => by rw [hS, ALLW_bit]; simp [hw], fun p w q hp hw hq hne => ?_⟩
  have hE := ent_lat hW (lk := s) (a := p) (b := q) (w := w) (by omega)
  rcases hE with ⟨_, he⟩ | ⟨hl0, hl1, he⟩
  · exfalso; apply hne
    unfold gv ge
    rw [he, if_pos (by decide)]; simp
  · obtain ⟨m, hm, em, hem, _⟩ := lat_max (I := I) (lk := s) (a := p) (w := w) (b := q) (I 32 0).toNat hl0
    have e33 := hem.2.2.1
    have e34 := hem.2.2.2.1
    have hb : (C m).getLsbD w = true := (ch_lat hW hs hg (hC m (by omega)) hw).mpr ⟨by omega, by rw [e33, e34]; exact em⟩
    have := hcl m (by omega) w hw hb
    rw [← gv_ch hW hs hg (hC m (by omega)) hw hb, e33, e34] at this
    exact this hne
/-- a family with a set of words more -/
def orF (S : Int → BitVec 64) (p : Int) (X : BitVec 64) : Int → BitVec 64 := fun q => if q = p then S p ||| X else S q
theorem Ivl_or {lk b p : Int} {S : Int → BitVec 64} {X : BitVec 64} (h : Ivl I lk b S) (hp : tgP p) (hX : ∀ w : Nat, X.getLsbD w = true → w < 60 ∧ ∃ q, tgP q ∧ ¬ gv I lk p w q &&& S q = 0#64) : Ivl I lk b (orF S p X) := by
  obtain ⟨h1, h2, h3⟩ := h
  refine ⟨?_, ?_, ?_⟩
  · unfold orF
    split
    · rename_i e
      rw [← e, h1]
      apply bv_ext
      intro i hi
      rw [or_bit, ALLW_bit]
      constructor
      · rintro (h | h)
        · exact h
        · exact decide_eq_true (hX i h).1
      · exact Or.inl
    · exact h1
  · intro p' hp' i hi
    unfold orF
    split
    · rw [BitVec.getLsbD_or, h2 p hp i hi]
      cases hc : X.getLsbD i with
      | false => rfl
      | true => have := (hX i hc).1; omega
    · exact h2 p' hp' i hi
  · intro T hT p' hp' w hw hb
    unfold orF at hb
    split at hb
    · rename_i e
      subst e
      rcases or_bit.mp hb with hb | hb
      · exact h3 T hT p' hp' w hw hb
      · obtain ⟨_, q, hq, hne⟩ := hX w hb
        refine hT.2 p' w q hp' hw hq ?_
        obtain ⟨i, hi, hbi⟩ := ne0_bit.mp hne
        rw [and_bit] at hbi
        refine ne0_bit.mpr ⟨i, hi, and_bit.mpr ⟨hbi.1, h3 T hT q hq i ?_ hbi.2⟩⟩
        rcases Nat.lt_or_ge i 60 with h4 | h4
        · exact h4
        · rw [h2 q hq i h4] at hbi; cases hbi.2
    · exact h3 T hT p' hp' w hw hb
theorem cntF_or {S : Int → BitVec 64} {p : Int} {X : BitVec 64} (hp : tgP p) (h60 : ∀ i : Nat, 60 ≤ i → (S p ||| X).getLsbD i = false) (hne : ¬ S p ||| X = S p) : cntF S < cntF (orF S p X) := by
  obtain ⟨i, hi, hd⟩ := bv_diff hne
  have hsub : ∀ i : Nat, i < 60 → (S p).getLsbD i = true → (S p ||| X).getLsbD i = true := fun i _ h => or_bit.mpr (Or.inl h)
  have h0 : (S p).getLsbD i = false := by
    cases hc : (S p).getLsbD i with
    | false => rfl
    | true => exact absurd (by rw [or_bit.mpr (Or.inl hc), hc]) hd
  have h1 : (S p ||| X).getLsbD i = true := by
    cases hc : (S p ||| X).getLsbD i with
    | true => rfl
    | false => exact absurd (by rw [hc, h0]) hd
  have hi60 : i < 60 := by
    rcases Nat.lt_or_ge i 60 with h | h
    · exact h
    · rw [h60 i h] at h1; cases h1
  have := pcN_strict hsub h0 h1 60 (by omega) hi60
  unfold cntF orF
  rcases (show p = 0 ∨ p = 1 ∨ p = 2 ∨ p = 3 by omega) with rfl | rfl | rfl | rfl <;> simp <;> omega
/-! which books are of use -/
abbrev ufP (I : Nat → Int → Int) (b : Int) (k : Nat) : Prop := (k : Int) < I 32 0 ∧ I 35 k ≤ I 32 9 ∧ I 33 k ≠ b
def usN (I : Nat → Int → Int) (b : Int) : Nat → Nat
  | 0 => 0
  | k + 1 => if ufP I b k then usN I b k ||| 2 ^ k else usN I b k
theorem usN_tb (b : Int) (j : Nat) : ∀ N : Nat, (usN I b N).testBit j = true ↔ j < N ∧ ufP I b j
  | 0 => by simp [usN]
  | N + 1 => by
    simp only [usN]
    split
    · rename_i h
      rw [Nat.testBit_or, Bool.or_eq_true, usN_tb b j N, Nat.testBit_two_pow]
      constructor
      · rintro (h1 | h1)
        · exact ⟨by omega, h1.2⟩
        · have : N = j := of_decide_eq_true h1
          subst this; exact ⟨by omega, h⟩
      · rintro ⟨h1, h2⟩
        by_cases hj : N = j
        · exact Or.inr (decide_eq_true hj)
        · exact Or.inl ⟨by omega, h2⟩
    · rename_i h
      rw [usN_tb b j N]
      constructor
      · exact fun q => ⟨by omega, q.2⟩
      · rintro ⟨h1, h2⟩
        by_cases hj : N = j
        · subst hj; exact absurd h2 h
        · exact ⟨by omega, h2⟩
theorem usN_lt (b : Int) (N : Nat) : usN I b N < 2 ^ N := by
  apply Nat.lt_pow_two_of_testBit
  intro i hi
  cases hc : (usN I b N).testBit i with
  | false => rfl
  | true => have := ((usN_tb b i N).mp hc).1; omega
/-- the class's search -/
noncomputable def cfN (I : Nat → Int → Int) (a b : Int) (set : BitVec 64) : Nat → Int
  | 0 => -1
  | s + 1 => if s &&& usN I b 8 = s ∧ (cfN I a b set s < 0 ∨ pcN (BitVec.ofInt 64 s) 60 < pcN (BitVec.ofInt 64 (cfN I a b set s)) 60) ∧ covB I s a b set = true then (s : Int) else cfN I a b set s
theorem cf_le {a b : Int} {set : BitVec 64} : ∀ (N t : Nat), t < N → t &&& usN I b 8 = t → covB I t a b set = true → 0 ≤ cfN I a b set N ∧ pcN (BitVec.ofInt 64 (cfN I a b set N)) 60 ≤ pcN (BitVec.ofInt 64 (t : Int)) 60
  | 0, t, h, _, _ => by omega
  | N + 1, t, h, hu, hc => by
    simp only [cfN]
    by_cases htN : t = N
    · subst htN
      split
      · exact ⟨by omega, Int.le_refl _⟩
      · rename_i hn
        have h1 : ¬ (cfN I a b set t < 0 ∨ pcN (BitVec.ofInt 64 (t : Int)) 60 < pcN (BitVec.ofInt 64 (cfN I a b set t)) 60) := fun q => hn ⟨hu, q, hc⟩
        omega
    · have ih := cf_le N t (by omega) hu hc
      split
      · rename_i hn; have := hn.2.1; omega
      · exact ih
theorem gv_sub (hW : RW I) {b : Int} {s : Nat} (hs : s < 256) (hg : gdB I s = true) {p w q : Int} (hp : p ≠ b) : gv I s p w q = gv I ((s &&& usN I b 8 : Nat) : Int) p w q := by
  have h0 := hW.1
  have h8 := hW.2.1
  have hgd := (gd_iff hW hs).mp hg
  have hs2 : s &&& usN I b 8 < 256 := Nat.lt_of_le_of_lt Nat.and_le_left hs
  have he : ∀ j : Nat, (j : Int) < I 32 0 → (entW I s p w q j ↔ entW I ((s &&& usN I b 8 : Nat) : Int) p w q j) := fun j hj => by
    unfold entW
    rw [bitI_tb hs (by omega), bitI_tb hs2 (by omega), Nat.testBit_and, Bool.and_eq_true, usN_tb]
    constructor
    · rintro ⟨h1, h2, h3, h4⟩
      exact ⟨⟨h1, by omega, hj, h2, by omega⟩, h2, h3, h4⟩
    · rintro ⟨h1, h2, h3, h4⟩
      exact ⟨h1.1, h2, h3, h4⟩
  have hl : ∀ N : Nat, (N : Int) ≤ I 32 0 → latN I s p w q N = latN I ((s &&& usN I b 8 : Nat) : Int) p w q N := fun N => by
    induction N with
    | zero => intro _; rfl
    | succ N ih =>
      intro hN
      have ih' := ih (by omega)
      by_cases hc : entW I s p w q N ∧ (latN I s p w q N < 0 ∨ I 35 (latN I s p w q N) ≤ I 35 N)
      · rw [← latN_t hc, ← latN_t (show _ ∧ _ from ⟨(he N (by omega)).mp hc.1, by rw [← ih']; exact hc.2⟩)]
      · rw [← latN_f hc, ← latN_f (fun q2 => hc ⟨(he N (by omega)).mpr q2.1, by rw [ih']; exact q2.2⟩), ih']
  unfold gv ent lat
  rw [hl _ (by omega)]
theorem cov_sub (hW : RW I) {a b : Int} {set : BitVec 64} {s : Nat} (hs : s < 256) (hg : gdB I s = true) (hc : cov I s a b set) : cov I ((s &&& usN I b 8 : Nat) : Int) a b set := by
  intro T hT
  refine hc T ⟨hT.1, fun p w q hp hw hq hne => ?_⟩
  by_cases hpb : p = b
  · rw [hpb]; exact hT.1 w hw
  · rw [gv_sub hW hs hg hpb] at hne
    exact hT.2 p w q hp hw hq hne
theorem us_gd (hW : RW I) {b : Int} {s : Nat} (hs : s < 256) (hu : s &&& usN I b 8 = s) : gdB I s = true := by
  rw [gd_iff hW hs]
  intro j hj ht
  exact ((usN_tb b j 8).mp (sub_tb.mp hu j ht)).2.2.1
theorem fw_cf (hW : RW I) {a b : Int} {set : BitVec 64} : ∀ k : Nat, k ≤ 2 ^ (I 32 0).toNat → fwN I a b set k = cfN I a b set k
  | 0, _ => rfl
  | k + 1, hk => by
    have h0 := hW.1
    have h8 := hW.2.1
    have hp := pow_le8 (show (I 32 0).toNat ≤ 8 by omega)
    have hk256 : k < 256 := by omega
    have ih := fw_cf hW (a := a) (b := b) (set := set) k (by omega)
    simp only [fwN, fwS, cfN]
    rw [ih]
    by_cases hu : k &&& usN I b 8 = k
    · by_cases hr : (cfN I a b set k < 0 ∨ pcN (BitVec.ofInt 64 (k : Int)) 60 < pcN (BitVec.ofInt 64 (cfN I a b set k)) 60) ∧ covB I k a b set = true
      · rw [if_pos ⟨us_gd hW hk256 hu, hr⟩, if_pos ⟨hu, hr⟩]
      · rw [if_neg (fun q => hr q.2), if_neg (fun q => hr q.2)]
    · rw [if_neg (c := k &&& usN I b 8 = k ∧ _) (fun q => hu q.1), if_neg]
      rintro ⟨hg, hpc, hcv⟩
      have hs' : k &&& usN I b 8 < k := by
        have : k &&& usN I b 8 ≤ k := Nat.and_le_left
        omega
      have hle := cf_le (I := I) (a := a) (b := b) (set := set) k (k &&& usN I b 8) hs' (by rw [Nat.and_assoc, Nat.and_self]) (covB_iff.mpr (cov_sub hW hk256 hg (covB_iff.mp hcv)))
      have hex : ∃ j, k.testBit j = true ∧ ¬ (usN I b 8).testBit j = true := by
        apply Classical.byContradiction
        intro hn
        apply hu
        rw [sub_tb]
        intro j hj
        apply Classical.byContradiction
        intro hj2
        exact hn ⟨j, hj, hj2⟩
      obtain ⟨j, hj1, hj2⟩ := hex
      have hj8 := tb8 hk256 hj1
      have hst := pcN_strict (s := BitVec.ofInt 64 ((k &&& usN I b 8 : Nat) : Int)) (t := BitVec.ofInt 64 (k : Int)) (fun i hi h => by
        rw [popS] at h ⊢
        rw [Bool.and_eq_true, Nat.testBit_and, Bool.and_eq_true] at h
        rw [Bool.and_eq_true]; exact ⟨h.1, h.2.1⟩) (j := j) (by rw [popS, Nat.testBit_and]; cases hc : (usN I b 8).testBit j with | true => exact absurd hc hj2 | false => simp) (by rw [popS, hj1]; simp; omega) 60 (by omega) (by omega)
      omega
theorem cf_end (hW : RW I) {a b : Int} {set : BitVec 64} : ∀ d : Nat, cfN I a b set (2 ^ (I 32 0).toNat + d) = cfN I a b set (2 ^ (I 32 0).toNat)
  | 0 => rfl
  | d + 1 => by
    have h0 := hW.1
    have h8 := hW.2.1
    show cfN I a b set ((2 ^ (I 32 0).toNat + d) + 1) = _
    simp only [cfN]
    rw [if_neg, cf_end hW d]
    rintro ⟨hu, _⟩
    have hlt : 2 ^ (I 32 0).toNat + d < 2 ^ (I 32 0).toNat := by
      apply Nat.lt_pow_two_of_testBit
      intro i hi
      cases hc : (2 ^ (I 32 0).toNat + d).testBit i with
      | false => rfl
      | true =>
        have := ((usN_tb b i 8).mp (sub_tb.mp hu i hc)).2.1
        omega
    omega
theorem fw_256 (hW : RW I) {a b : Int} {set : BitVec 64} : cfN I a b set 256 = fwN I a b set (2 ^ (I 32 0).toNat) := by
  have h0 := hW.1
  have h8 := hW.2.1
  have hp := pow_le8 (show (I 32 0).toNat ≤ 8 by omega)
  rw [fw_cf hW _ (Nat.le_refl _), ← cf_end hW (256 - 2 ^ (I 32 0).toNat), show 2 ^ (I 32 0).toNat + (256 - 2 ^ (I 32 0).toNat) = 256 by omega]
end

