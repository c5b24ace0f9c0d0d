/-! ===== the shortest chain: what both come to ===== -/
theorem anyB4 {p : Nat → Bool} : anyB p 4 = true ↔ ∃ j : Nat, j < 4 ∧ p j = true := anyB_iff p 4
/-- the first of k that has a property; -1 -/
def fsF (p : Nat → Bool) : Nat → Int
  | 0 => -1
  | k + 1 => if 0 ≤ fsF p k then fsF p k else if p k = true then (k : Int) else -1
theorem fsF_n {p : Nat → Bool} : ∀ k : Nat, (∀ j, j < k → p j = false) → fsF p k = -1
  | 0, _ => rfl
  | k + 1, h => by
    simp only [fsF]
    rw [fsF_n k (fun j hj => h j (by omega)), if_neg (by decide), if_neg (by rw [h k (by omega)]; decide)]
theorem fsF_t {p : Nat → Bool} {i : Nat} (hp : p i = true) (hm : ∀ j, j < i → p j = false) : ∀ k : Nat, i < k → fsF p k = (i : Int)
  | 0, h => by omega
  | k + 1, h => by
    simp only [fsF]
    by_cases hi : i = k
    · subst hi
      rw [fsF_n i hm, if_neg (by decide), if_pos hp]
    · rw [fsF_t hp hm k (by omega), if_pos (by omega)]
/-- how far from b, behind f rounds; -1 -/
def dsF (ld : Int → Int → Bool) (b : Int) : Nat → Int → Int
  | 0, x => if x = b then 0 else -1
  | f + 1, x => if dsF ld b f x = -1 ∧ anyB (fun y => decide (dsF ld b f y = f) && ld x y) 4 = true then (f : Int) + 1 else dsF ld b f x
theorem dsF_B (ld : Int → Int → Bool) (b : Int) : ∀ (f : Nat) (x : Int), -1 ≤ dsF ld b f x ∧ dsF ld b f x ≤ f
  | 0, x => by simp only [dsF]; split <;> omega
  | f + 1, x => by
    have := dsF_B ld b f x
    simp only [dsF]; split <;> omega
def nrF (ld : Int → Int → Bool) (st : Int → Int) (x : Int) : Int := if (0 ≤ x ∧ x < 4) ∧ 0 < st x then fsF (fun y => decide (st y = st x - 1) && ld x y) 4 else -1
def hN (ld : Int → Int → Bool) (st : Int → Int) (a : Int) : Nat → Int
  | 0 => a
  | k + 1 => nrF ld st (hN ld st a k)
theorem fsF_B {p : Nat → Bool} : ∀ k : Nat, -1 ≤ fsF p k ∧ fsF p k < k
  | 0 => by simp [fsF]
  | k + 1 => by
    have := fsF_B (p := p) k
    simp only [fsF]; (repeat' split) <;> omega
theorem nrF_B (ld : Int → Int → Bool) (st : Int → Int) (x : Int) : -1 ≤ nrF ld st x ∧ nrF ld st x < 4 := by
  unfold nrF
  split
  · exact fsF_B 4
  · omega
theorem hN_B (ld : Int → Int → Bool) (st : Int → Int) {a : Int} (ha : tgP a) : ∀ k : Nat, -1 ≤ hN ld st a k ∧ hN ld st a k < 4
  | 0 => by simp only [hN]; omega
  | k + 1 => nrF_B ld st _
section
variable {ld : Int → Int → Bool} {a b : Int}
/-- what is known of the steps -/
theorem ds_b : ∀ f : Nat, dsF ld b f b = 0
  | 0 => by simp [dsF]
  | f + 1 => by simp only [dsF]; rw [ds_b f, if_neg (by simp)]
theorem ds_m {f : Nat} {x : Int} (h : dsF ld b f x ≠ -1) : dsF ld b (f + 1) x = dsF ld b f x := by
  simp only [dsF]; rw [if_neg (fun q => h q.1)]
theorem ds0 {x : Int} : dsF ld b 0 x = 0 ↔ x = b := by
  simp only [dsF]; split <;> simp_all
theorem dsS {f : Nat} {x : Int} : dsF ld b (f + 1) x = (f : Int) + 1 ↔ dsF ld b f x = -1 ∧ ∃ y : Nat, y < 4 ∧ dsF ld b f y = f ∧ ld x y = true := by
  have ha : anyB (fun y => decide (dsF ld b f y = (f : Int)) && ld x y) 4 = true ↔ ∃ y : Nat, y < 4 ∧ dsF ld b f y = f ∧ ld x y = true := by
    rw [anyB4]
    constructor
    · rintro ⟨j, hj4, hj⟩
      rw [Bool.and_eq_true] at hj
      exact ⟨j, hj4, of_decide_eq_true hj.1, hj.2⟩
    · rintro ⟨j, hj4, h1, h2⟩
      refine ⟨j, hj4, ?_⟩
      rw [Bool.and_eq_true]
      exact ⟨decide_eq_true h1, h2⟩
  have hB := dsF_B ld b f x
  simp only [dsF]
  split
  · rename_i h; exact ⟨fun _ => ⟨h.1, ha.mp h.2⟩, fun _ => rfl⟩
  · rename_i h
    constructor
    · intro q; omega
    · intro q; exact absurd ⟨q.1, ha.mpr q.2⟩ h
theorem dsE (f : Nat) (x : Int) : dsF ld b (f + 1) x = (f : Int) + 1 ∨ dsF ld b (f + 1) x = dsF ld b f x := by
  simp only [dsF]
  split
  · left; rfl
  · right; rfl
theorem ds1 (hb : tgP b) {x : Int} : dsF ld b 1 x = 1 ↔ x ≠ b ∧ ld x b = true := by
  have h := dsS (ld := ld) (b := b) (f := 0) (x := x)
  have h0 : dsF ld b 0 x = -1 ↔ x ≠ b := by simp only [dsF]; split <;> simp_all
  have e : (dsF ld b (0 + 1) x = ((0 : Nat) : Int) + 1) = (dsF ld b 1 x = 1) := rfl
  rw [e, h0] at h
  rw [h]
  constructor
  · rintro ⟨h1, j, _, hj, hj2⟩
    have := ds0.mp hj
    rw [← this]; exact ⟨by rw [this]; exact h1, hj2⟩
  · rintro ⟨h1, h2⟩
    refine ⟨h1, b.toNat, by omega, ?_⟩
    rw [show ((b.toNat : Nat) : Int) = b by omega]
    exact ⟨ds0.mpr rfl, h2⟩
theorem ds1n (hb : tgP b) {x : Int} : dsF ld b 1 x = -1 ↔ x ≠ b ∧ ld x b = false := by
  have hB := dsF_B ld b 1 x
  have h1 := ds1 (ld := ld) hb (x := x)
  by_cases hx : x = b
  · subst hx; rw [ds_b]; simp
  · have h0 : dsF ld b 0 x = -1 := by simp only [dsF]; rw [if_neg hx]
    cases hl : ld x b with
    | true => rw [h1.mpr ⟨hx, hl⟩]; simp
    | false =>
      have : dsF ld b 1 x ≠ 1 := fun q => by have := (h1.mp q).2; rw [hl] at this; cases this
      have h2 : dsF ld b 1 x = 1 ∨ dsF ld b 1 x = dsF ld b 0 x := dsE 0 x
      rw [h0] at h2
      simp [hx, h2.resolve_left this]
theorem ds1' (hb : tgP b) {f : Nat} (hf : 1 ≤ f) {x : Int} : dsF ld b f x = 1 ↔ x ≠ b ∧ ld x b = true := by
  induction f with
  | zero => omega
  | succ f ih =>
    by_cases h1 : f = 0
    · subst h1; exact ds1 hb
    · rw [← ih (by omega)]
      by_cases hn : dsF ld b f x = -1
      · simp only [dsF]
        rw [hn]
        split
        · constructor <;> intro q <;> omega
        · rfl
      · rw [ds_m hn]
theorem ds2 (hb : tgP b) {x : Int} : dsF ld b 2 x = 2 ↔ (x ≠ b ∧ ld x b = false) ∧ ∃ y : Nat, y < 4 ∧ ((y : Int) ≠ b ∧ ld y b = true) ∧ ld x y = true := by
  have h := dsS (ld := ld) (b := b) (f := 1) (x := x)
  have e : (dsF ld b (1 + 1) x = ((1 : Nat) : Int) + 1) = (dsF ld b 2 x = 2) := rfl
  rw [e, ds1n hb] at h
  rw [h]
  constructor
  · rintro ⟨h1, j, hj4, hj, hj2⟩
    exact ⟨h1, j, hj4, (ds1 hb).mp hj, hj2⟩
  · rintro ⟨h1, j, hj4, hj, hj2⟩
    exact ⟨h1, j, hj4, (ds1 hb).mpr hj, hj2⟩
theorem ds2' (_ : tgP b) {x : Int} : dsF ld b 3 x = 2 ↔ dsF ld b 2 x = 2 := by
  by_cases hn : dsF ld b 2 x = -1
  · have h := dsE (ld := ld) (b := b) 2 x
    rw [hn] at h ⊢
    have h' : dsF ld b 3 x = 3 ∨ dsF ld b 3 x = -1 := h
    omega
  · rw [ds_m hn]
theorem ds3 {x : Int} : dsF ld b 3 x = 3 ↔ dsF ld b 2 x = -1 ∧ ∃ y : Nat, y < 4 ∧ dsF ld b 2 y = 2 ∧ ld x y = true := dsS (ld := ld) (b := b) (f := 2) (x := x)
/-- the reference's search: pairs by number -/
def pZ (ld : Int → Int → Bool) (a b : Int) (i : Nat) : Int := fcZ ld a b ((i / 4 : Nat) : Int) ((i % 4 : Nat) : Int)
def pV (ld : Int → Int → Bool) (a b : Int) (i : Nat) : CS := (pZ ld a b i, if pZ ld a b i = 2 then b else ((i / 4 : Nat) : Int), if pZ ld a b i = 3 then b else ((i % 4 : Nat) : Int))
def pI (ld : Int → Int → Bool) (a b : Int) (s : CS) (N : Nat) : Prop := (s.1 = 0 ∧ ∀ i, i < N → pZ ld a b i = 0) ∨ ∃ i0, i0 < N ∧ 0 < pZ ld a b i0 ∧ s = pV ld a b i0 ∧ (∀ i, i < N → pZ ld a b i = 0 ∨ pZ ld a b i0 ≤ pZ ld a b i) ∧ ∀ i, i < i0 → pZ ld a b i = 0 ∨ pZ ld a b i0 < pZ ld a b i
theorem pI_s {s : CS} {x y : Nat} (hy : y < 4) (h : pI ld a b s (4 * x + y)) : pI ld a b (fcS ld a b s x y) (4 * x + y + 1) := by
  have e1 : (4 * x + y) / 4 = x := by omega
  have e2 : (4 * x + y) % 4 = y := by omega
  have eZ : pZ ld a b (4 * x + y) = fcZ ld a b x y := by unfold pZ; rw [e1, e2]
  have eV : pV ld a b (4 * x + y) = (fcZ ld a b x y, if fcZ ld a b x y = 2 then b else (x : Int), if fcZ ld a b x y = 3 then b else (y : Int)) := by unfold pV; rw [eZ, e1, e2]
  have hB := fcZ_B ld a b x y
  unfold fcS
  rw [← eV, ← eZ]
  rw [← eZ] at hB
  generalize 4 * x + y = N at *
  have lst : ∀ i, i < N + 1 → i < N ∨ i = N := fun i hi => by omega
  rcases h with ⟨h0, hz⟩ | ⟨i0, hi0, hp, hs, hm, he⟩
  · by_cases hc : 0 < pZ ld a b N
    · rw [if_pos ⟨hc, Or.inl h0⟩]
      refine Or.inr ⟨N, by omega, hc, rfl, fun i hi => ?_, fun i hi => Or.inl (hz i hi)⟩
      rcases lst i hi with h1 | h1
      · exact Or.inl (hz i h1)
      · subst h1; exact Or.inr (Int.le_refl _)
    · rw [if_neg (fun q => hc q.1)]
      refine Or.inl ⟨h0, fun i hi => ?_⟩
      rcases lst i hi with h1 | h1
      · exact hz i h1
      · subst h1; omega
  · have hs1 : s.1 = pZ ld a b i0 := by rw [hs]; rfl
    by_cases hc : 0 < pZ ld a b N ∧ pZ ld a b N < pZ ld a b i0
    · rw [if_pos ⟨hc.1, Or.inr (by omega)⟩]
      refine Or.inr ⟨N, by omega, hc.1, rfl, fun i hi => ?_, fun i hi => ?_⟩
      · rcases lst i hi with h1 | h1
        · rcases hm i h1 with h2 | h2
          · exact Or.inl h2
          · exact Or.inr (by omega)
        · subst h1; exact Or.inr (Int.le_refl _)
      · rcases hm i hi with h2 | h2
        · exact Or.inl h2
        · exact Or.inr (by omega)
    · rw [if_neg (fun q => hc ⟨q.1, by rcases q.2 with q2 | q2 <;> omega⟩)]
      refine Or.inr ⟨i0, by omega, hp, hs, fun i hi => ?_, he⟩
      rcases lst i hi with h1 | h1
      · exact hm i h1
      · subst h1; omega
theorem pI_y {s : CS} {x : Nat} (h : pI ld a b s (4 * x)) : ∀ y : Nat, y ≤ 4 → pI ld a b (fcY ld a b s x y) (4 * x + y)
  | 0, _ => h
  | y + 1, hy => pI_s (by omega) (pI_y h y (by omega))
theorem pI_x : ∀ x : Nat, pI ld a b (fcX ld a b x) (4 * x)
  | 0 => Or.inl ⟨rfl, fun i hi => by omega⟩
  | x + 1 => pI_y (pI_x x) 4 (by omega)
/-- the chain is the first of the shortest -/
def gdC (ld : Int → Int → Bool) (a b : Int) (s : CS) : Prop :=
  (s.1 = 2 ∧ ld a b = true ∧ s.2.1 = b) ∨
  (s.1 = 3 ∧ ld a b = false ∧ ∃ x : Nat, x < 4 ∧ s.2 = ((x : Int), b) ∧ (ld a x = true ∧ ld x b = true) ∧ ∀ x' : Nat, x' < x → ¬ (ld a x' = true ∧ ld x' b = true)) ∨
  (s.1 = 4 ∧ ld a b = false ∧ (∀ x : Nat, x < 4 → ¬ (ld a x = true ∧ ld x b = true)) ∧ ∃ x y : Nat, x < 4 ∧ y < 4 ∧ s.2 = ((x : Int), (y : Int)) ∧ (ld a x = true ∧ ld x y = true ∧ ld y b = true) ∧ (∀ x' y' : Nat, x' < x → y' < 4 → ¬ (ld a x' = true ∧ ld x' y' = true ∧ ld y' b = true)) ∧ ∀ y' : Nat, y' < y → ¬ (ld x y' = true ∧ ld y' b = true)) ∨
  (s.1 = 0 ∧ ld a b = false ∧ (∀ x : Nat, x < 4 → ¬ (ld a x = true ∧ ld x b = true)) ∧ ∀ x y : Nat, x < 4 → y < 4 → ¬ (ld a x = true ∧ ld x y = true ∧ ld y b = true))
theorem fcZ_2 {x y : Int} : fcZ ld a b x y = 2 ↔ ld a b = true := by unfold fcZ; (repeat' split) <;> simp_all
theorem fcZ_3 {x y : Int} : fcZ ld a b x y = 3 ↔ ld a b = false ∧ ld a x = true ∧ ld x b = true := by unfold fcZ; (repeat' split) <;> simp_all
theorem fcZ_4 {x y : Int} : fcZ ld a b x y = 4 ↔ ld a b = false ∧ ¬ (ld a x = true ∧ ld x b = true) ∧ ld a x = true ∧ ld x y = true ∧ ld y b = true := by unfold fcZ; (repeat' split) <;> simp_all
theorem fcZ_v (x y : Int) : fcZ ld a b x y = 0 ∨ fcZ ld a b x y = 2 ∨ fcZ ld a b x y = 3 ∨ fcZ ld a b x y = 4 := by unfold fcZ; (repeat' split) <;> simp
theorem pZ_xy {x y : Nat} (hy : y < 4) : pZ ld a b (4 * x + y) = fcZ ld a b x y := by
  unfold pZ; rw [show (4 * x + y) / 4 = x by omega, show (4 * x + y) % 4 = y by omega]
theorem chS_gd : gdC ld a b (chS ld a b) := by
  have h := pI_x (ld := ld) (a := a) (b := b) 4
  unfold chS
  generalize fcX ld a b 4 = s at h
  have nf : ∀ {p : Bool}, ¬ p = true → p = false := fun {p} h => by cases p <;> simp_all
  rcases h with ⟨h0, hz⟩ | ⟨i0, hi0, hp, hs, hm, he⟩
  · have hzz : ∀ x y : Nat, x < 4 → y < 4 → fcZ ld a b x y = 0 := fun x y hx hy => by rw [← pZ_xy hy]; exact hz _ (by omega)
    have hab : ld a b = false := nf (fun q => by have := hzz 0 0 (by omega) (by omega); rw [fcZ_2.mpr q] at this; omega)
    have h3 : ∀ x : Nat, x < 4 → ¬ (ld a x = true ∧ ld x b = true) := fun x hx q => by have := hzz x 0 hx (by omega); rw [fcZ_3.mpr ⟨hab, q⟩] at this; omega
    exact Or.inr (Or.inr (Or.inr ⟨h0, hab, h3, fun x y hx hy q => by have := hzz x y hx hy; rw [fcZ_4.mpr ⟨hab, h3 x hx, q⟩] at this; omega⟩))
  · obtain ⟨x, y, hx, hy, rfl⟩ : ∃ x y : Nat, x < 4 ∧ y < 4 ∧ i0 = 4 * x + y := ⟨i0 / 4, i0 % 4, by omega, by omega, by omega⟩
    have eV : s = (fcZ ld a b x y, if fcZ ld a b x y = 2 then b else (x : Int), if fcZ ld a b x y = 3 then b else (y : Int)) := by
      rw [hs]; unfold pV; rw [pZ_xy hy, show (4 * x + y) / 4 = x by omega, show (4 * x + y) % 4 = y by omega]
    rw [pZ_xy hy] at hp
    have hm' : ∀ x' y' : Nat, x' < 4 → y' < 4 → fcZ ld a b x' y' = 0 ∨ fcZ ld a b x y ≤ fcZ ld a b x' y' := fun x' y' hx' hy' => by
      have := hm (4 * x' + y') (by omega); rw [pZ_xy hy', pZ_xy hy] at this; exact this
    have he' : ∀ x' y' : Nat, y' < 4 → (x' < x ∨ x' = x ∧ y' < y) → fcZ ld a b x' y' = 0 ∨ fcZ ld a b x y < fcZ ld a b x' y' := fun x' y' hy' hlt => by
      have := he (4 * x' + y') (by omega); rw [pZ_xy hy', pZ_xy hy] at this; exact this
    rcases fcZ_v (ld := ld) (a := a) (b := b) x y with hv | hv | hv | hv
    · omega
    · left
      rw [eV, hv]
      exact ⟨rfl, fcZ_2.mp hv, rfl⟩
    · right; left
      rw [hv] at eV he'
      obtain ⟨hab, h3⟩ := fcZ_3.mp hv
      refine ⟨by rw [eV], hab, x, hx, by rw [eV]; simp, h3, fun x' hx' q => ?_⟩
      have := he' x' 0 (by omega) (Or.inl hx')
      rw [fcZ_3.mpr ⟨hab, q⟩] at this
      omega
    · right; right; left
      rw [hv] at eV he' hm'
      obtain ⟨hab, h3, h4⟩ := fcZ_4.mp hv
      have h3' : ∀ x' : Nat, x' < 4 → ¬ (ld a x' = true ∧ ld x' b = true) := fun x' hx' q => by
        have := hm' x' 0 hx' (by omega); rw [fcZ_3.mpr ⟨hab, q⟩] at this; omega
      refine ⟨by rw [eV], hab, h3', x, y, hx, hy, by rw [eV]; simp, h4, fun x' y' hx' hy' q => ?_, fun y' hy' q => ?_⟩
      · have := he' x' y' hy' (Or.inl hx'); rw [fcZ_4.mpr ⟨hab, h3' x' (by omega), q⟩] at this; omega
      · have := he' x y' (by omega) (Or.inr ⟨rfl, hy'⟩); rw [fcZ_4.mpr ⟨hab, h3' x hx, h4.1, q⟩] at this; omega
theorem nr_b {st : Int → Int} (h : st b = 0) : nrF ld st b = -1 := by
  unfold nrF; rw [if_neg (by omega)]
theorem nr_t {st : Int → Int} {x : Int} {y : Nat} (hx : tgP x) (h0 : 0 < st x) (hy : y < 4) (h1 : st y = st x - 1) (h2 : ld x y = true) (hm : ∀ y' : Nat, y' < y → ¬ (st y' = st x - 1 ∧ ld x y' = true)) : nrF ld st x = y := by
  unfold nrF
  rw [if_pos ⟨by omega, h0⟩]
  refine fsF_t ?_ (fun j hj => ?_) 4 hy
  · rw [Bool.and_eq_true]; exact ⟨decide_eq_true h1, h2⟩
  · cases hc : (decide (st j = st x - 1) && ld x j) with
    | false => rfl
    | true =>
      rw [Bool.and_eq_true] at hc
      exact absurd ⟨of_decide_eq_true hc.1, hc.2⟩ (hm j hj)
/-- what the class's way along comes to -/
theorem hN_gd (ha : tgP a) (hb : tgP b) (hab : a ≠ b) {s : CS} (hs : gdC ld a b s) {k : Nat} (hk0 : 0 < k) (hk4 : k ≤ 4) (h1 : ∀ i, i < k → hN ld (dsF ld b 3) a i ≠ -1) (h2 : k = 4 ∨ hN ld (dsF ld b 3) a k = -1) : (if hN ld (dsF ld b 3) a (k - 1) = b then (k : Int) else 0) = s.1 ∧ ∀ i : Nat, (i : Int) < s.1 → hN ld (dsF ld b 3) a i = chAt a b s i := by
  have bT := fun {x : Int} => ds1' (ld := ld) hb (f := 3) (by omega) (x := x)
  have hb0 : dsF ld b 3 b = 0 := ds_b 3
  have hbn := nr_b (ld := ld) (st := dsF ld b 3) hb0
  have eb : ((b.toNat : Nat) : Int) = b := by omega
  -- one step to b
  have toB : ∀ x : Int, tgP x → dsF ld b 3 x = 1 → nrF ld (dsF ld b 3) x = b := fun x hx h => by
    have hl := (bT.mp h).2
    have := nr_t (ld := ld) (st := dsF ld b 3) (x := x) (y := b.toNat) hx (by omega) (by omega) (by rw [eb, hb0, h]; rfl) (by rw [eb]; exact hl) (fun y' hy' q => by
      rw [h] at q
      by_cases hyb : (y' : Int) = b
      · omega
      · have hB := dsF_B ld b 3 y'
        have q1 : dsF ld b 3 y' = 0 := q.1
        have hz : ∀ f : Nat, dsF ld b f y' ≠ 0 := fun f => by
          induction f with
          | zero => intro q2; exact hyb (ds0.mp q2)
          | succ f ih =>
            by_cases hn : dsF ld b f y' = -1
            · simp only [dsF]; split <;> omega
            · rw [ds_m hn]; exact ih
        exact hz 3 q1)
    rw [this, eb]
  have nf : ∀ {p : Bool}, ¬ p = true → p = false := fun {p} h => by cases p <;> simp_all
  rcases hs with ⟨e1, hl, e2⟩ | ⟨e1, hl, x, hx, e2, hx1, hxm⟩ | ⟨e1, hl, h3, x, y, hx, hy, e2, hx1, hxm, hym⟩ | ⟨e1, hl, h3, h4⟩
  · have sa : dsF ld b 3 a = 1 := bT.mpr ⟨hab, hl⟩
    have n1 : hN ld (dsF ld b 3) a 1 = b := toB a ha sa
    have n2 : hN ld (dsF ld b 3) a 2 = -1 := by show nrF _ _ (hN ld (dsF ld b 3) a 1) = -1; rw [n1]; exact hbn
    have hk2 : k = 2 := by
      rcases Nat.lt_or_ge 2 k with h | h
      · exact absurd n2 (h1 2 h)
      · rcases Nat.lt_or_ge k 2 with h5 | h5
        · have : k = 1 := by omega
          subst this
          rcases h2 with h2 | h2
          · omega
          · rw [n1] at h2; omega
        · omega
    subst hk2
    refine ⟨by rw [show hN ld (dsF ld b 3) a (2 - 1) = b from n1, if_pos rfl, e1]; rfl, fun i hi => ?_⟩
    rw [e1] at hi
    rcases (show i = 0 ∨ i = 1 by omega) with rfl | rfl
    · rfl
    · rw [n1]; exact e2.symm
  · have sx : dsF ld b 3 x = 1 := bT.mpr ⟨fun q => by rw [q, hl] at hx1; simp at hx1, hx1.2⟩
    have hxb : (x : Int) ≠ b := fun q => by rw [q, hl] at hx1; simp at hx1
    have sa : dsF ld b 3 a = 2 := (ds2' hb).mpr ((ds2 hb).mpr ⟨⟨hab, hl⟩, x, hx, ⟨hxb, hx1.2⟩, hx1.1⟩)
    have n1 : hN ld (dsF ld b 3) a 1 = x := by
      refine nr_t (ld := ld) (st := dsF ld b 3) ha (by show 0 < dsF ld b 3 a; omega) hx (by show dsF ld b 3 x = dsF ld b 3 a - 1; omega) hx1.1 (fun y' hy' q => ?_)
      have q1 : dsF ld b 3 y' = 1 := by have q0 : dsF ld b 3 y' = dsF ld b 3 a - 1 := q.1; omega
      exact hxm y' hy' ⟨q.2, (bT.mp q1).2⟩
    have n2 : hN ld (dsF ld b 3) a 2 = b := by show nrF _ _ (hN ld (dsF ld b 3) a 1) = b; rw [n1]; exact toB x ⟨by omega, by omega⟩ sx
    have n3 : hN ld (dsF ld b 3) a 3 = -1 := by show nrF _ _ (hN ld (dsF ld b 3) a 2) = -1; rw [n2]; exact hbn
    have hk3 : k = 3 := by
      rcases Nat.lt_or_ge 3 k with h | h
      · exact absurd n3 (h1 3 h)
      · rcases (show k = 1 ∨ k = 2 ∨ k = 3 by omega) with rfl | rfl | rfl
        · rcases h2 with h2 | h2
          · omega
          · rw [n1] at h2; omega
        · rcases h2 with h2 | h2
          · omega
          · rw [n2] at h2; omega
        · rfl
    subst hk3
    refine ⟨by rw [show hN ld (dsF ld b 3) a (3 - 1) = b from n2, if_pos rfl, e1]; rfl, fun i hi => ?_⟩
    rw [e1] at hi
    rcases (show i = 0 ∨ i = 1 ∨ i = 2 by omega) with rfl | rfl | rfl
    · rfl
    · rw [n1]; show _ = s.2.1; rw [e2]
    · rw [n2]; show _ = s.2.2; rw [e2]
  · have hyb : (y : Int) ≠ b := fun q => by rw [q] at hx1; exact h3 x hx ⟨hx1.1, hx1.2.1⟩
    have hxb : (x : Int) ≠ b := fun q => by rw [q, hl] at hx1; simp at hx1
    have hxl : ld x b = false := nf (fun q => h3 x hx ⟨hx1.1, q⟩)
    have sy : dsF ld b 3 y = 1 := bT.mpr ⟨hyb, hx1.2.2⟩
    have sx2 : dsF ld b 2 x = 2 := (ds2 hb).mpr ⟨⟨hxb, hxl⟩, y, hy, ⟨hyb, hx1.2.2⟩, hx1.2.1⟩
    have sx : dsF ld b 3 x = 2 := (ds2' hb).mpr sx2
    have sa2 : dsF ld b 2 a = -1 := by
      have hB := dsF_B ld b 2 a
      have b0 : dsF ld b 2 a ≠ 0 := fun q => by
        have hz : ∀ f : Nat, dsF ld b f a ≠ 0 := fun f => by
          induction f with
          | zero => intro q2; exact hab (ds0.mp q2)
          | succ f ih =>
            by_cases hn : dsF ld b f a = -1
            · simp only [dsF]; split <;> omega
            · rw [ds_m hn]; exact ih
        exact hz 2 q
      have b1 : dsF ld b 2 a ≠ 1 := fun q => by have := ((ds1' (ld := ld) hb (f := 2) (by omega)).mp q).2; rw [hl] at this; cases this
      have b2 : dsF ld b 2 a ≠ 2 := fun q => by
        obtain ⟨_, z, hz, hz1, hz2⟩ := (ds2 hb).mp q
        exact h3 z hz ⟨hz2, hz1.2⟩
      have hB2 : dsF ld b 2 a ≤ 2 := hB.2
      omega
    have sa : dsF ld b 3 a = 3 := ds3.mpr ⟨sa2, x, hx, sx2, hx1.1⟩
    have n1 : hN ld (dsF ld b 3) a 1 = x := by
      refine nr_t (ld := ld) (st := dsF ld b 3) ha (by show 0 < dsF ld b 3 a; omega) hx (by show dsF ld b 3 x = dsF ld b 3 a - 1; omega) hx1.1 (fun y' hy' q => ?_)
      have q1 : dsF ld b 3 y' = 2 := by have q0 : dsF ld b 3 y' = dsF ld b 3 a - 1 := q.1; omega
      obtain ⟨_, z, hz, hz1, hz2⟩ := (ds2 hb).mp ((ds2' hb).mp q1)
      exact hxm y' z hy' hz ⟨q.2, hz2, hz1.2⟩
    have n2 : hN ld (dsF ld b 3) a 2 = y := by
      show nrF _ _ (hN ld (dsF ld b 3) a 1) = y
      rw [n1]
      refine nr_t (ld := ld) (st := dsF ld b 3) ⟨by omega, by omega⟩ (by show 0 < dsF ld b 3 x; omega) hy (by show dsF ld b 3 y = dsF ld b 3 x - 1; omega) hx1.2.1 (fun y' hy' q => ?_)
      have q1 : dsF ld b 3 y' = 1 := by have q0 : dsF ld b 3 y' = dsF ld b 3 x - 1 := q.1; omega
      exact hym y' hy' ⟨q.2, (bT.mp q1).2⟩
    have n3 : hN ld (dsF ld b 3) a 3 = b := by show nrF _ _ (hN ld (dsF ld b 3) a 2) = b; rw [n2]; exact toB y ⟨by omega, by omega⟩ sy
    have hk4' : k = 4 := by
      rcases (show k = 1 ∨ k = 2 ∨ k = 3 ∨ k = 4 by omega) with rfl | rfl | rfl | rfl
      · rcases h2 with h2 | h2
        · omega
        · rw [n1] at h2; omega
      · rcases h2 with h2 | h2
        · omega
        · rw [n2] at h2; omega
      · rcases h2 with h2 | h2
        · omega
        · rw [n3] at h2; omega
      · rfl
    subst hk4'
    refine ⟨by rw [show hN ld (dsF ld b 3) a (4 - 1) = b from n3, if_pos rfl, e1]; rfl, fun i hi => ?_⟩
    rw [e1] at hi
    rcases (show i = 0 ∨ i = 1 ∨ i = 2 ∨ i = 3 by omega) with rfl | rfl | rfl | rfl
    · rfl
    · rw [n1]; show _ = s.2.1; rw [e2]
    · rw [n2]; show _ = s.2.2; rw [e2]
    · rw [n3]; rfl
  · have sa : ¬ 0 < dsF ld b 3 a := by
      have hB := dsF_B ld b 3 a
      have hB3 : dsF ld b 3 a ≤ 3 := hB.2
      have b1 : dsF ld b 3 a ≠ 1 := fun q => by have := (bT.mp q).2; rw [hl] at this; cases this
      have b2 : dsF ld b 3 a ≠ 2 := fun q => by
        obtain ⟨_, z, hz, hz1, hz2⟩ := (ds2 hb).mp ((ds2' hb).mp q)
        exact h3 z hz ⟨hz2, hz1.2⟩
      have b3 : dsF ld b 3 a ≠ 3 := fun q => by
        obtain ⟨_, z, hz, hz1, hz2⟩ := ds3.mp q
        obtain ⟨_, v, hv, hv1, hv2⟩ := (ds2 hb).mp hz1
        exact h4 z v hz hv ⟨hz2, hv2, hv1.2⟩
      omega
    have n1 : hN ld (dsF ld b 3) a 1 = -1 := by show nrF _ _ a = -1; unfold nrF; rw [if_neg (fun q => sa q.2)]
    have hk1 : k = 1 := by
      rcases Nat.lt_or_ge 1 k with h | h
      · exact absurd n1 (h1 1 h)
      · omega
    subst hk1
    refine ⟨by rw [show hN ld (dsF ld b 3) a (1 - 1) = a from rfl, if_neg hab, e1], fun i hi => ?_⟩
    rw [e1] at hi; omega
end

