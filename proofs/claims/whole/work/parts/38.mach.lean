/-! ===== reading a text: what stands next, byte by byte ===== -/
abbrev Dr : Type := Nat → Int → Int
abbrev St : Type := Int × Int × Int × Dr
abbrev dgP (T : Int → Int) (n p : Int) : Prop := p < n ∧ 48 ≤ T p ∧ T p ≤ 57
/-- how many figures stand from p on -/
def dcN (T : Int → Int) (n : Int) : Nat → Int → Int
  | 0, _ => 0
  | f + 1, p => if dgP T n p then dcN T n f (p + 1) + 1 else 0
def dc (T : Int → Int) (n p : Int) : Int := dcN T n (n - p).toNat p
theorem dc_t {T : Int → Int} {n p : Int} (h : dgP T n p) : dc T n p = dc T n (p + 1) + 1 := by
  unfold dc
  rw [show (n - p).toNat = (n - (p + 1)).toNat + 1 by omega]
  simp only [dcN]
  rw [if_pos h]
theorem dc_f {T : Int → Int} {n p : Int} (h : ¬ dgP T n p) : dc T n p = 0 := by
  unfold dc
  cases (n - p).toNat with
  | zero => rfl
  | succ k => simp only [dcN]; rw [if_neg h]
theorem dcN_B (T : Int → Int) (n : Int) : ∀ (f : Nat) (p : Int), 0 ≤ dcN T n f p ∧ dcN T n f p ≤ f
  | 0, _ => by simp [dcN]
  | f + 1, p => by
    have := dcN_B T n f (p + 1)
    simp only [dcN]
    split <;> omega
theorem dc_B {T : Int → Int} {n p : Int} (h : p ≤ n) : 0 ≤ dc T n p ∧ dc T n p ≤ n - p := by
  have := dcN_B T n (n - p).toNat p
  unfold dc
  omega
/-- where the first byte stands that is no space -/
def skN (T : Int → Int) (n : Int) : Nat → Int → Int
  | 0, p => p
  | f + 1, p => if p < n ∧ T p = 32 then skN T n f (p + 1) else p
def sk (T : Int → Int) (n p : Int) : Int := skN T n (n - p).toNat p
theorem sk_t {T : Int → Int} {n p : Int} (h : p < n ∧ T p = 32) : sk T n p = sk T n (p + 1) := by
  unfold sk
  rw [show (n - p).toNat = (n - (p + 1)).toNat + 1 by omega]
  simp only [skN]
  rw [if_pos h]
theorem sk_f {T : Int → Int} {n p : Int} (h : ¬ (p < n ∧ T p = 32)) : sk T n p = p := by
  unfold sk
  cases (n - p).toNat with
  | zero => rfl
  | succ k => simp only [skN]; rw [if_neg h]
theorem skN_B (T : Int → Int) (n : Int) : ∀ (f : Nat) (p : Int), f = (n - p).toNat → p ≤ n → p ≤ skN T n f p ∧ skN T n f p ≤ n ∧ ¬ (skN T n f p < n ∧ T (skN T n f p) = 32)
  | 0, p, h, h2 => by simp only [skN]; omega
  | f + 1, p, h, h2 => by
    simp only [skN]
    split
    · have := skN_B T n f (p + 1) (by omega) (by omega)
      omega
    · rename_i h3
      exact ⟨by omega, by omega, h3⟩
theorem sk_B {T : Int → Int} {n p : Int} (h : p ≤ n) : p ≤ sk T n p ∧ sk T n p ≤ n ∧ ¬ (sk T n p < n ∧ T (sk T n p) = 32) := skN_B T n _ p rfl h
theorem sk_i {T : Int → Int} {n p : Int} (h : p ≤ n) : sk T n (sk T n p) = sk T n p := sk_f (sk_B h).2.2
/-- the number of the first figures, of two at most -/
def vN (T : Int → Int) (p : Int) : Nat → Int
  | 0 => 0
  | k + 1 => if k < 2 then vN T p k * 10 + T (p + k) - 48 else vN T p k
/-- as the reference takes it -/
def nN (T : Int → Int) (p : Int) : Nat → Int
  | 0 => 0
  | k + 1 => if 10000 < nN T p k then nN T p k else 10 * nN T p k + T (p + k) - 48
theorem nN_B {T : Int → Int} {p : Int} : ∀ k : Nat, (∀ j : Nat, j < k → 48 ≤ T (p + j) ∧ T (p + j) ≤ 57) → 0 ≤ nN T p k ∧ nN T p k ≤ 100009
  | 0, _ => by simp [nN]
  | k + 1, h => by
    have ih := nN_B k (fun j hj => h j (by omega))
    have := h k (by omega)
    simp only [nN]
    split <;> omega
theorem nN_s {T : Int → Int} {p : Int} {k : Nat} (h : nN T p k ≤ 10000) : nN T p (k + 1) = 10 * nN T p k + T (p + k) - 48 := by simp only [nN]; rw [if_neg (by omega)]
theorem vN_s {T : Int → Int} {p : Int} {k : Nat} (h : k < 2) : vN T p (k + 1) = vN T p k * 10 + T (p + k) - 48 := by simp only [vN]; rw [if_pos h]
theorem vN_e {T : Int → Int} {p : Int} {k : Nat} (h : ¬ k < 2) : vN T p (k + 1) = vN T p k := by simp only [vN]; rw [if_neg h]
theorem nN_v {T : Int → Int} {p : Int} {k : Nat} (hk : k ≤ 2) (h : ∀ j : Nat, j < k → 48 ≤ T (p + j) ∧ T (p + j) ≤ 57) : nN T p k = vN T p k ∧ 0 ≤ vN T p k ∧ vN T p k ≤ 99 := by
  have a0 : nN T p 0 = 0 := rfl
  have b0 : vN T p 0 = 0 := rfl
  have a1 : nN T p 1 = 10 * nN T p 0 + T (p + (0 : Nat)) - 48 := nN_s (by omega)
  have b1 : vN T p 1 = vN T p 0 * 10 + T (p + (0 : Nat)) - 48 := vN_s (by omega)
  have b2 : vN T p 2 = vN T p 1 * 10 + T (p + (1 : Nat)) - 48 := vN_s (by omega)
  match k, hk with
  | 0, _ => omega
  | 1, _ =>
    have h0 := h 0 (by omega)
    omega
  | 2, _ =>
    have h0 := h 0 (by omega)
    have h1 := h 1 (by omega)
    have a2 : nN T p 2 = 10 * nN T p 1 + T (p + (1 : Nat)) - 48 := nN_s (by omega)
    omega
/-- all of the first dc bytes are figures -/
theorem dc_dg {T : Int → Int} {n : Int} : ∀ (k : Nat) (p : Int), (k : Int) < dc T n p → dgP T n (p + k)
  | 0, p, h => by
    apply Classical.byContradiction
    intro hc
    rw [dc_f (fun q => hc (by simpa using q))] at h
    simp at h
  | k + 1, p, h => by
    have h0 : dgP T n p := Classical.byContradiction (fun q => by rw [dc_f q] at h; omega)
    rw [dc_t h0] at h
    have := dc_dg (T := T) (n := n) k (p + 1) (by omega)
    rw [show p + ((k + 1 : Nat) : Int) = p + 1 + k by omega]
    exact this
/-- a sense begins; a word is added -/
def addS (D : Dr) (h : Int) : Dr := up (up (up D 36 h (D 36 h + 1)) 37 (3 * h + D 36 h) (-1)) 38 (3 * h + D 36 h) 0
def addW (D : Dr) (i v : Int) : Dr := up (up (up D 39 (6 * i + D 38 i) v) 40 (6 * i + D 38 i) 0) 38 i (D 38 i + 1)
/-- the sense at work -/
abbrev cur (D : Dr) (h : Int) : Int := 3 * h + (D 36 h - 1)
def stp (T : Int → Int) (n nx hd pl : Int) (D : Dr) : Int ⊕ St :=
  if dgP T n pl then
    (if nx = 0 ∨ nx = 2 ∨ nx = 3 ∨ nx = 5 then
      (if 2 < dc T n pl ∨ (if nx = 3 then 6 else 60) ≤ vN T pl (dc T n pl).toNat then .inl 2
      else if nx = 0 then (if D 41 (vN T pl (dc T n pl).toNat) = 1 then .inl 3 else .inr (1, vN T pl (dc T n pl).toNat, pl + dc T n pl, up D 41 (vN T pl (dc T n pl).toNat) 1))
      else if nx = 3 then .inr (4, hd, pl + dc T n pl, up D 37 (cur D hd) (vN T pl (dc T n pl).toNat))
      else if anyB (fun k => decide (D 39 (6 * cur D hd + k) = vN T pl (dc T n pl).toNat)) (D 38 (cur D hd)).toNat = true then .inl 4
      else if 6 ≤ D 38 (cur D hd) then .inl 5
      else .inr (6, hd, pl + dc T n pl, addW D (cur D hd) (vN T pl (dc T n pl).toNat)))
    else .inl 1)
  else if T pl = 32 then .inr (nx, hd, pl + 1, D)
  else if (T pl = 58 ∧ nx = 1) ∨ (T pl = 124 ∧ (nx = 6 ∨ nx = 7)) then (if 3 ≤ D 36 hd then .inl 5 else .inr (2, hd, pl + 1, addS D hd))
  else if T pl = 40 ∧ nx = 2 then .inr (3, hd, pl + 1, D)
  else if T pl = 41 ∧ nx = 4 then .inr (5, hd, pl + 1, D)
  else if T pl = 44 ∧ (nx = 6 ∨ nx = 7) then .inr (5, hd, pl + 1, D)
  else if T pl = 59 ∧ (nx = 6 ∨ nx = 7) then .inr (0, hd, pl + 1, D)
  else if T pl = 42 ∧ nx = 6 then .inr (7, hd, pl + 1, up D 40 (6 * cur D hd + (D 38 (cur D hd) - 1)) 1)
  else .inl 1
def rn (T : Int → Int) (n : Int) : Nat → St → Int × Int × Dr
  | 0, st => (0, 0, st.2.2.2)
  | f + 1, (nx, hd, pl, D) => if n ≤ pl then (if nx = 0 then (0, -1, D) else (1, n, D)) else match stp T n nx hd pl D with
    | .inl x => (x, pl, D)
    | .inr st => rn T n f st
theorem stp_pl {T : Int → Int} {n nx hd pl : Int} {D : Dr} {st : St} (h0 : pl < n) (h : stp T n nx hd pl D = .inr st) : pl < st.2.2.1 ∧ st.2.2.1 ≤ n := by
  have hd0 : dgP T n pl → 1 ≤ dc T n pl ∧ dc T n pl ≤ n - pl := fun hg => by
    rw [dc_t hg]
    have := dc_B (T := T) (n := n) (p := pl + 1) (by omega)
    omega
  unfold stp at h
  (repeat' split at h) <;> first | (cases h; done) | (have h2 := Sum.inr.inj h; rw [← h2]; dsimp only; first | omega | (have := hd0 (by assumption); omega))
theorem rn_fuel {T : Int → Int} {n : Int} : ∀ (f g : Nat) (st : St), (n - st.2.2.1).toNat < f → (n - st.2.2.1).toNat < g → rn T n f st = rn T n g st
  | 0, _, _, h, _ => by omega
  | _ + 1, 0, _, _, h => by omega
  | f + 1, g + 1, (nx, hd, pl, D), h1, h2 => by
    simp only [rn]
    dsimp only at h1 h2
    split
    · rfl
    · rename_i hp
      cases hs : stp T n nx hd pl D with
      | inl x => rfl
      | inr st =>
        have := stp_pl (by omega) hs
        exact rn_fuel f g st (by omega) (by omega)
def out (T : Int → Int) (n nx hd pl : Int) (D : Dr) : Int × Int × Dr := rn T n ((n - pl).toNat + 1) (nx, hd, pl, D)
theorem out_end {T : Int → Int} {n nx hd pl : Int} {D : Dr} (h : n ≤ pl) : out T n nx hd pl D = if nx = 0 then (0, -1, D) else (1, n, D) := by
  unfold out
  simp only [rn]
  rw [if_pos h]
theorem out_f {T : Int → Int} {n nx hd pl x : Int} {D : Dr} (h : pl < n) (hs : stp T n nx hd pl D = .inl x) : out T n nx hd pl D = (x, pl, D) := by
  unfold out
  simp only [rn]
  rw [if_neg (by omega), hs]
theorem out_s {T : Int → Int} {n nx hd pl nx' hd' pl' : Int} {D D' : Dr} (h : pl < n) (hs : stp T n nx hd pl D = .inr (nx', hd', pl', D')) : out T n nx hd pl D = out T n nx' hd' pl' D' := by
  have hp := stp_pl h hs
  unfold out
  simp only [rn]
  rw [if_neg (by omega), hs]
  dsimp only at hp
  exact rn_fuel (n - pl).toNat ((n - pl').toNat + 1) (nx', hd', pl', D') (show (n - pl').toNat < _ by omega) (show (n - pl').toNat < _ by omega)
theorem out_sp {T : Int → Int} {n nx hd pl : Int} {D : Dr} (h : pl < n) (h2 : T pl = 32) : out T n nx hd pl D = out T n nx hd (pl + 1) D := by
  refine out_s h ?_
  unfold stp
  rw [if_neg (by omega), if_pos h2]
theorem out_sk {T : Int → Int} {n nx hd : Int} {D : Dr} : ∀ (f : Nat) (pl : Int), (n - pl).toNat = f → pl ≤ n → out T n nx hd pl D = out T n nx hd (sk T n pl) D
  | 0, pl, h, h2 => by rw [sk_f (by omega)]
  | f + 1, pl, h, h2 => by
    by_cases hc : pl < n ∧ T pl = 32
    · rw [out_sp hc.1 hc.2, sk_t hc]
      exact out_sk f (pl + 1) (by omega) (by omega)
    · rw [sk_f hc]

