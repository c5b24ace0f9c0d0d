/-! ===== words for specs, and the rules that speak in them ===== -/
def bI (P : Prop) [Decidable P] : Int := if P then 1 else 0
theorem bI_01 (P : Prop) [Decidable P] : bI P = 0 ∨ bI P = 1 := by unfold bI; split <;> simp
theorem bI_R (P : Prop) [Decidable P] : inR (bI P) := by rcases bI_01 P with h | h <;> rw [h] <;> omega
theorem bI_t {P : Prop} [Decidable P] (h : P) : bI P = 1 := if_pos h
theorem bI_f {P : Prop} [Decidable P] (h : ¬ P) : bI P = 0 := if_neg h
theorem bI_0 {P : Prop} [Decidable P] : bI P = 0 ↔ ¬ P := by unfold bI; split <;> simp_all
theorem bI_1 {P : Prop} [Decidable P] : bI P ≠ 0 ↔ P := by unfold bI; split <;> simp_all
theorem bI_e1 {P : Prop} [Decidable P] : bI P = 1 ↔ P := by unfold bI; split <;> simp_all
theorem bI_congr {P P' : Prop} [Decidable P] [Decidable P'] (h : P ↔ P') : bI P = bI P' := by
  by_cases hp : P
  · rw [bI_t hp, bI_t (h.mp hp)]
  · rw [bI_f hp, bI_f (fun q => hp (h.mpr q))]
theorem cmp_R (x y : BitVec 64) : inR (cmpL x y) := by unfold cmpL; split <;> (try split) <;> omega
theorem cmp_0 {x y : BitVec 64} : cmpL x y = 0 ↔ x = y := by
  unfold cmpL
  by_cases h : y.toInt < x.toInt
  · rw [if_pos h]
    constructor
    · intro q; omega
    · intro q; subst q; omega
  · rw [if_neg h]
    by_cases h2 : x = y
    · rw [if_pos h2]; simp [h2]
    · rw [if_neg h2]; simp [h2]
theorem cmp_lt {x y : BitVec 64} : cmpL x y < 0 ↔ x.toInt < y.toInt := by
  unfold cmpL
  by_cases h : y.toInt < x.toInt
  · rw [if_pos h]; omega
  · rw [if_neg h]
    by_cases h2 : x = y
    · rw [if_pos h2]; subst h2; omega
    · rw [if_neg h2]
      have : x.toInt ≠ y.toInt := fun q => h2 (BitVec.eq_of_toInt_eq q)
      omega
theorem cmp_gt {x y : BitVec 64} : 0 < cmpL x y ↔ y.toInt < x.toInt := by
  unfold cmpL
  by_cases h : y.toInt < x.toInt
  · rw [if_pos h]; omega
  · rw [if_neg h]
    by_cases h2 : x = y
    · rw [if_pos h2]; omega
    · rw [if_neg h2]; omega
theorem qI {Q : Option AV → Mm → Prop} {m : Mm} {a z : Int} (hq : Q (some (vi a)) m) (h : z = a) : Q (some (vi z)) m := h ▸ hq
theorem qB_t {Q : Option AV → Mm → Prop} {m : Mm} {P : Prop} [Decidable P] (hq : Q (some (vi (bI P))) m) (h : P) : Q (some (vi 1)) m := bI_t h ▸ hq
theorem qB_f {Q : Option AV → Mm → Prop} {m : Mm} {P : Prop} [Decidable P] (hq : Q (some (vi (bI P))) m) (h : ¬ P) : Q (some (vi 0)) m := bI_f h ▸ hq
theorem qL {Q : Option AV → Mm → Prop} {m : Mm} {a z : BitVec 64} (hq : Q (some (vl a)) m) (h : z = a) : Q (some (vl z)) m := h ▸ hq
theorem qR {Q : Option AV → Mm → Prop} {m : Mm} {a z : Option Nat} (hq : Q (some (vr a)) m) (h : z = a) : Q (some (vr z)) m := h ▸ hq
section
variable {M : MD} {pc : Nat} {ls : List (Option AV)} {st : List AV} {m : Mm} {bd : Nat × Nat} {Q : Option AV → Mm → Prop}
theorem Wp.if_eqB {P : Prop} [Decidable P] {off : Int} {tgt : Nat} (hd : decode (mdC M) pc = .ok (.ifCond .eq off, 3)) (ht : (pc : Int) + off = (tgt : Int)) (kt : ¬ P → Wp M tgt ls st m bd Q) (kf : P → Wp M (pc + 3) ls st m bd Q) : Wp M pc ls (vi (bI P) :: st) m bd Q :=
  Wp.if_eq hd ht (bI_R P) (fun h => kt (bI_0.mp h)) (fun h => kf (bI_1.mp h))
theorem Wp.if_neB {P : Prop} [Decidable P] {off : Int} {tgt : Nat} (hd : decode (mdC M) pc = .ok (.ifCond .ne off, 3)) (ht : (pc : Int) + off = (tgt : Int)) (kt : P → Wp M tgt ls st m bd Q) (kf : ¬ P → Wp M (pc + 3) ls st m bd Q) : Wp M pc ls (vi (bI P) :: st) m bd Q :=
  Wp.if_ne hd ht (bI_R P) (fun h => kt (bI_1.mp h)) (fun h => kf (bI_0.mp h))
theorem Wp.if_eqC {x y : BitVec 64} {off : Int} {tgt : Nat} (hd : decode (mdC M) pc = .ok (.ifCond .eq off, 3)) (ht : (pc : Int) + off = (tgt : Int)) (kt : x = y → Wp M tgt ls st m bd Q) (kf : ¬ x = y → Wp M (pc + 3) ls st m bd Q) : Wp M pc ls (vi (cmpL x y) :: st) m bd Q :=
  Wp.if_eq hd ht (cmp_R x y) (fun h => kt (cmp_0.mp h)) (fun h => kf (fun q => h (cmp_0.mpr q)))
theorem Wp.if_neC {x y : BitVec 64} {off : Int} {tgt : Nat} (hd : decode (mdC M) pc = .ok (.ifCond .ne off, 3)) (ht : (pc : Int) + off = (tgt : Int)) (kt : ¬ x = y → Wp M tgt ls st m bd Q) (kf : x = y → Wp M (pc + 3) ls st m bd Q) : Wp M pc ls (vi (cmpL x y) :: st) m bd Q :=
  Wp.if_ne hd ht (cmp_R x y) (fun h => kt (fun q => h (cmp_0.mpr q))) (fun h => kf (cmp_0.mp h))
theorem Wp.if_ltC {x y : BitVec 64} {off : Int} {tgt : Nat} (hd : decode (mdC M) pc = .ok (.ifCond .lt off, 3)) (ht : (pc : Int) + off = (tgt : Int)) (kt : x.toInt < y.toInt → Wp M tgt ls st m bd Q) (kf : y.toInt ≤ x.toInt → Wp M (pc + 3) ls st m bd Q) : Wp M pc ls (vi (cmpL x y) :: st) m bd Q :=
  Wp.if_lt hd ht (cmp_R x y) (fun h => kt (cmp_lt.mp h)) (fun h => kf (Int.not_lt.mp (fun q => h (cmp_lt.mpr q))))
theorem Wp.if_gtC {x y : BitVec 64} {off : Int} {tgt : Nat} (hd : decode (mdC M) pc = .ok (.ifCond .gt off, 3)) (ht : (pc : Int) + off = (tgt : Int)) (kt : y.toInt < x.toInt → Wp M tgt ls st m bd Q) (kf : x.toInt ≤ y.toInt → Wp M (pc + 3) ls st m bd Q) : Wp M pc ls (vi (cmpL x y) :: st) m bd Q :=
  Wp.if_gt hd ht (cmp_R x y) (fun h => kt (cmp_gt.mp h)) (fun h => kf (Int.not_lt.mp (fun q => h (cmp_gt.mpr q))))
theorem Wp.ifnullS {off : Int} {o : Nat} (hd : decode (mdC M) pc = .ok (.ifnull off, 3)) (k : Wp M (pc + 3) ls st m bd Q) (tgt : Nat := ((pc : Int) + off).toNat) (ht : (pc : Int) + off = (tgt : Int) := by decide) : Wp M pc ls (vr (some o) :: st) m bd Q :=
  Wp.ifnull hd ht (fun h => by cases h) (fun _ _ => k)
theorem Wp.ifnonnullS {off : Int} {tgt o : Nat} (hd : decode (mdC M) pc = .ok (.ifnonnull off, 3)) (ht : (pc : Int) + off = (tgt : Int)) (k : Wp M tgt ls st m bd Q) : Wp M pc ls (vr (some o) :: st) m bd Q :=
  Wp.ifnonnull hd ht (fun _ _ => k) (fun h => by cases h)
theorem Wp.ifnullN {off : Int} {tgt : Nat} (hd : decode (mdC M) pc = .ok (.ifnull off, 3)) (ht : (pc : Int) + off = (tgt : Int)) (k : Wp M tgt ls st m bd Q) : Wp M pc ls (vr none :: st) m bd Q :=
  Wp.ifnull hd ht (fun _ => k) (fun _ h => by cases h)
theorem Wp.ifnonnullN {off : Int} (hd : decode (mdC M) pc = .ok (.ifnonnull off, 3)) (k : Wp M (pc + 3) ls st m bd Q) (tgt : Nat := ((pc : Int) + off).toNat) (ht : (pc : Int) + off = (tgt : Int) := by decide) : Wp M pc ls (vr none :: st) m bd Q :=
  Wp.ifnonnull hd ht (fun _ h => by cases h) (fun _ => k)
end
section
variable {M : MD} {pc : Nat} {ls : List (Option AV)} {st : List AV} {I : Nat → Int → Int} {L : Nat → Int → BitVec 64} {R : Nat → Int → Option Nat} {n : Nat} {bd : Nat × Nat} {Q : Option AV → Mm → Prop} {o idx c k : Nat}
theorem Wp.gi {kz : Int} (hz : (k : Int) = kz) (hd : decode (mdC M) pc = .ok (.getfield idx, 3)) (hf : wFI (mdY M).cls idx c k) (hkd : kd o = (c, fNN c)) (ho : o < n) (kk : Wp M (pc + 3) ls (vi (I o kz) :: st) (I, L, R, n) bd Q) : Wp M pc ls (vr (some o) :: st) (I, L, R, n) bd Q := by
  subst hz; exact Wp.geti hd hf hkd ho kk
theorem Wp.gl {kz : Int} (hz : (k : Int) = kz) (hd : decode (mdC M) pc = .ok (.getfield idx, 3)) (hf : wFL (mdY M).cls idx c k) (hkd : kd o = (c, fNN c)) (ho : o < n) (kk : Wp M (pc + 3) ls (vl (L o kz) :: st) (I, L, R, n) bd Q) : Wp M pc ls (vr (some o) :: st) (I, L, R, n) bd Q := by
  subst hz; exact Wp.getl hd hf hkd ho kk
theorem Wp.gr {kz : Int} {r : Option Nat} (hz : (k : Int) = kz) (hd : decode (mdC M) pc = .ok (.getfield idx, 3)) (hf : wFR (mdY M).cls idx c k) (hkd : kd o = (c, fNN c)) (ho : o < n) (hr : R o kz = r) (kk : Wp M (pc + 3) ls (vr r :: st) (I, L, R, n) bd Q) : Wp M pc ls (vr (some o) :: st) (I, L, R, n) bd Q := by
  subst hz; exact Wp.getr hd hf hkd ho hr kk
theorem Wp.pi {kz z : Int} (hz : (k : Int) = kz) (hd : decode (mdC M) pc = .ok (.putfield idx, 3)) (hf : wFI (mdY M).cls idx c k) (hfin : wFn (mdY M).cls (mdY M).name idx c k) (hz2 : fTy c k = .int ∨ z = 0 ∨ z = 1) (hkd : kd o = (c, fNN c)) (ho : o < n) (kk : Wp M (pc + 3) ls st (up I o kz z, L, R, n) bd Q) : Wp M pc ls (vi z :: vr (some o) :: st) (I, L, R, n) bd Q := by
  subst hz; exact Wp.puti hd hf hfin hz2 hkd ho kk
theorem Wp.pl {kz : Int} {b : BitVec 64} (hz : (k : Int) = kz) (hd : decode (mdC M) pc = .ok (.putfield idx, 3)) (hf : wFL (mdY M).cls idx c k) (hfin : wFn (mdY M).cls (mdY M).name idx c k) (hkd : kd o = (c, fNN c)) (ho : o < n) (kk : Wp M (pc + 3) ls st (I, up L o kz b, R, n) bd Q) : Wp M pc ls (vl b :: vr (some o) :: st) (I, L, R, n) bd Q := by
  subst hz; exact Wp.putl hd hf hfin hkd ho kk
theorem Wp.pr {kz : Int} {r : Option Nat} (hz : (k : Int) = kz) (hd : decode (mdC M) pc = .ok (.putfield idx, 3)) (hf : wFR (mdY M).cls idx c k) (hfin : wFn (mdY M).cls (mdY M).name idx c k) (hkd : kd o = (c, fNN c)) (ho : o < n) (kk : Wp M (pc + 3) ls st (I, L, up R o kz r, n) bd Q) : Wp M pc ls (vr r :: vr (some o) :: st) (I, L, R, n) bd Q := by
  subst hz; exact Wp.putr hd hf hfin hkd ho kk
end
/-! where things lie -/
theorem kd_b (k i : Nat) (hi : i < 7) : kd (57 + 7 * k + i) = kdB i := by
  unfold kd
  rw [if_neg (by omega)]
  congr 1
  omega
theorem kd_b0 (k : Nat) : kd (57 + 7 * k) = (0, 13) := kd_b k 0 (by omega)
theorem kd_b1 (k : Nat) : kd (57 + 7 * k + 1) = (100, 60) := kd_b k 1 (by omega)
theorem kd_b2 (k : Nat) : kd (57 + 7 * k + 2) = (100, 180) := kd_b k 2 (by omega)
theorem kd_b3 (k : Nat) : kd (57 + 7 * k + 3) = (100, 180) := kd_b k 3 (by omega)
theorem kd_b4 (k : Nat) : kd (57 + 7 * k + 4) = (100, 1080) := kd_b k 4 (by omega)
theorem kd_b5 (k : Nat) : kd (57 + 7 * k + 5) = (101, 180) := kd_b k 5 (by omega)
theorem kd_b6 (k : Nat) : kd (57 + 7 * k + 6) = (101, 180) := kd_b k 6 (by omega)
/-- the references that stay -/
def fxT : Nat → Nat → Option Nat
  | 0, 0 => some 1 | 0, 1 => some 3 | 0, 2 => some 4 | 0, 3 => some 6 | 0, 4 => some 7 | 0, 5 => some 12 | 0, 6 => some 17 | 0, 7 => some 19 | 0, 8 => some 26 | 0, 9 => some 29
  | 1, 0 => some 2
  | 4, 0 => some 5
  | 7, 0 => some 8 | 7, 1 => some 9 | 7, 2 => some 10 | 7, 3 => some 11
  | 12, 0 => some 13 | 12, 1 => some 14 | 12, 2 => some 15 | 12, 3 => some 16
  | 17, 0 => some 18
  | 19, 0 => some 20 | 19, 1 => some 21 | 19, 2 => some 22 | 19, 3 => some 23 | 19, 4 => some 24 | 19, 5 => some 25
  | 26, 0 => some 27 | 26, 1 => some 28
  | 29, 0 => some 30 | 29, 1 => some 31
  | 32, 1 => some 33 | 32, 2 => some 34 | 32, 3 => some 35 | 32, 4 => some 36 | 32, 5 => some 37 | 32, 6 => some 38 | 32, 7 => some 39 | 32, 8 => some 40 | 32, 12 => some 41 | 32, 18 => some 42
  | 32, 26 => some 43 | 32, 27 => some 44 | 32, 28 => some 45 | 32, 29 => some 46 | 32, 31 => some 47 | 32, 32 => some 48 | 32, 33 => some 49 | 32, 34 => some 50 | 32, 37 => some 51 | 32, 38 => some 52 | 32, 39 => some 53 | 32, 40 => some 54 | 32, 41 => some 55 | 32, 43 => some 56
  | _, _ => none
def Fx (R : Nat → Int → Option Nat) : Prop := ∀ (o k r : Nat), fxT o k = some r → R o (k : Int) = some r
/-- a book's own arrays -/
def Bk (R : Nat → Int → Option Nat) (k : Nat) : Prop := R (57 + 7 * k) 7 = some (57 + 7 * k + 1) ∧ R (57 + 7 * k) 8 = some (57 + 7 * k + 2) ∧ R (57 + 7 * k) 9 = some (57 + 7 * k + 3) ∧ R (57 + 7 * k) 10 = some (57 + 7 * k + 4) ∧ R (57 + 7 * k) 11 = some (57 + 7 * k + 5) ∧ R (57 + 7 * k) 12 = some (57 + 7 * k + 6)
/-! the smallest methods -/
section
variable {I : Nat → Int → Int} {L : Nat → Int → BitVec 64} {R : Nat → Int → Option Nat} {n : Nat} {m : Mm} {Q : Option AV → Mm → Prop}
theorem ct_X11_isTongue {a : Int} (ha : inR a) (hq : Q (some (vi (bI (0 ≤ a ∧ a < 4)))) m) : Wp mX11_isTongue 0 [some (vi a)] [] m (0, 0) Q := by
  refine Wp.iload_n rfl dX11_isTongue_0 ?_
  refine Wp.if_lt (tgt := 13) dX11_isTongue_1 (by decide) (by first | omega | exact bI_R _ | exact cmp_R _ _ | assumption) (fun c1 => ?_) (fun c1 => ?_)
  · refine Wp.iconst dX11_isTongue_13 ?_
    refine Wp.zreturn dX11_isTongue_14 rfl (by first | omega | exact bI_01 _) ?_
    first | exact hq | (exfalso; omega) | exact qB_t hq (by omega) | exact qB_f hq (by omega)
  · refine Wp.iload_n rfl dX11_isTongue_4 ?_
    refine Wp.iconst dX11_isTongue_5 ?_
    refine Wp.icmp_ge (tgt := 13) dX11_isTongue_6 (by decide) (by first | omega | exact bI_R _ | exact cmp_R _ _ | assumption) (by first | omega | exact bI_R _ | exact cmp_R _ _ | assumption) (fun c6 => ?_) (fun c6 => ?_)
    · refine Wp.iconst dX11_isTongue_13 ?_
      refine Wp.zreturn dX11_isTongue_14 rfl (by first | omega | exact bI_01 _) ?_
      first | exact hq | (exfalso; omega) | exact qB_t hq (by omega) | exact qB_f hq (by omega)
    · refine Wp.iconst dX11_isTongue_9 ?_
      refine Wp.goto (tgt := 14) dX11_isTongue_10 (by decide) ?_
      refine Wp.zreturn dX11_isTongue_14 rfl (by first | omega | exact bI_01 _) ?_
      first | exact hq | (exfalso; omega) | exact qB_t hq (by omega) | exact qB_f hq (by omega)
theorem ct_X11_isWord {a : Int} (ha : inR a) (hq : Q (some (vi (bI (0 ≤ a ∧ a < 60)))) m) : Wp mX11_isWord 0 [some (vi a)] [] m (0, 0) Q := by
  refine Wp.iload_n rfl dX11_isWord_0 ?_
  refine Wp.if_lt (tgt := 14) dX11_isWord_1 (by decide) (by first | omega | exact bI_R _ | exact cmp_R _ _ | assumption) (fun c1 => ?_) (fun c1 => ?_)
  · refine Wp.iconst dX11_isWord_14 ?_
    refine Wp.zreturn dX11_isWord_15 rfl (by first | omega | exact bI_01 _) ?_
    first | exact hq | (exfalso; omega) | exact qB_t hq (by omega) | exact qB_f hq (by omega)
  · refine Wp.iload_n rfl dX11_isWord_4 ?_
    refine Wp.bipush rfl dX11_isWord_5 ?_
    refine Wp.icmp_ge (tgt := 14) dX11_isWord_7 (by decide) (by first | omega | exact bI_R _ | exact cmp_R _ _ | assumption) (by first | omega | exact bI_R _ | exact cmp_R _ _ | assumption) (fun c7 => ?_) (fun c7 => ?_)
    · refine Wp.iconst dX11_isWord_14 ?_
      refine Wp.zreturn dX11_isWord_15 rfl (by first | omega | exact bI_01 _) ?_
      first | exact hq | (exfalso; omega) | exact qB_t hq (by omega) | exact qB_f hq (by omega)
    · refine Wp.iconst dX11_isWord_10 ?_
      refine Wp.goto (tgt := 15) dX11_isWord_11 (by decide) ?_
      refine Wp.zreturn dX11_isWord_15 rfl (by first | omega | exact bI_01 _) ?_
      first | exact hq | (exfalso; omega) | exact qB_t hq (by omega) | exact qB_f hq (by omega)
theorem ct_X11_isDay {a : Int} (ha : inR a) (hq : Q (some (vi (bI (0 ≤ a ∧ a ≤ 999)))) m) : Wp mX11_isDay 0 [some (vi a)] [] m (0, 0) Q := by
  refine Wp.iload_n rfl dX11_isDay_0 ?_
  refine Wp.if_lt (tgt := 15) dX11_isDay_1 (by decide) (by first | omega | exact bI_R _ | exact cmp_R _ _ | assumption) (fun c1 => ?_) (fun c1 => ?_)
  · refine Wp.iconst dX11_isDay_15 ?_
    refine Wp.zreturn dX11_isDay_16 rfl (by first | omega | exact bI_01 _) ?_
    first | exact hq | (exfalso; omega) | exact qB_t hq (by omega) | exact qB_f hq (by omega)
  · refine Wp.iload_n rfl dX11_isDay_4 ?_
    refine Wp.sipush rfl dX11_isDay_5 ?_
    refine Wp.icmp_gt (tgt := 15) dX11_isDay_8 (by decide) (by first | omega | exact bI_R _ | exact cmp_R _ _ | assumption) (by first | omega | exact bI_R _ | exact cmp_R _ _ | assumption) (fun c8 => ?_) (fun c8 => ?_)
    · refine Wp.iconst dX11_isDay_15 ?_
      refine Wp.zreturn dX11_isDay_16 rfl (by first | omega | exact bI_01 _) ?_
      first | exact hq | (exfalso; omega) | exact qB_t hq (by omega) | exact qB_f hq (by omega)
    · refine Wp.iconst dX11_isDay_11 ?_
      refine Wp.goto (tgt := 16) dX11_isDay_12 (by decide) ?_
      refine Wp.zreturn dX11_isDay_16 rfl (by first | omega | exact bI_01 _) ?_
      first | exact hq | (exfalso; omega) | exact qB_t hq (by omega) | exact qB_f hq (by omega)
theorem ct_X11_differ {a b c : Int} (ha : inR a) (hb : inR b) (hc : inR c) (hq : Q (some (vi (bI (a ≠ b ∧ b ≠ c ∧ a ≠ c)))) m) : Wp mX11_differ 0 [some (vi a), some (vi b), some (vi c)] [] m (0, 0) Q := by
  refine Wp.iload_n rfl dX11_differ_0 ?_
  refine Wp.iload_n rfl dX11_differ_1 ?_
  refine Wp.icmp_eq (tgt := 19) dX11_differ_2 (by decide) (by first | omega | exact bI_R _ | exact cmp_R _ _ | assumption) (by first | omega | exact bI_R _ | exact cmp_R _ _ | assumption) (fun c2 => ?_) (fun c2 => ?_)
  · refine Wp.iconst dX11_differ_19 ?_
    refine Wp.zreturn dX11_differ_20 rfl (by first | omega | exact bI_01 _) ?_
    first | exact hq | (exfalso; omega) | exact qB_t hq (by omega) | exact qB_f hq (by omega)
  · refine Wp.iload_n rfl dX11_differ_5 ?_
    refine Wp.iload_n rfl dX11_differ_6 ?_
    refine Wp.icmp_eq (tgt := 19) dX11_differ_7 (by decide) (by first | omega | exact bI_R _ | exact cmp_R _ _ | assumption) (by first | omega | exact bI_R _ | exact cmp_R _ _ | assumption) (fun c7 => ?_) (fun c7 => ?_)
    · refine Wp.iconst dX11_differ_19 ?_
      refine Wp.zreturn dX11_differ_20 rfl (by first | omega | exact bI_01 _) ?_
      first | exact hq | (exfalso; omega) | exact qB_t hq (by omega) | exact qB_f hq (by omega)
    · refine Wp.iload_n rfl dX11_differ_10 ?_
      refine Wp.iload_n rfl dX11_differ_11 ?_
      refine Wp.icmp_eq (tgt := 19) dX11_differ_12 (by decide) (by first | omega | exact bI_R _ | exact cmp_R _ _ | assumption) (by first | omega | exact bI_R _ | exact cmp_R _ _ | assumption) (fun c12 => ?_) (fun c12 => ?_)
      · refine Wp.iconst dX11_differ_19 ?_
        refine Wp.zreturn dX11_differ_20 rfl (by first | omega | exact bI_01 _) ?_
        first | exact hq | (exfalso; omega) | exact qB_t hq (by omega) | exact qB_f hq (by omega)
      · refine Wp.iconst dX11_differ_15 ?_
        refine Wp.goto (tgt := 20) dX11_differ_16 (by decide) ?_
        refine Wp.zreturn dX11_differ_20 rfl (by first | omega | exact bI_01 _) ?_
        first | exact hq | (exfalso; omega) | exact qB_t hq (by omega) | exact qB_f hq (by omega)
/-- a word of a set -/
abbrev hasW (s : BitVec 64) (w : Int) : Prop := 0 ≤ w ∧ w < 60 ∧ s.getLsbD w.toNat = true
def onlyW (w : Int) : BitVec 64 := if 0 ≤ w ∧ w < 60 then 1#64 <<< w.toNat else 0#64
theorem b_ushr (s : BitVec 64) (k : Nat) : (s >>> k) &&& 1#64 = if s.getLsbD k = true then 1#64 else 0#64 := by
  apply BitVec.eq_of_getLsbD_eq
  intro i hi
  rw [BitVec.getLsbD_and, BitVec.getLsbD_ushiftRight]
  by_cases h0 : i = 0
  · subst h0
    by_cases h : s.getLsbD k = true <;> simp [h]
  · by_cases h : s.getLsbD k = true <;> simp [h, h0]
theorem b_sshr (s : BitVec 64) {k : Nat} (hk : k < 64) : (s.sshiftRight k) &&& 1#64 = if s.getLsbD k = true then 1#64 else 0#64 := by
  apply BitVec.eq_of_getLsbD_eq
  intro i hi
  rw [BitVec.getLsbD_and, BitVec.getLsbD_sshiftRight]
  by_cases h0 : i = 0
  · subst h0
    by_cases h : s.getLsbD k = true
    · rw [if_pos h]; simp [hk]; simpa [hk] using h
    · rw [if_neg h]; simp [hk]; simpa [hk] using h
  · by_cases h : s.getLsbD k = true <;> simp [h, h0]
theorem b_ne : (1#64 : BitVec 64) ≠ 0#64 := by decide
theorem b_u0 {s : BitVec 64} {k : Nat} : (s >>> k) &&& 1#64 = 0#64 ↔ s.getLsbD k = false := by
  rw [b_ushr]; by_cases h : s.getLsbD k = true <;> simp [h]
theorem b_s0 {s : BitVec 64} {k : Nat} (hk : k < 64) : (s.sshiftRight k) &&& 1#64 = 0#64 ↔ s.getLsbD k = false := by
  rw [b_sshr s hk]; by_cases h : s.getLsbD k = true <;> simp [h]
theorem b_s1 {s : BitVec 64} {k : Nat} (hk : k < 64) : (s.sshiftRight k) &&& 1#64 = 1#64 ↔ s.getLsbD k = true := by
  rw [b_sshr s hk]; by_cases h : s.getLsbD k = true <;> simp [h]
theorem ct_X11_has {s : BitVec 64} {w : Int} (hw : inR w) (hq : Q (some (vi (bI (hasW s w)))) m) : Wp mX11_has 0 [some (vl s), none, some (vi w)] [] m (0, 0) Q := by
  refine Wp.iload_n rfl dX11_has_0 ?_
  refine Wp.callS (As := [_]) (ls0 := [_]) (bd := (0, 0)) (bd' := (0, 0)) dX11_has_1 kmX11_isWord lkX11_162 (by decide) (by decide) (Nat.le_of_ble_eq_true rfl) rfl rfl (Nat.le_of_ble_eq_true rfl) rfl ?_
  refine ct_X11_isWord (by omega) ?_
  show Wp _ _ _ (_ :: _) _ _ _
  refine Wp.if_eqB (tgt := 21) dX11_has_4 (by decide) (fun c4 => ?_) (fun c4 => ?_)
  · refine Wp.iconst dX11_has_21 ?_
    refine Wp.zreturn dX11_has_22 rfl (by first | omega | exact bI_01 _) ?_
    first | (exfalso; omega) | (first | exact qB_f hq (by omega) | exact qB_f hq (fun q => by have := b_u0.mp c14; rw [q.2.2] at this; cases this) | exact qB_t hq ⟨c4.1, c4.2, by have := fun q => c14 (b_u0.mpr q); simpa using this⟩)
  · refine Wp.lload_n rfl dX11_has_7 ?_
    refine Wp.iload_n rfl dX11_has_8 ?_
    refine Wp.lushr (by omega) (by omega) dX11_has_9 ?_
    refine Wp.lconst1 dX11_has_10 ?_
    refine Wp.land dX11_has_11 ?_
    refine Wp.lconst0 dX11_has_12 ?_
    refine Wp.lcmp dX11_has_13 ?_
    refine Wp.if_eqC (tgt := 21) dX11_has_14 (by decide) (fun c14 => ?_) (fun c14 => ?_)
    · refine Wp.iconst dX11_has_21 ?_
      refine Wp.zreturn dX11_has_22 rfl (by first | omega | exact bI_01 _) ?_
      first | (exfalso; omega) | (first | exact qB_f hq (by omega) | exact qB_f hq (fun q => by have := b_u0.mp c14; rw [q.2.2] at this; cases this) | exact qB_t hq ⟨c4.1, c4.2, by have := fun q => c14 (b_u0.mpr q); simpa using this⟩)
    · refine Wp.iconst dX11_has_17 ?_
      refine Wp.goto (tgt := 22) dX11_has_18 (by decide) ?_
      refine Wp.zreturn dX11_has_22 rfl (by first | omega | exact bI_01 _) ?_
      first | (exfalso; omega) | (first | exact qB_f hq (by omega) | exact qB_f hq (fun q => by have := b_u0.mp c14; rw [q.2.2] at this; cases this) | exact qB_t hq ⟨c4.1, c4.2, by have := fun q => c14 (b_u0.mpr q); simpa using this⟩)
theorem ct_X11_only {w : Int} (hw : inR w) (hq : Q (some (vl (onlyW w))) m) : Wp mX11_only 0 [some (vi w)] [] m (0, 0) Q := by
  refine Wp.iload_n rfl dX11_only_0 ?_
  refine Wp.callS (As := [_]) (ls0 := [_]) (bd := (0, 0)) (bd' := (0, 0)) dX11_only_1 kmX11_isWord lkX11_162 (by decide) (by decide) (Nat.le_of_ble_eq_true rfl) rfl rfl (Nat.le_of_ble_eq_true rfl) rfl ?_
  refine ct_X11_isWord (by omega) ?_
  show Wp _ _ _ (_ :: _) _ _ _
  refine Wp.if_eqB (tgt := 13) dX11_only_4 (by decide) (fun c4 => ?_) (fun c4 => ?_)
  · refine Wp.lconst0 dX11_only_13 ?_
    refine Wp.lreturn dX11_only_14 rfl ?_
    first | (exfalso; omega) | (exact qL hq (by unfold onlyW; first | (rw [if_pos (by omega)]; done) | (rw [if_neg (by omega)]; done)))
  · refine Wp.lconst1 dX11_only_7 ?_
    refine Wp.iload_n rfl dX11_only_8 ?_
    refine Wp.lshl (by omega) (by omega) dX11_only_9 ?_
    refine Wp.goto (tgt := 14) dX11_only_10 (by decide) ?_
    refine Wp.lreturn dX11_only_14 rfl ?_
    first | (exfalso; omega) | (exact qL hq (by unfold onlyW; first | (rw [if_pos (by omega)]; done) | (rw [if_neg (by omega)]; done)))
end

