/-! ===== the class: promise 27 ===== -/
section
variable {I J : Nat → Int → Int} {L K : Nat → Int → BitVec 64} {R : Nat → Int → Option Nat} {n k : Nat} {m : Mm} {Q : Option AV → Mm → Prop}
/-- the words that have an entry from a to b in the first N books -/
def htP (I : Nat → Int → Int) (a b : Int) (N : Nat) (x : BitVec 64) : Prop := ∀ i : Nat, x.getLsbD i = true ↔ i < 60 ∧ ∃ j : Nat, j < N ∧ (I 35 j ≤ I 32 9 ∧ I 33 j = a ∧ I 34 j = b) ∧ 0 < I 36 (60 * j + i)
theorem BR.hdi (h : BR I L R n k) (i : Nat) : (L (57 + 7 * k) 3).getLsbD i = true ↔ i < 60 ∧ 0 < I 36 (60 * k + i) := by
  rcases Nat.lt_or_ge i 60 with h1 | h1
  · have := h.hd (w := i) (by omega) (by omega)
    rw [show ((i : Int)).toNat = i by omega] at this
    rw [this]; simp [h1]
  · rw [h.2.2.2.2.2.2.2.1 i h1]; simp; omega
theorem htP_t {a b : Int} {x : BitVec 64} (hB : BR I L R n k) (h : htP I a b k x) (hc : I 35 k ≤ I 32 9 ∧ I 33 k = a ∧ I 34 k = b) : htP I a b (k + 1) (x ||| L (57 + 7 * k) 3) := by
  intro i
  rw [or_bit, h i, hB.hdi i]
  constructor
  · rintro (⟨h1, j, hj, h2⟩ | ⟨h1, h2⟩)
    · exact ⟨h1, j, by omega, h2⟩
    · exact ⟨h1, k, by omega, hc, h2⟩
  · rintro ⟨h1, j, hj, h2⟩
    by_cases hjk : j = k
    · subst hjk; exact Or.inr ⟨h1, h2.2⟩
    · exact Or.inl ⟨h1, j, by omega, h2⟩
theorem htP_f {a b : Int} {x : BitVec 64} (h : htP I a b k x) (hc : ¬ (I 35 k ≤ I 32 9 ∧ I 33 k = a ∧ I 34 k = b)) : htP I a b (k + 1) x := by
  intro i
  rw [h i]
  constructor
  · rintro ⟨h1, j, hj, h2⟩
    exact ⟨h1, j, by omega, h2⟩
  · rintro ⟨h1, j, hj, h2⟩
    by_cases hjk : j = k
    · subst hjk; exact absurd h2.1 hc
    · exact ⟨h1, j, by omega, h2⟩
theorem ct_X8_headsTo {a b : Int} (hS : ShR I L R n) (ha : inR a) (hb : inR b) (hq : ∀ x, htP I a b (I 32 0).toNat x → Q (some (vl x)) (I, L, R, n)) : Wp mX8_headsTo 0 [some (vr (some 4)), some (vi a), some (vi b), none, none, none, none] [] (I, L, R, n) (0, 0) Q := by
  have hn := hS.1
  have hW := hS.2.2.1
  have hN0 := hW.1
  have hN1 := hW.2.1
  have s2 := hS.2.2.2.1
  have lp : ∀ (tt k : Nat) (z : Int) (x : BitVec 64) (x6 : Option AV), k + tt = (I 32 0).toNat → z = k → htP I a b k x → Wp mX8_headsTo 5 [some (vr (some 4)), some (vi a), some (vi b), some (vl x), none, some (vi z), x6] [] (I, L, R, n) (0, 0) Q := by
    intro tt
    induction tt with
    | zero =>
      intro k z x x6 hkt hz e0
      obtain rfl : k = (I 32 0).toNat := by omega
      refine Wp.iload rfl dX8_headsTo_5 ?_
      refine Wp.aload_n rfl dX8_headsTo_7 ?_
      refine Wp.gi (kz := 2) rfl dX8_headsTo_8 fkX8_21 (by first | rfl | exact kd_b0 _ | exact kd_b1 _ | exact kd_b2 _ | exact kd_b3 _ | exact kd_b4 _ | exact kd_b5 _ | exact kd_b6 _) (by omega) ?_
      refine Wp.icmp_ge (tgt := 59) dX8_headsTo_11 (by decide) (by first | omega | exact bI_R _ | exact cmp_R _ _ | assumption) (by first | omega | exact bI_R _ | exact cmp_R _ _ | assumption) (fun c11 => ?_) (fun c11 => ?_)
      · refine Wp.lload_n rfl dX8_headsTo_59 ?_
        refine Wp.lreturn dX8_headsTo_60 rfl ?_
        first | (exfalso; omega) | (exact hq x e0)
      · exfalso; omega
    | succ tt ih =>
      intro k z x x6 hkt hz e0
      subst hz
      have hkb := hW.b (z := k) (by omega) (by omega)
      have hB := hS.2.2.2.2.2.2 k (by omega)
      have hn7 := hB.2.2.1
      have b0 := hB.2.2.2.1
      have b1 := hB.2.2.2.2.1
      refine Wp.iload rfl dX8_headsTo_5 ?_
      refine Wp.aload_n rfl dX8_headsTo_7 ?_
      refine Wp.gi (kz := 2) rfl dX8_headsTo_8 fkX8_21 (by first | rfl | exact kd_b0 _ | exact kd_b1 _ | exact kd_b2 _ | exact kd_b3 _ | exact kd_b4 _ | exact kd_b5 _ | exact kd_b6 _) (by omega) ?_
      refine Wp.icmp_ge (tgt := 59) dX8_headsTo_11 (by decide) (by first | omega | exact bI_R _ | exact cmp_R _ _ | assumption) (by first | omega | exact bI_R _ | exact cmp_R _ _ | assumption) (fun c11 => ?_) (fun c11 => ?_)
      · exfalso; omega
      · refine Wp.aload_n rfl dX8_headsTo_14 ?_
        refine Wp.iload rfl dX8_headsTo_15 ?_
        refine Wp.callV (As := [_]) (ls0 := [_, _, _]) (bd := (0, 0)) (bd' := (0, 0)) dX8_headsTo_17 kmX8_currentAt lkX8_44 (by decide) (by decide) (Nat.le_of_ble_eq_true rfl) (by first | rfl | exact kd_b0 _ | exact kd_b1 _ | exact kd_b2 _ | exact kd_b3 _ | exact kd_b4 _ | exact kd_b5 _ | exact kd_b6 _) (by omega) rfl rfl (Nat.le_of_ble_eq_true rfl) rfl ?_
        refine ct_X8_currentAt hS (by omega) ?_
        show Wp _ _ _ (_ :: _) _ _ _
        refine Wp.astore (ls' := [_, _, _, _, _, _, _]) dX8_headsTo_20 (by decide) rfl ?_
        refine Wp.aload rfl dX8_headsTo_22 ?_
        refine Wp.ifnull (tgt := 53) dX8_headsTo_24 (by decide) (fun c24 => ?_) (fun o24 c24 => ?_)
        · refine Wp.iinc (ls' := [_, _, _, _, _, _, _]) rfl dX8_headsTo_53 (by decide) rfl ?_
          refine Wp.goto (tgt := 5) dX8_headsTo_56 (by decide) ?_
          first | exact ih (k + 1) _ _ _ (by omega) (by omega) (htP_t hB e0 ⟨hday, by omega, by omega⟩) | exact ih (k + 1) _ _ _ (by omega) (by omega) (htP_f e0 (fun q => cuA_n c24 ⟨⟨by omega, by omega⟩, q.1⟩)) | exact ih (k + 1) _ _ _ (by omega) (by omega) (htP_f e0 (fun q => absurd q.2.1 (by omega))) | exact ih (k + 1) _ _ _ (by omega) (by omega) (htP_f e0 (fun q => absurd q.2.2 (by omega))) | (exfalso; omega)
        · obtain ⟨ho, hz0, hz1, hday⟩ := cuA_s c24
          have ho' : o24 = 57 + 7 * k := ho
          subst ho'
          rw [c24]
          refine Wp.aload rfl dX8_headsTo_27 ?_
          refine Wp.gi (kz := 0) rfl dX8_headsTo_29 fkX8_47 (by first | rfl | exact kd_b0 _ | exact kd_b1 _ | exact kd_b2 _ | exact kd_b3 _ | exact kd_b4 _ | exact kd_b5 _ | exact kd_b6 _) (by omega) ?_
          refine Wp.iload_n rfl dX8_headsTo_32 ?_
          refine Wp.icmp_ne (tgt := 53) dX8_headsTo_33 (by decide) (by first | omega | exact bI_R _ | exact cmp_R _ _ | assumption) (by first | omega | exact bI_R _ | exact cmp_R _ _ | assumption) (fun c33 => ?_) (fun c33 => ?_)
          · refine Wp.iinc (ls' := [_, _, _, _, _, _, _]) rfl dX8_headsTo_53 (by decide) rfl ?_
            refine Wp.goto (tgt := 5) dX8_headsTo_56 (by decide) ?_
            first | exact ih (k + 1) _ _ _ (by omega) (by omega) (htP_t hB e0 ⟨hday, by omega, by omega⟩) | exact ih (k + 1) _ _ _ (by omega) (by omega) (htP_f e0 (fun q => cuA_n c24 ⟨⟨by omega, by omega⟩, q.1⟩)) | exact ih (k + 1) _ _ _ (by omega) (by omega) (htP_f e0 (fun q => absurd q.2.1 (by omega))) | exact ih (k + 1) _ _ _ (by omega) (by omega) (htP_f e0 (fun q => absurd q.2.2 (by omega))) | (exfalso; omega)
          · refine Wp.aload rfl dX8_headsTo_36 ?_
            refine Wp.gi (kz := 1) rfl dX8_headsTo_38 fkX8_50 (by first | rfl | exact kd_b0 _ | exact kd_b1 _ | exact kd_b2 _ | exact kd_b3 _ | exact kd_b4 _ | exact kd_b5 _ | exact kd_b6 _) (by omega) ?_
            refine Wp.iload_n rfl dX8_headsTo_41 ?_
            refine Wp.icmp_ne (tgt := 53) dX8_headsTo_42 (by decide) (by first | omega | exact bI_R _ | exact cmp_R _ _ | assumption) (by first | omega | exact bI_R _ | exact cmp_R _ _ | assumption) (fun c42 => ?_) (fun c42 => ?_)
            · refine Wp.iinc (ls' := [_, _, _, _, _, _, _]) rfl dX8_headsTo_53 (by decide) rfl ?_
              refine Wp.goto (tgt := 5) dX8_headsTo_56 (by decide) ?_
              first | exact ih (k + 1) _ _ _ (by omega) (by omega) (htP_t hB e0 ⟨hday, by omega, by omega⟩) | exact ih (k + 1) _ _ _ (by omega) (by omega) (htP_f e0 (fun q => cuA_n c24 ⟨⟨by omega, by omega⟩, q.1⟩)) | exact ih (k + 1) _ _ _ (by omega) (by omega) (htP_f e0 (fun q => absurd q.2.1 (by omega))) | exact ih (k + 1) _ _ _ (by omega) (by omega) (htP_f e0 (fun q => absurd q.2.2 (by omega))) | (exfalso; omega)
            · refine Wp.lload_n rfl dX8_headsTo_45 ?_
              refine Wp.aload rfl dX8_headsTo_46 ?_
              refine Wp.gl (kz := 3) rfl dX8_headsTo_48 fkX8_53 (by first | rfl | exact kd_b0 _ | exact kd_b1 _ | exact kd_b2 _ | exact kd_b3 _ | exact kd_b4 _ | exact kd_b5 _ | exact kd_b6 _) (by omega) ?_
              refine Wp.lor dX8_headsTo_51 ?_
              refine Wp.lstore_n (ls' := [_, _, _, _, _, _, _]) dX8_headsTo_52 (by decide) rfl ?_
              refine Wp.iinc (ls' := [_, _, _, _, _, _, _]) rfl dX8_headsTo_53 (by decide) rfl ?_
              refine Wp.goto (tgt := 5) dX8_headsTo_56 (by decide) ?_
              first | exact ih (k + 1) _ _ _ (by omega) (by omega) (htP_t hB e0 ⟨hday, by omega, by omega⟩) | exact ih (k + 1) _ _ _ (by omega) (by omega) (htP_f e0 (fun q => cuA_n c24 ⟨⟨by omega, by omega⟩, q.1⟩)) | exact ih (k + 1) _ _ _ (by omega) (by omega) (htP_f e0 (fun q => absurd q.2.1 (by omega))) | exact ih (k + 1) _ _ _ (by omega) (by omega) (htP_f e0 (fun q => absurd q.2.2 (by omega))) | (exfalso; omega)
  refine Wp.lconst0 dX8_headsTo_0 ?_
  refine Wp.lstore_n (ls' := [_, _, _, _, _, _, _]) dX8_headsTo_1 (by decide) rfl ?_
  refine Wp.iconst dX8_headsTo_2 ?_
  refine Wp.istore (ls' := [_, _, _, _, _, _, _]) dX8_headsTo_3 (by decide) rfl ?_
  exact lp (I 32 0).toNat 0 _ _ _ (by omega) (by omega) (fun i => by simp)
def hfP (I : Nat → Int → Int) (a : Int) (N : Nat) (x : BitVec 64) : Prop := ∀ i : Nat, x.getLsbD i = true ↔ i < 60 ∧ ∃ j : Nat, (j : Int) < I 32 0 ∧ (I 35 j ≤ I 32 9 ∧ I 33 j = a ∧ I 34 j < N) ∧ 0 < I 36 (60 * j + i)
theorem hfP_s (hW : RW I) {a : Int} {x y : BitVec 64} (h : hfP I a k x) (hy : htP I a k (I 32 0).toNat y) : hfP I a (k + 1) (x ||| y) := by
  have hN0 := hW.1
  intro i
  rw [or_bit, h i, hy i]
  constructor
  · rintro (⟨h1, j, hj, h2, h3⟩ | ⟨h1, j, hj, h2, h3⟩)
    · exact ⟨h1, j, hj, ⟨h2.1, h2.2.1, by omega⟩, h3⟩
    · exact ⟨h1, j, by omega, ⟨h2.1, h2.2.1, by omega⟩, h3⟩
  · rintro ⟨h1, j, hj, h2, h3⟩
    by_cases hjk : I 34 j = k
    · exact Or.inr ⟨h1, j, by omega, ⟨h2.1, h2.2.1, hjk⟩, h3⟩
    · exact Or.inl ⟨h1, j, hj, ⟨h2.1, h2.2.1, by omega⟩, h3⟩
theorem ct_X8_headsFrom {a : Int} (hS : ShR I L R n) (ha : inR a) (hq : ∀ x, hfP I a 4 x → Q (some (vl x)) (I, L, R, n)) : Wp mX8_headsFrom 0 [some (vr (some 4)), some (vi a), none, none, none] [] (I, L, R, n) (0, 0) Q := by
  have hn := hS.1
  have hW := hS.2.2.1
  have lp : ∀ (tt k : Nat) (z : Int) (x : BitVec 64), k + tt = 4 → z = k → hfP I a k x → Wp mX8_headsFrom 5 [some (vr (some 4)), some (vi a), some (vl x), none, some (vi z)] [] (I, L, R, n) (0, 0) Q := by
    intro tt
    induction tt with
    | zero =>
      intro k z x hkt hz e0
      obtain rfl : k = 4 := by omega
      refine Wp.iload rfl dX8_headsFrom_5 ?_
      refine Wp.iconst dX8_headsFrom_7 ?_
      refine Wp.icmp_ge (tgt := 27) dX8_headsFrom_8 (by decide) (by first | omega | exact bI_R _ | exact cmp_R _ _ | assumption) (by first | omega | exact bI_R _ | exact cmp_R _ _ | assumption) (fun c8 => ?_) (fun c8 => ?_)
      · refine Wp.lload_n rfl dX8_headsFrom_27 ?_
        refine Wp.lreturn dX8_headsFrom_28 rfl ?_
        first | (exfalso; omega) | (exact hq x e0)
      · exfalso; omega
    | succ tt ih =>
      intro k z x hkt hz e0
      subst hz
      refine Wp.iload rfl dX8_headsFrom_5 ?_
      refine Wp.iconst dX8_headsFrom_7 ?_
      refine Wp.icmp_ge (tgt := 27) dX8_headsFrom_8 (by decide) (by first | omega | exact bI_R _ | exact cmp_R _ _ | assumption) (by first | omega | exact bI_R _ | exact cmp_R _ _ | assumption) (fun c8 => ?_) (fun c8 => ?_)
      · exfalso; omega
      · refine Wp.lload_n rfl dX8_headsFrom_11 ?_
        refine Wp.aload_n rfl dX8_headsFrom_12 ?_
        refine Wp.iload_n rfl dX8_headsFrom_13 ?_
        refine Wp.iload rfl dX8_headsFrom_14 ?_
        refine Wp.callV (As := [_, _]) (ls0 := [_, _, _, _, _, _, _]) (bd := (0, 0)) (bd' := (0, 0)) dX8_headsFrom_16 kmX8_headsTo lkX8_85 (by decide) (by decide) (Nat.le_of_ble_eq_true rfl) (by first | rfl | exact kd_b0 _ | exact kd_b1 _ | exact kd_b2 _ | exact kd_b3 _ | exact kd_b4 _ | exact kd_b5 _ | exact kd_b6 _) (by omega) rfl rfl (Nat.le_of_ble_eq_true rfl) rfl ?_
        refine ct_X8_headsTo hS (by omega) (by omega) (fun y hy => ?_)
        show Wp _ _ _ (_ :: _) _ _ _
        refine Wp.lor dX8_headsFrom_19 ?_
        refine Wp.lstore_n (ls' := [_, _, _, _, _]) dX8_headsFrom_20 (by decide) rfl ?_
        refine Wp.iinc (ls' := [_, _, _, _, _]) rfl dX8_headsFrom_21 (by decide) rfl ?_
        refine Wp.goto (tgt := 5) dX8_headsFrom_24 (by decide) ?_
        exact ih (k + 1) _ _ (by omega) (by omega) (hfP_s hW e0 hy)
  refine Wp.lconst0 dX8_headsFrom_0 ?_
  refine Wp.lstore_n (ls' := [_, _, _, _, _]) dX8_headsFrom_1 (by decide) rfl ?_
  refine Wp.iconst dX8_headsFrom_2 ?_
  refine Wp.istore (ls' := [_, _, _, _, _]) dX8_headsFrom_3 (by decide) rfl ?_
  refine lp 4 0 _ _ (by omega) (by omega) (fun i => ?_)
  constructor
  · intro q; simp at q
  · rintro ⟨h1, j, hj, h2, h3⟩
    have h4 := hW.b (z := j) (by omega) hj
    have h5 : I 34 j < 0 := h2.2.2
    omega
theorem lat_n {lk a w b : Int} : ∀ N : Nat, latN I lk a w b N < 0 ↔ ∀ j : Nat, j < N → ¬ entW I lk a w b j
  | 0 => by simp [latN]
  | N + 1 => by
    have ih := lat_n (lk := lk) (a := a) (w := w) (b := b) N
    simp only [latN]
    constructor
    · intro h j hj
      split at h
      · omega
      · rename_i hc
        by_cases hjN : j = N
        · subst hjN; exact fun q => hc ⟨q, Or.inl h⟩
        · exact ih.mp h j (by omega)
    · intro h
      rw [if_neg (fun q => h N (by omega) q.1)]
      exact ih.mpr (fun j hj => h j (by omega))
theorem ent_n (hW : RW I) {a b : Int} {w : Nat} : ent I 255 a w b < 0 ↔ ¬ ∃ j : Nat, j < (I 32 0).toNat ∧ (I 35 j ≤ I 32 9 ∧ I 33 j = a ∧ I 34 j = b) ∧ 0 < I 36 (60 * j + w) := by
  have h0 := hW.1
  have h8 := hW.2.1
  have hE := ent_lat hW (lk := 255) (a := a) (b := b) (w := w) (by omega)
  have hl := lat_n (I := I) (lk := 255) (a := a) (w := w) (b := b) (I 32 0).toNat
  have e1 : ent I 255 a w b < 0 ↔ latN I 255 a w b (I 32 0).toNat < 0 := by
    unfold lat at hE
    rcases hE with h | h
    · constructor <;> intro _ <;> omega
    · constructor <;> intro _ <;> omega
  rw [e1, hl]
  constructor
  · rintro h ⟨j, hj, h2, h3⟩
    exact h j hj ⟨bit255 (by omega), h2.1, h2.2.1, h2.2.2, h3⟩
  · intro h j hj q
    exact h ⟨j, hj, ⟨q.2.1, q.2.2.1, q.2.2.2.1⟩, q.2.2.2.2⟩
theorem acN_bit {lk a b : Int} {s : CS} {what : Int} (i : Nat) : ∀ k : Nat, k ≤ 64 → ((acN I lk a b s what k).getLsbD i = true ↔ i < k ∧ acP I lk a b s what i)
  | 0, _ => by simp [acN]
  | k + 1, hk => by
    simp only [acN]
    rw [or_bit, acN_bit i k (by omega), ite_bit, one_bit (by omega)]
    constructor
    · rintro (h | ⟨h, rfl⟩)
      · exact ⟨by omega, h.2⟩
      · exact ⟨by omega, h⟩
    · rintro ⟨h1, h⟩
      by_cases hik : i = k
      · subst hik; exact Or.inr ⟨h, rfl⟩
      · exact Or.inl ⟨by omega, h⟩
theorem ac1_eq (hW : RW I) {a b : Int} {s : CS} {x y : BitVec 64} (hx : hfP I a 4 x) (hy : htP I a b (I 32 0).toNat y) : x &&& (y ^^^ 18446744073709551615#64) = acN I 255 a b s 1 60 := by
  have h0 := hW.1
  have h8 := hW.2.1
  apply bv_ext
  intro i hi
  rw [and_bit, not_bit hi, hx i, hy i, acN_bit i 60 (by omega)]
  have hh : hsB I 255 a i = true ↔ ∃ j : Nat, (j : Int) < I 32 0 ∧ (I 35 j ≤ I 32 9 ∧ I 33 j = a ∧ I 34 j < ((4 : Nat) : Int)) ∧ 0 < I 36 (60 * j + i) := by
    unfold hsB
    rw [anyB_iff]
    constructor
    · rintro ⟨j, hj, h⟩
      have h2 := of_decide_eq_true h
      have h3 := hW.b (z := j) (by omega) (by omega)
      exact ⟨j, by omega, ⟨h2.2.1, h2.2.2.1, by omega⟩, h2.2.2.2⟩
    · rintro ⟨j, hj, h⟩
      exact ⟨j, by omega, decide_eq_true ⟨bit255 (by omega), h.1.1, h.1.2.1, h.2⟩⟩
  have he := ent_n hW (a := a) (b := b) (w := i)
  unfold acP
  rw [hh, he]
  constructor
  · rintro ⟨⟨h1, h2⟩, h3⟩
    exact ⟨h1, Or.inr ⟨by decide, h2, fun q => h3 ⟨h1, q⟩⟩⟩
  · rintro ⟨h1, h2 | ⟨_, h2, h3⟩⟩
    · exact absurd h2.1 (by decide)
    · exact ⟨⟨h1, h2⟩, fun q => h3 q.2⟩
/-- the words that come on, d steps from the chain's end -/
def bcN (I : Nat → Int → Int) (ch : Int → Int) (Z : Int) : Nat → BitVec 64
  | 0 => ALLW
  | d + 1 => gsN I 255 (ch (Z - 2 - d)) ALLW (ch (Z - 1 - d)) (bcN I ch Z d) 60
theorem cm60 (hW : RW I) (ch : Int → Int) {w : Nat} (hw : w < 60) : ∀ j : Nat, ∀ i : Nat, 60 ≤ i → (cmN I 255 ch w j).getLsbD i = false
  | 0, i, hi => by simp only [cmN]; exact shl60 hw i hi
  | j + 1, i, hi => by
    simp only [cmN]
    cases hc : (gaN I 255 (ch j) (cmN I 255 ch w j) (ch (j + 1)) 60).getLsbD i with
    | false => rfl
    | true =>
      obtain ⟨x, hx, _, h2⟩ := (gaN_bit i 60).mp hc
      rw [gv60 hW 255 _ _ (w := x) (by omega) (by omega) i hi] at h2
      cases h2
theorem cm_bc (hW : RW I) (ch : Int → Int) {Z : Int} (hZ : 1 ≤ Z) {w : Nat} (hw : w < 60) : ∀ d : Nat, (d : Int) ≤ Z - 1 → (¬ cmN I 255 ch w (Z - 1).toNat = 0#64 ↔ ¬ cmN I 255 ch w (Z - 1 - d).toNat &&& bcN I ch Z d = 0#64)
  | 0, _ => by
    rw [show (Z - 1 - ((0 : Nat) : Int)).toNat = (Z - 1).toNat by omega]
    have : cmN I 255 ch w (Z - 1).toNat &&& bcN I ch Z 0 = cmN I 255 ch w (Z - 1).toNat := by
      apply bv_ext
      intro i hi
      rw [and_bit]
      show _ ∧ ALLW.getLsbD i = true ↔ _
      rw [ALLW_bit]
      constructor
      · exact fun h => h.1
      · intro h
        refine ⟨h, ?_⟩
        rcases Nat.lt_or_ge i 60 with h1 | h1
        · simp [h1]
        · rw [cm60 hW ch hw _ i h1] at h; cases h
    rw [this]
  | d + 1, hd => by
    rw [cm_bc hW ch hZ hw d (by omega)]
    have e1 : (Z - 1 - (d : Int)).toNat = (Z - 1 - ((d + 1 : Nat) : Int)).toNat + 1 := by omega
    generalize hj : (Z - 1 - ((d + 1 : Nat) : Int)).toNat = j at e1
    have ej : (j : Int) = Z - 2 - d := by omega
    rw [e1]
    simp only [cmN, bcN]
    rw [ne0_bit, ne0_bit]
    constructor
    · rintro ⟨i, hi, hb⟩
      rw [and_bit, gaN_bit] at hb
      obtain ⟨⟨x, hx, h1, h2⟩, h3⟩ := hb
      refine ⟨x, by omega, and_bit.mpr ⟨h1, ?_⟩⟩
      rw [gsN_bit _ _ _ _ _ _ _ (by omega)]
      refine ⟨hx, by rw [ALLW_bit]; simp [hx], ne0_bit.mpr ⟨i, hi, and_bit.mpr ⟨?_, h3⟩⟩⟩
      rw [ej, show Z - 2 - (d : Int) + 1 = Z - 1 - d by omega] at h2
      exact h2
    · rintro ⟨x, hx, hb⟩
      rw [and_bit, gsN_bit _ _ _ _ _ _ _ (by omega)] at hb
      obtain ⟨h1, hx60, _, h2⟩ := hb
      obtain ⟨i, hi, h3⟩ := ne0_bit.mp h2
      rw [and_bit] at h3
      refine ⟨i, hi, and_bit.mpr ⟨(gaN_bit i 60).mpr ⟨x, hx60, h1, ?_⟩, h3.2⟩⟩
      rw [ej, show Z - 2 - (d : Int) + 1 = Z - 1 - d by omega]
      exact h3.1
theorem ac0_eq (hW : RW I) {a b : Int} {s : CS} (hs : csOk s) : (if s.1 = 0 then 0#64 else bcN I (chAt a b s) s.1 (s.1 - 1).toNat) = acN I 255 a b s 0 60 := by
  unfold csOk at hs
  apply bv_ext
  intro i hi
  rw [acN_bit i 60 (by omega)]
  by_cases hz : s.1 = 0
  · rw [if_pos hz]
    unfold acP
    simp [hz]
  · rw [if_neg hz]
    have hb60 : ∀ d : Nat, (bcN I (chAt a b s) s.1 d).getLsbD i = true → i < 60 := fun d h => by
      cases d with
      | zero => simp only [bcN] at h; rw [ALLW_bit] at h; exact of_decide_eq_true h
      | succ d => simp only [bcN] at h; rw [gsN_bit _ _ _ _ _ _ _ (by omega)] at h; exact h.1
    have key : i < 60 → ((bcN I (chAt a b s) s.1 (s.1 - 1).toNat).getLsbD i = true ↔ ¬ cmN I 255 (chAt a b s) i (s.1 - 1).toNat = 0#64) := fun h60 => by
      rw [cm_bc hW (chAt a b s) (by omega) h60 (s.1 - 1).toNat (by omega)]
      rw [show (s.1 - 1 - (((s.1 - 1).toNat : Nat) : Int)).toNat = 0 by omega]
      simp only [cmN]
      rw [show ((i : Int)).toNat = i by omega, BitVec.and_comm, and_only (by omega)]
      simp
    unfold acP
    constructor
    · intro h
      have h60 := hb60 _ h
      exact ⟨h60, Or.inl ⟨rfl, by omega, (key h60).mp h⟩⟩
    · rintro ⟨h60, h | h⟩
      · exact (key h60).mpr h.2.2
      · exact absurd rfl h.1
theorem ct_X6_comingAcross {a b : Int} {s : CS} (hS : ShR I L R n) (ha : tgP a) (hb : tgP b) (hs : csOk s) (eZ : I 26 2 = s.1) (eT : ∀ i : Nat, (i : Int) < s.1 → I 27 i = chAt a b s i) (hq : Q (some (vl (acN I 255 a b s 0 60))) (I, L, R, n)) : Wp mX6_comingAcross 0 [some (vr (some 26)), some (vr (some 4)), none, none, none] [] (I, L, R, n) (0, 0) Q := by
  have hn := hS.1
  have hFx := hS.2.1
  have hW := hS.2.2.1
  rw [← ac0_eq hW hs] at hq
  have hs' := hs
  unfold csOk at hs'
  have eT' : ∀ z : Int, 0 ≤ z → z < s.1 → I 27 z = chAt a b s z := fun z h0 h1 => by
    have := eT z.toNat (by omega); rw [show ((z.toNat : Nat) : Int) = z by omega] at this; exact this
  have lp : ∀ (h0 : ¬ s.1 = 0) , ∀ (tt k : Nat) (z : Int) (x : BitVec 64), k + tt = (s.1 - 1).toNat → z = s.1 - 2 - k → x = bcN I (chAt a b s) s.1 k → Wp mX6_comingAcross 21 [some (vr (some 26)), some (vr (some 4)), some (vl x), none, some (vi z)] [] (I, L, R, n) (0, 0) Q := by
    intro h0
    intro tt
    induction tt with
    | zero =>
      intro k z x hkt hz e0
      obtain rfl : k = (s.1 - 1).toNat := by omega
      refine Wp.iload rfl dX6_comingAcross_21 ?_
      refine Wp.if_lt (tgt := 55) dX6_comingAcross_23 (by decide) (by first | omega | exact bI_R _ | exact cmp_R _ _ | assumption) (fun c23 => ?_) (fun c23 => ?_)
      · refine Wp.lload_n rfl dX6_comingAcross_55 ?_
        refine Wp.lreturn dX6_comingAcross_56 rfl ?_
        first | (exfalso; omega) | (rw [if_neg h0] at hq; exact qL hq e0)
      · exfalso; omega
    | succ tt ih =>
      intro k z x hkt hz e0
      subst hz
      subst e0
      have hc1 := chAt_B ha hb hs (s.1 - 2 - k)
      have hc2 := chAt_B ha hb hs (s.1 - 1 - k)
      refine Wp.iload rfl dX6_comingAcross_21 ?_
      refine Wp.if_lt (tgt := 55) dX6_comingAcross_23 (by decide) (by first | omega | exact bI_R _ | exact cmp_R _ _ | assumption) (fun c23 => ?_) (fun c23 => ?_)
      · exfalso; omega
      · refine Wp.aload_n rfl dX6_comingAcross_26 ?_
        refine Wp.aload_n rfl dX6_comingAcross_27 ?_
        refine Wp.iload rfl dX6_comingAcross_28 ?_
        refine Wp.callV (As := [_]) (ls0 := [_, _]) (bd := (0, 0)) (bd' := (0, 0)) dX6_comingAcross_30 kmX6_tongueAt lkX6_30 (by decide) (by decide) (Nat.le_of_ble_eq_true rfl) (by first | rfl | exact kd_b0 _ | exact kd_b1 _ | exact kd_b2 _ | exact kd_b3 _ | exact kd_b4 _ | exact kd_b5 _ | exact kd_b6 _) (by omega) rfl rfl (Nat.le_of_ble_eq_true rfl) rfl ?_
        refine ct_X6_tongueAt hn hFx (by omega) (by omega) (by omega) ?_
        rw [if_pos (by omega), eT' _ (by omega) (by omega)]
        show Wp _ _ _ (_ :: _) _ _ _
        refine Wp.ldc2_w (b := 1152921504606846975#64) ckX6_48 rfl dX6_comingAcross_33 ?_
        refine Wp.aload_n rfl dX6_comingAcross_36 ?_
        refine Wp.iload rfl dX6_comingAcross_37 ?_
        refine Wp.iconst dX6_comingAcross_39 ?_
        refine Wp.iadd dX6_comingAcross_40 ?_
        refine Wp.callV (As := [_]) (ls0 := [_, _]) (bd := (0, 0)) (bd' := (0, 0)) dX6_comingAcross_41 kmX6_tongueAt lkX6_30 (by decide) (by decide) (Nat.le_of_ble_eq_true rfl) (by first | rfl | exact kd_b0 _ | exact kd_b1 _ | exact kd_b2 _ | exact kd_b3 _ | exact kd_b4 _ | exact kd_b5 _ | exact kd_b6 _) (by omega) rfl rfl (Nat.le_of_ble_eq_true rfl) rfl ?_
        refine ct_X6_tongueAt hn hFx (by omega) (by omega) (by omega) ?_
        rw [if_pos (by omega), show s.1 - 2 - (k : Int) + 1 = s.1 - 1 - k by omega, eT' _ (by omega) (by omega)]
        show Wp _ _ _ (_ :: _) _ _ _
        refine Wp.lload_n rfl dX6_comingAcross_44 ?_
        refine Wp.callV (As := [_, _, _, _]) (ls0 := [_, _, _, _, _, _, _, _, _, _]) (bd := (0, 0)) (bd' := (0, 0)) dX6_comingAcross_45 kmX8_givers lkX6_50 (by decide) (by decide) (Nat.le_of_ble_eq_true rfl) (by first | rfl | exact kd_b0 _ | exact kd_b1 _ | exact kd_b2 _ | exact kd_b3 _ | exact kd_b4 _ | exact kd_b5 _ | exact kd_b6 _) (by omega) rfl rfl (Nat.le_of_ble_eq_true rfl) rfl ?_
        refine ct_X8_givers hS (by omega) (by omega) ?_
        show Wp _ _ _ (_ :: _) _ _ _
        refine Wp.lstore_n (ls' := [_, _, _, _, _]) dX6_comingAcross_48 (by decide) rfl ?_
        refine Wp.iinc (ls' := [_, _, _, _, _]) rfl dX6_comingAcross_49 (by decide) rfl ?_
        refine Wp.goto (tgt := 21) dX6_comingAcross_52 (by decide) ?_
        exact ih (k + 1) _ _ (by omega) (by omega) rfl
  refine Wp.aload_n rfl dX6_comingAcross_0 ?_
  refine Wp.gi (kz := 2) rfl dX6_comingAcross_1 fkX6_18 (by first | rfl | exact kd_b0 _ | exact kd_b1 _ | exact kd_b2 _ | exact kd_b3 _ | exact kd_b4 _ | exact kd_b5 _ | exact kd_b6 _) (by omega) ?_
  refine Wp.if_ne (tgt := 9) dX6_comingAcross_4 (by decide) (by first | omega | exact bI_R _ | exact cmp_R _ _ | assumption) (fun c4 => ?_) (fun c4 => ?_)
  · refine Wp.ldc2_w (b := 1152921504606846975#64) ckX6_48 rfl dX6_comingAcross_9 ?_
    refine Wp.lstore_n (ls' := [_, _, _, _, _]) dX6_comingAcross_12 (by decide) rfl ?_
    refine Wp.aload_n rfl dX6_comingAcross_13 ?_
    refine Wp.gi (kz := 2) rfl dX6_comingAcross_14 fkX6_18 (by first | rfl | exact kd_b0 _ | exact kd_b1 _ | exact kd_b2 _ | exact kd_b3 _ | exact kd_b4 _ | exact kd_b5 _ | exact kd_b6 _) (by omega) ?_
    refine Wp.iconst dX6_comingAcross_17 ?_
    refine Wp.isub dX6_comingAcross_18 ?_
    refine Wp.istore (ls' := [_, _, _, _, _]) dX6_comingAcross_19 (by decide) rfl ?_
    exact lp (by omega) (s.1 - 1).toNat 0 _ _ (by omega) (by omega) rfl
  · refine Wp.lconst0 dX6_comingAcross_7 ?_
    refine Wp.lreturn dX6_comingAcross_8 rfl ?_
    first | (exfalso; omega) | (exact qL hq (by rw [if_pos (by omega)]))
theorem ct_X11_across {a b what : Int} (hS : ShR I L R n) (ha : inR a) (hb : inR b) (hwh : inR what) (hq : ∀ J, Eqv I J → Q (some (vl (aAcross I 255 a b what))) (J, L, R, n)) : Wp mX11_across 0 [some (vr (some 0)), some (vi a), some (vi b), some (vi what)] [] (I, L, R, n) (0, 0) Q := by
  have hn := hS.1
  have hFx := hS.2.1
  have hW := hS.2.2.1
  unfold aAcross at hq
  refine Wp.iload_n rfl dX11_across_0 ?_
  refine Wp.callS (As := [_]) (ls0 := [_]) (bd := (0, 0)) (bd' := (0, 0)) dX11_across_1 kmX11_isTongue lkX11_94 (by decide) (by decide) (Nat.le_of_ble_eq_true rfl) rfl rfl (Nat.le_of_ble_eq_true rfl) rfl ?_
  refine ct_X11_isTongue (by omega) ?_
  show Wp _ _ _ (_ :: _) _ _ _
  refine Wp.if_eqB (tgt := 14) dX11_across_4 (by decide) (fun c4 => ?_) (fun c4 => ?_)
  · refine Wp.ldc2_w (b := 18446744073709550615#64) ckX11_181 rfl dX11_across_14 ?_
    refine Wp.lreturn dX11_across_17 rfl ?_
    first | (exfalso; omega) | (rw [if_neg (by omega)] at hq; exact hq I (Eqv.rf I))
  · refine Wp.iload_n rfl dX11_across_7 ?_
    refine Wp.callS (As := [_]) (ls0 := [_]) (bd := (0, 0)) (bd' := (0, 0)) dX11_across_8 kmX11_isTongue lkX11_94 (by decide) (by decide) (Nat.le_of_ble_eq_true rfl) rfl rfl (Nat.le_of_ble_eq_true rfl) rfl ?_
    refine ct_X11_isTongue (by omega) ?_
    show Wp _ _ _ (_ :: _) _ _ _
    refine Wp.if_neB (tgt := 18) dX11_across_11 (by decide) (fun c11 => ?_) (fun c11 => ?_)
    · refine Wp.iload_n rfl dX11_across_18 ?_
      refine Wp.iload_n rfl dX11_across_19 ?_
      refine Wp.icmp_eq (tgt := 32) dX11_across_20 (by decide) (by first | omega | exact bI_R _ | exact cmp_R _ _ | assumption) (by first | omega | exact bI_R _ | exact cmp_R _ _ | assumption) (fun c20 => ?_) (fun c20 => ?_)
      · refine Wp.ldc2_w (b := 18446744073709550614#64) ckX11_204 rfl dX11_across_32 ?_
        refine Wp.lreturn dX11_across_35 rfl ?_
        first | (exfalso; omega) | (rw [if_pos (by omega), if_neg (by omega)] at hq; exact hq I (Eqv.rf I))
      · refine Wp.iload_n rfl dX11_across_23 ?_
        refine Wp.if_lt (tgt := 32) dX11_across_24 (by decide) (by first | omega | exact bI_R _ | exact cmp_R _ _ | assumption) (fun c24 => ?_) (fun c24 => ?_)
        · refine Wp.ldc2_w (b := 18446744073709550614#64) ckX11_204 rfl dX11_across_32 ?_
          refine Wp.lreturn dX11_across_35 rfl ?_
          first | (exfalso; omega) | (rw [if_pos (by omega), if_neg (by omega)] at hq; exact hq I (Eqv.rf I))
        · refine Wp.iload_n rfl dX11_across_27 ?_
          refine Wp.iconst dX11_across_28 ?_
          refine Wp.icmp_le (tgt := 36) dX11_across_29 (by decide) (by first | omega | exact bI_R _ | exact cmp_R _ _ | assumption) (by first | omega | exact bI_R _ | exact cmp_R _ _ | assumption) (fun c29 => ?_) (fun c29 => ?_)
          · refine Wp.iload_n rfl dX11_across_36 ?_
            refine Wp.iconst dX11_across_37 ?_
            refine Wp.icmp_ne (tgt := 64) dX11_across_38 (by decide) (by first | omega | exact bI_R _ | exact cmp_R _ _ | assumption) (by first | omega | exact bI_R _ | exact cmp_R _ _ | assumption) (fun c38 => ?_) (fun c38 => ?_)
            · refine Wp.aload_n rfl dX11_across_64 ?_
              refine Wp.gr (kz := 8) rfl dX11_across_65 fkX11_68 (by first | rfl | exact kd_b0 _ | exact kd_b1 _ | exact kd_b2 _ | exact kd_b3 _ | exact kd_b4 _ | exact kd_b5 _ | exact kd_b6 _) (by omega) (by first | exact hFx _ 8 _ rfl | assumption | exact hBk.1 | exact hBk.2.1 | exact hBk.2.2.1 | exact hBk.2.2.2.1 | exact hBk.2.2.2.2.1 | exact hBk.2.2.2.2.2) ?_
              refine Wp.aload_n rfl dX11_across_68 ?_
              refine Wp.gr (kz := 2) rfl dX11_across_69 fkX11_26 (by first | rfl | exact kd_b0 _ | exact kd_b1 _ | exact kd_b2 _ | exact kd_b3 _ | exact kd_b4 _ | exact kd_b5 _ | exact kd_b6 _) (by omega) (by first | exact hFx _ 2 _ rfl | assumption | exact hBk.1 | exact hBk.2.1 | exact hBk.2.2.1 | exact hBk.2.2.2.1 | exact hBk.2.2.2.2.1 | exact hBk.2.2.2.2.2) ?_
              refine Wp.iload_n rfl dX11_across_72 ?_
              refine Wp.iload_n rfl dX11_across_73 ?_
              refine Wp.callV (As := [_, _, _]) (ls0 := [_, _, _, _, _, _]) (bd := (0, 0)) (bd' := (0, 0)) dX11_across_74 kmX6_find lkX11_288 (by decide) (by decide) (Nat.le_of_ble_eq_true rfl) (by first | rfl | exact kd_b0 _ | exact kd_b1 _ | exact kd_b2 _ | exact kd_b3 _ | exact kd_b4 _ | exact kd_b5 _ | exact kd_b6 _) (by omega) rfl rfl (Nat.le_of_ble_eq_true rfl) rfl ?_
              refine ct_X6_find hS (by omega) (by omega) (by omega) (fun J eJ eZ eT => ?_)
              have hcs : csOk (chS (ldB I 255) a b) := fcX_ok (by omega) 4 (by omega)
              have hSJ := ShR_cg eJ (EqvL.rf L) hS
              show Wp _ _ _ _ _ _ _
              refine Wp.aload_n rfl dX11_across_77 ?_
              refine Wp.gr (kz := 8) rfl dX11_across_78 fkX11_68 (by first | rfl | exact kd_b0 _ | exact kd_b1 _ | exact kd_b2 _ | exact kd_b3 _ | exact kd_b4 _ | exact kd_b5 _ | exact kd_b6 _) (by omega) (by first | exact hFx _ 8 _ rfl | assumption | exact hBk.1 | exact hBk.2.1 | exact hBk.2.2.1 | exact hBk.2.2.2.1 | exact hBk.2.2.2.2.1 | exact hBk.2.2.2.2.2) ?_
              refine Wp.aload_n rfl dX11_across_81 ?_
              refine Wp.gr (kz := 2) rfl dX11_across_82 fkX11_26 (by first | rfl | exact kd_b0 _ | exact kd_b1 _ | exact kd_b2 _ | exact kd_b3 _ | exact kd_b4 _ | exact kd_b5 _ | exact kd_b6 _) (by omega) (by first | exact hFx _ 2 _ rfl | assumption | exact hBk.1 | exact hBk.2.1 | exact hBk.2.2.1 | exact hBk.2.2.2.1 | exact hBk.2.2.2.2.1 | exact hBk.2.2.2.2.2) ?_
              refine Wp.callV (As := [_]) (ls0 := [_, _, _, _, _]) (bd := (0, 0)) (bd' := (0, 0)) dX11_across_85 kmX6_comingAcross lkX11_303 (by decide) (by decide) (Nat.le_of_ble_eq_true rfl) (by first | rfl | exact kd_b0 _ | exact kd_b1 _ | exact kd_b2 _ | exact kd_b3 _ | exact kd_b4 _ | exact kd_b5 _ | exact kd_b6 _) (by omega) rfl rfl (Nat.le_of_ble_eq_true rfl) rfl ?_
              refine ct_X6_comingAcross hSJ (by omega) (by omega) hcs eZ eT ?_
              rw [acN_cg eJ.se]
              show Wp _ _ _ (_ :: _) _ _ _
              refine Wp.lreturn dX11_across_88 rfl ?_
              first | (exfalso; omega) | (rw [if_pos (by omega), if_pos (by omega), show what = 0 by omega] at hq; exact hq J eJ)
            · refine Wp.aload_n rfl dX11_across_41 ?_
              refine Wp.gr (kz := 2) rfl dX11_across_42 fkX11_26 (by first | rfl | exact kd_b0 _ | exact kd_b1 _ | exact kd_b2 _ | exact kd_b3 _ | exact kd_b4 _ | exact kd_b5 _ | exact kd_b6 _) (by omega) (by first | exact hFx _ 2 _ rfl | assumption | exact hBk.1 | exact hBk.2.1 | exact hBk.2.2.1 | exact hBk.2.2.2.1 | exact hBk.2.2.2.2.1 | exact hBk.2.2.2.2.2) ?_
              refine Wp.iload_n rfl dX11_across_45 ?_
              refine Wp.callV (As := [_]) (ls0 := [_, _, _, _, _]) (bd := (0, 0)) (bd' := (0, 0)) dX11_across_46 kmX8_headsFrom lkX11_296 (by decide) (by decide) (Nat.le_of_ble_eq_true rfl) (by first | rfl | exact kd_b0 _ | exact kd_b1 _ | exact kd_b2 _ | exact kd_b3 _ | exact kd_b4 _ | exact kd_b5 _ | exact kd_b6 _) (by omega) rfl rfl (Nat.le_of_ble_eq_true rfl) rfl ?_
              refine ct_X8_headsFrom hS (by omega) (fun x hx => ?_)
              show Wp _ _ _ (_ :: _) _ _ _
              refine Wp.aload_n rfl dX11_across_49 ?_
              refine Wp.gr (kz := 2) rfl dX11_across_50 fkX11_26 (by first | rfl | exact kd_b0 _ | exact kd_b1 _ | exact kd_b2 _ | exact kd_b3 _ | exact kd_b4 _ | exact kd_b5 _ | exact kd_b6 _) (by omega) (by first | exact hFx _ 2 _ rfl | assumption | exact hBk.1 | exact hBk.2.1 | exact hBk.2.2.1 | exact hBk.2.2.2.1 | exact hBk.2.2.2.2.1 | exact hBk.2.2.2.2.2) ?_
              refine Wp.iload_n rfl dX11_across_53 ?_
              refine Wp.iload_n rfl dX11_across_54 ?_
              refine Wp.callV (As := [_, _]) (ls0 := [_, _, _, _, _, _, _]) (bd := (0, 0)) (bd' := (0, 0)) dX11_across_55 kmX8_headsTo lkX11_299 (by decide) (by decide) (Nat.le_of_ble_eq_true rfl) (by first | rfl | exact kd_b0 _ | exact kd_b1 _ | exact kd_b2 _ | exact kd_b3 _ | exact kd_b4 _ | exact kd_b5 _ | exact kd_b6 _) (by omega) rfl rfl (Nat.le_of_ble_eq_true rfl) rfl ?_
              refine ct_X8_headsTo hS (by omega) (by omega) (fun y hy => ?_)
              show Wp _ _ _ (_ :: _) _ _ _
              refine Wp.ldc2_w (b := 18446744073709551615#64) ckX11_206 rfl dX11_across_58 ?_
              refine Wp.lxor dX11_across_61 ?_
              refine Wp.land dX11_across_62 ?_
              refine Wp.lreturn dX11_across_63 rfl ?_
              first | (exfalso; omega) | (rw [if_pos (by omega), if_pos (by omega), show what = 1 by omega] at hq; exact qL (hq I (Eqv.rf I)) (ac1_eq hW hx hy))
          · refine Wp.ldc2_w (b := 18446744073709550614#64) ckX11_204 rfl dX11_across_32 ?_
            refine Wp.lreturn dX11_across_35 rfl ?_
            first | (exfalso; omega) | (rw [if_pos (by omega), if_neg (by omega)] at hq; exact hq I (Eqv.rf I))
    · refine Wp.ldc2_w (b := 18446744073709550615#64) ckX11_181 rfl dX11_across_14 ?_
      refine Wp.lreturn dX11_across_17 rfl ?_
      first | (exfalso; omega) | (rw [if_neg (by omega)] at hq; exact hq I (Eqv.rf I))
end

