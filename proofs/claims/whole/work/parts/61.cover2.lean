/-! ===== the class: promise 28 ===== -/
section
variable {I J : Nat → Int → Int} {L K : Nat → Int → BitVec 64} {R : Nat → Int → Option Nat} {n k : Nat} {m : Mm} {Q : Option AV → Mm → Prop}
theorem ushr_b {s k : Nat} (hs : s < 256) (hk : k < 8) : andI (ushrI (s : Int) (k : Int)) 1 = bI (s.testBit k = true) := (bitS ⟨s, hs⟩ ⟨k, hk⟩).2.2
theorem or_s {s k : Nat} (hs : s < 256) (hk : k < 8) : orI (s : Int) (shlI 1 (k : Int)) = ((s ||| 2 ^ k : Nat) : Int) := orS ⟨s, hs⟩ ⟨k, hk⟩
theorem sub_s {s u : Nat} (hs : s < 256) (hu : u < 256) : andI (s : Int) (xorI (u : Int) (-1)) = 0 ↔ s &&& u = s := subS ⟨s, hs⟩ ⟨u, hu⟩
theorem or_01 {x : Int} (h : x = 0 ∨ x = 1) : orI x 1 = 1 ∧ orI x 0 = x := by rcases h with rfl | rfl <;> decide
def liP (I : Nat → Int → Int) (kb : Nat) (h T : BitVec 64) (N : Nat) (x : BitVec 64) : Prop := ∀ i : Nat, x.getLsbD i = true ↔ i < N ∧ h.getLsbD i = true ∧ ¬ geN I (I 32 10) (60 * kb + i) (I 36 (60 * kb + i)).toNat &&& T = 0#64
theorem li_t {kb : Nat} {h T x : BitVec 64} (hk : k < 60) (e : liP I kb h T k x) (c : hasW h k) (d : ¬ geN I (I 32 10) (60 * kb + k) (I 36 (60 * kb + k)).toNat &&& T = 0#64) : liP I kb h T (k + 1) (x ||| onlyW k) := by
  have c2 : h.getLsbD k = true := c.2.2
  intro i
  rw [or_bit, e i, onlyW_t (by omega) (by omega), show ((k : Int)).toNat = k by omega, one_bit (by omega)]
  constructor
  · rintro (h1 | rfl)
    · exact ⟨by omega, h1.2⟩
    · exact ⟨by omega, c2, d⟩
  · rintro ⟨h1, h2⟩
    by_cases hik : i = k
    · exact Or.inr hik
    · exact Or.inl ⟨by omega, h2⟩
theorem li_f {kb : Nat} {h T x : BitVec 64} (hk : k < 60) (e : liP I kb h T k x) (c : ¬ (hasW h k ∧ ¬ geN I (I 32 10) (60 * kb + k) (I 36 (60 * kb + k)).toNat &&& T = 0#64)) : liP I kb h T (k + 1) x := by
  intro i
  rw [e i]
  constructor
  · exact fun q => ⟨by omega, q.2⟩
  · rintro ⟨h1, h2⟩
    by_cases hik : i = k
    · subst hik; exact absurd ⟨⟨by omega, by omega, h2.1⟩, h2.2⟩ c
    · exact ⟨by omega, h2⟩
theorem ct_X1_leadingInto {kb : Nat} {h T : BitVec 64} {ag : Int} (hS : ShR I L R n) (hkb : (kb : Int) < I 32 0) (hag : ag = I 32 10) (hq : ∀ x, liP I kb h T 60 x → Q (some (vl x)) (I, L, R, n)) : Wp mX1_leadingInto 0 [some (vr (some (57 + 7 * kb))), some (vl h), none, some (vl T), none, some (vi ag), none, none, none] [] (I, L, R, n) (0, 0) Q := by
  subst hag
  have hn := hS.1
  have hW := hS.2.2.1
  have hA := hW.2.2.2.2.1
  have hB := hS.2.2.2.2.2.2 kb hkb
  have hn7 := hB.2.2.1
  have lp : ∀ (tt k : Nat) (z : Int) (x : BitVec 64), k + tt = 60 → z = k → liP I kb h T k x → Wp mX1_leadingInto 6 [some (vr (some (57 + 7 * kb))), some (vl h), none, some (vl T), none, some (vi (I 32 10)), some (vl x), none, some (vi z)] [] (I, L, R, n) (0, 0) Q := by
    intro tt
    induction tt with
    | zero =>
      intro k z x hkt hz e0
      obtain rfl : k = 60 := by omega
      refine Wp.iload rfl dX1_leadingInto_6 ?_
      refine Wp.bipush rfl dX1_leadingInto_8 ?_
      refine Wp.icmp_ge (tgt := 59) dX1_leadingInto_10 (by decide) (by first | omega | exact bI_R _ | exact cmp_R _ _ | assumption) (by first | omega | exact bI_R _ | exact cmp_R _ _ | assumption) (fun c10 => ?_) (fun c10 => ?_)
      · refine Wp.lload rfl dX1_leadingInto_59 ?_
        refine Wp.lreturn dX1_leadingInto_61 rfl ?_
        first | (exfalso; omega) | (exact hq x e0)
      · exfalso; omega
    | succ tt ih =>
      intro k z x hkt hz e0
      subst hz
      refine Wp.iload rfl dX1_leadingInto_6 ?_
      refine Wp.bipush rfl dX1_leadingInto_8 ?_
      refine Wp.icmp_ge (tgt := 59) dX1_leadingInto_10 (by decide) (by first | omega | exact bI_R _ | exact cmp_R _ _ | assumption) (by first | omega | exact bI_R _ | exact cmp_R _ _ | assumption) (fun c10 => ?_) (fun c10 => ?_)
      · first | (exfalso; omega) | exact Wp.lload rfl dX1_leadingInto_59 (Wp.lreturn dX1_leadingInto_61 rfl (hq x (fun i => by rw [e0 i, c16]; simp)))
      · refine Wp.lload_n rfl dX1_leadingInto_13 ?_
        refine Wp.lconst0 dX1_leadingInto_14 ?_
        refine Wp.lcmp dX1_leadingInto_15 ?_
        refine Wp.if_eqC (tgt := 59) dX1_leadingInto_16 (by decide) (fun c16 => ?_) (fun c16 => ?_)
        · first | (exfalso; omega) | exact Wp.lload rfl dX1_leadingInto_59 (Wp.lreturn dX1_leadingInto_61 rfl (hq x (fun i => by rw [e0 i, c16]; simp)))
        · refine Wp.lload_n rfl dX1_leadingInto_19 ?_
          refine Wp.iload rfl dX1_leadingInto_20 ?_
          refine Wp.callS (As := [_, _]) (ls0 := [_, _, _]) (bd := (0, 0)) (bd' := (0, 0)) dX1_leadingInto_22 kmX11_has lkX1_82 (by decide) (by decide) (Nat.le_of_ble_eq_true rfl) rfl rfl (Nat.le_of_ble_eq_true rfl) rfl ?_
          refine ct_X11_has (by omega) ?_
          show Wp _ _ _ (_ :: _) _ _ _
          refine Wp.if_eqB (tgt := 53) dX1_leadingInto_25 (by decide) (fun c25 => ?_) (fun c25 => ?_)
          · refine Wp.iinc (ls' := [_, _, _, _, _, _, _, _, _]) rfl dX1_leadingInto_53 (by decide) rfl ?_
            refine Wp.goto (tgt := 6) dX1_leadingInto_56 (by decide) ?_
            first | exact ih (k + 1) _ _ (by omega) (by omega) (li_t (by omega) e0 c25 c40) | exact ih (k + 1) _ _ (by omega) (by omega) (li_f (by omega) e0 (fun q => q.2 c40)) | exact ih (k + 1) _ _ (by omega) (by omega) (li_f (by omega) e0 (fun q => c25 q.1)) | (exfalso; omega)
          · refine Wp.aload_n rfl dX1_leadingInto_28 ?_
            refine Wp.iload rfl dX1_leadingInto_29 ?_
            refine Wp.iload rfl dX1_leadingInto_31 ?_
            refine Wp.callV (As := [_, _]) (ls0 := [_, _, _, _, _, _, _]) (bd := (0, 0)) (bd' := (0, 0)) dX1_leadingInto_33 kmX0_entrySet lkX1_86 (by decide) (by decide) (Nat.le_of_ble_eq_true rfl) (by first | rfl | exact kd_b0 _ | exact kd_b1 _ | exact kd_b2 _ | exact kd_b3 _ | exact kd_b4 _ | exact kd_b5 _ | exact kd_b6 _) (by omega) rfl rfl (Nat.le_of_ble_eq_true rfl) rfl ?_
            refine ct_X0_entrySet hB hW hkb (by omega) (by omega) (by omega) ?_
            show Wp _ _ _ (_ :: _) _ _ _
            refine Wp.lload_n rfl dX1_leadingInto_36 ?_
            refine Wp.land dX1_leadingInto_37 ?_
            refine Wp.lconst0 dX1_leadingInto_38 ?_
            refine Wp.lcmp dX1_leadingInto_39 ?_
            refine Wp.if_eqC (tgt := 53) dX1_leadingInto_40 (by decide) (fun c40 => ?_) (fun c40 => ?_)
            · refine Wp.iinc (ls' := [_, _, _, _, _, _, _, _, _]) rfl dX1_leadingInto_53 (by decide) rfl ?_
              refine Wp.goto (tgt := 6) dX1_leadingInto_56 (by decide) ?_
              first | exact ih (k + 1) _ _ (by omega) (by omega) (li_t (by omega) e0 c25 c40) | exact ih (k + 1) _ _ (by omega) (by omega) (li_f (by omega) e0 (fun q => q.2 c40)) | exact ih (k + 1) _ _ (by omega) (by omega) (li_f (by omega) e0 (fun q => c25 q.1)) | (exfalso; omega)
            · refine Wp.lload rfl dX1_leadingInto_43 ?_
              refine Wp.iload rfl dX1_leadingInto_45 ?_
              refine Wp.callS (As := [_]) (ls0 := [_]) (bd := (0, 0)) (bd' := (0, 0)) dX1_leadingInto_47 kmX11_only lkX1_90 (by decide) (by decide) (Nat.le_of_ble_eq_true rfl) rfl rfl (Nat.le_of_ble_eq_true rfl) rfl ?_
              refine ct_X11_only (by omega) ?_
              show Wp _ _ _ (_ :: _) _ _ _
              refine Wp.lor dX1_leadingInto_50 ?_
              refine Wp.lstore (ls' := [_, _, _, _, _, _, _, _, _]) dX1_leadingInto_51 (by decide) rfl ?_
              refine Wp.iinc (ls' := [_, _, _, _, _, _, _, _, _]) rfl dX1_leadingInto_53 (by decide) rfl ?_
              refine Wp.goto (tgt := 6) dX1_leadingInto_56 (by decide) ?_
              first | exact ih (k + 1) _ _ (by omega) (by omega) (li_t (by omega) e0 c25 c40) | exact ih (k + 1) _ _ (by omega) (by omega) (li_f (by omega) e0 (fun q => q.2 c40)) | exact ih (k + 1) _ _ (by omega) (by omega) (li_f (by omega) e0 (fun q => c25 q.1)) | (exfalso; omega)
  refine Wp.lconst0 dX1_leadingInto_0 ?_
  refine Wp.lstore (ls' := [_, _, _, _, _, _, _, _, _]) dX1_leadingInto_1 (by decide) rfl ?_
  refine Wp.iconst dX1_leadingInto_3 ?_
  refine Wp.istore (ls' := [_, _, _, _, _, _, _, _, _]) dX1_leadingInto_4 (by decide) rfl ?_
  exact lp 60 0 _ _ (by omega) (by omega) (fun i => by simp)
def cnP (I : Nat → Int → Int) (s kb N : Nat) (x : BitVec 64) : Prop := ∀ i : Nat, x.getLsbD i = true ↔ (i < 60 ∧ 0 < I 36 (60 * kb + i)) ∧ ∀ j : Nat, j < N → (j : Int) < I 32 0 → s.testBit j = true → supP I j kb → ¬ 0 < I 36 (60 * j + i)
theorem cn_t {s kb : Nat} {x : BitVec 64} (e : cnP I s kb k x) (hB : BR I L R n k) (h1 : (k : Int) < I 32 0) (h2 : s.testBit k = true) (h3 : supP I k kb) : cnP I s kb (k + 1) (x &&& (L (57 + 7 * k) 3 ^^^ 18446744073709551615#64)) := by
  intro i
  rcases Nat.lt_or_ge i 64 with hi | hi
  · rw [and_bit, not_bit hi, e i, hB.hdi i]
    constructor
    · rintro ⟨⟨h4, h5⟩, h6⟩
      refine ⟨h4, fun j hj hj1 hj2 hj3 q => ?_⟩
      by_cases hjk : j = k
      · subst hjk; exact h6 ⟨h4.1, q⟩
      · exact h5 j (by omega) hj1 hj2 hj3 q
    · rintro ⟨h4, h5⟩
      exact ⟨⟨h4, fun j hj => h5 j (by omega)⟩, fun q => h5 k (by omega) h1 h2 h3 q.2⟩
  · rw [BitVec.getLsbD_of_ge _ _ (by omega)]
    constructor
    · intro q; cases q
    · intro q; omega
theorem cn_f {s kb : Nat} {x : BitVec 64} (e : cnP I s kb k x) (h : ¬ ((k : Int) < I 32 0 ∧ s.testBit k = true ∧ supP I k kb)) : cnP I s kb (k + 1) x := by
  intro i
  rw [e i]
  constructor
  · rintro ⟨h4, h5⟩
    refine ⟨h4, fun j hj hj1 hj2 hj3 q => ?_⟩
    by_cases hjk : j = k
    · subst hjk; exact h ⟨hj1, hj2, hj3⟩
    · exact h5 j (by omega) hj1 hj2 hj3 q
  · rintro ⟨h4, h5⟩
    exact ⟨h4, fun j hj => h5 j (by omega)⟩
theorem ct_X1_countingHeads {s kb : Nat} (hS : ShR I L R n) (hs : s < 256) (hk8 : kb < 8) (hq : ∀ x, chP I s kb x → Q (some (vl x)) (I, L, R, n)) : Wp mX1_countingHeads 0 [some (vr (some 29)), some (vr (some 4)), some (vi (s : Int)), some (vi (kb : Int)), none, none, none, none, none, none] [] (I, L, R, n) (0, 0) Q := by
  have hn := hS.1
  have hW := hS.2.2.1
  have hN1 := hW.2.1
  have lp : ∀ (hkb : (kb : Int) < I 32 0) (hbt : s.testBit kb = true) , ∀ (tt k : Nat) (z : Int) (x : BitVec 64) (x8 : Option AV) (x9 : Option AV), k + tt = 8 → z = k → cnP I s kb k x → Wp mX1_countingHeads 32 [some (vr (some 29)), some (vr (some 4)), some (vi (s : Int)), some (vi (kb : Int)), some (vr (some (57 + 7 * kb))), some (vl x), none, some (vi z), x8, x9] [] (I, L, R, n) (0, 0) Q := by
    intro hkb hbt
    intro tt
    induction tt with
    | zero =>
      intro k z x x8 x9 hkt hz e0
      obtain rfl : k = 8 := by omega
      refine Wp.iload rfl dX1_countingHeads_32 ?_
      refine Wp.bipush rfl dX1_countingHeads_34 ?_
      refine Wp.icmp_ge (tgt := 106) dX1_countingHeads_36 (by decide) (by first | omega | exact bI_R _ | exact cmp_R _ _ | assumption) (by first | omega | exact bI_R _ | exact cmp_R _ _ | assumption) (fun c36 => ?_) (fun c36 => ?_)
      · refine Wp.lload rfl dX1_countingHeads_106 ?_
        refine Wp.lreturn dX1_countingHeads_108 rfl ?_
        refine hq x (fun i => ?_)
        rw [e0 i]
        constructor
        · exact fun q => ⟨⟨hkb, hbt⟩, q.1, fun j hj => q.2 j (by omega) hj⟩
        · exact fun q => ⟨q.2.1, fun j _ hj => q.2.2 j hj⟩
      · exfalso; omega
    | succ tt ih =>
      intro k z x x8 x9 hkt hz e0
      subst hz
      have hBk := hS.2.2.2.2.2.2 kb hkb
      have hnk := hBk.2.2.1
      have h68f : ∀ (x8 : Option AV), ¬ ((k : Int) < I 32 0 ∧ s.testBit k = true ∧ supP I k kb) → Wp mX1_countingHeads 68 [some (vr (some 29)), some (vr (some 4)), some (vi (s : Int)), some (vi (kb : Int)), some (vr (some (57 + 7 * kb))), some (vl x), none, some (vi k), x8, some (vi 0)] [] (I, L, R, n) (0, 0) Q := by
        intro x8 hf
        refine Wp.iload rfl dX1_countingHeads_68 ?_
        refine Wp.if_eq (tgt := 100) dX1_countingHeads_70 (by decide) (by first | omega | exact bI_R _ | exact cmp_R _ _ | assumption) (fun c70 => ?_) (fun c70 => ?_)
        · refine Wp.iinc (ls' := [_, _, _, _, _, _, _, _, _, _]) rfl dX1_countingHeads_100 (by decide) rfl ?_
          refine Wp.goto (tgt := 32) dX1_countingHeads_103 (by decide) ?_
          exact ih (k + 1) _ _ _ _ (by omega) (by omega) (cn_f e0 hf)
        · exfalso; omega
      have h68t : (k : Int) < I 32 0 → s.testBit k = true → Wp mX1_countingHeads 68 [some (vr (some 29)), some (vr (some 4)), some (vi (s : Int)), some (vi (kb : Int)), some (vr (some (57 + 7 * kb))), some (vl x), none, some (vi k), some (vr (some (57 + 7 * k))), some (vi 1)] [] (I, L, R, n) (0, 0) Q := by
        intro hz1 hbk
        have hB := hS.2.2.2.2.2.2 k hz1
        have hn7 := hB.2.2.1
        refine Wp.iload rfl dX1_countingHeads_68 ?_
        refine Wp.if_eq (tgt := 100) dX1_countingHeads_70 (by decide) (by first | omega | exact bI_R _ | exact cmp_R _ _ | assumption) (fun c70 => ?_) (fun c70 => ?_)
        · refine Wp.iinc (ls' := [_, _, _, _, _, _, _, _, _, _]) rfl dX1_countingHeads_100 (by decide) rfl ?_
          refine Wp.goto (tgt := 32) dX1_countingHeads_103 (by decide) ?_
          first | (exfalso; omega) | exact ih (k + 1) _ _ _ _ (by omega) (by omega) (cn_t e0 hB hz1 hbk ⟨c83.1, c83.2.1, by omega⟩) | exact ih (k + 1) _ _ _ _ (by omega) (by omega) (cn_f e0 (fun q => c83 ⟨q.2.2.1, q.2.2.2.1, by have := q.2.2.2.2; omega⟩))
        · refine Wp.aload rfl dX1_countingHeads_73 ?_
          refine Wp.iload rfl dX1_countingHeads_75 ?_
          refine Wp.aload rfl dX1_countingHeads_77 ?_
          refine Wp.iload_n rfl dX1_countingHeads_79 ?_
          refine Wp.callV (As := [_, _, _]) (ls0 := [_, _, _, _]) (bd := (0, 0)) (bd' := (0, 0)) dX1_countingHeads_80 kmX0_supersedes lkX1_67 (by decide) (by decide) (Nat.le_of_ble_eq_true rfl) (by first | rfl | exact kd_b0 _ | exact kd_b1 _ | exact kd_b2 _ | exact kd_b3 _ | exact kd_b4 _ | exact kd_b5 _ | exact kd_b6 _) (by omega) rfl rfl (Nat.le_of_ble_eq_true rfl) rfl ?_
          refine ct_X0_supersedes (ka := k) (kc := kb) hB hBk hW hz1 hkb (by omega) (by omega) ?_
          show Wp _ _ _ (_ :: _) _ _ _
          refine Wp.if_eqB (tgt := 100) dX1_countingHeads_83 (by decide) (fun c83 => ?_) (fun c83 => ?_)
          · refine Wp.iinc (ls' := [_, _, _, _, _, _, _, _, _, _]) rfl dX1_countingHeads_100 (by decide) rfl ?_
            refine Wp.goto (tgt := 32) dX1_countingHeads_103 (by decide) ?_
            first | (exfalso; omega) | exact ih (k + 1) _ _ _ _ (by omega) (by omega) (cn_t e0 hB hz1 hbk ⟨c83.1, c83.2.1, by omega⟩) | exact ih (k + 1) _ _ _ _ (by omega) (by omega) (cn_f e0 (fun q => c83 ⟨q.2.2.1, q.2.2.2.1, by have := q.2.2.2.2; omega⟩))
          · refine Wp.lload rfl dX1_countingHeads_86 ?_
            refine Wp.aload rfl dX1_countingHeads_88 ?_
            refine Wp.gl (kz := 3) rfl dX1_countingHeads_90 fkX1_63 (by first | rfl | exact kd_b0 _ | exact kd_b1 _ | exact kd_b2 _ | exact kd_b3 _ | exact kd_b4 _ | exact kd_b5 _ | exact kd_b6 _) (by omega) ?_
            refine Wp.ldc2_w (b := 18446744073709551615#64) ckX1_58 rfl dX1_countingHeads_93 ?_
            refine Wp.lxor dX1_countingHeads_96 ?_
            refine Wp.land dX1_countingHeads_97 ?_
            refine Wp.lstore (ls' := [_, _, _, _, _, _, _, _, _, _]) dX1_countingHeads_98 (by decide) rfl ?_
            refine Wp.iinc (ls' := [_, _, _, _, _, _, _, _, _, _]) rfl dX1_countingHeads_100 (by decide) rfl ?_
            refine Wp.goto (tgt := 32) dX1_countingHeads_103 (by decide) ?_
            first | (exfalso; omega) | exact ih (k + 1) _ _ _ _ (by omega) (by omega) (cn_t e0 hB hz1 hbk ⟨c83.1, c83.2.1, by omega⟩) | exact ih (k + 1) _ _ _ _ (by omega) (by omega) (cn_f e0 (fun q => c83 ⟨q.2.2.1, q.2.2.2.1, by have := q.2.2.2.2; omega⟩))
      refine Wp.iload rfl dX1_countingHeads_32 ?_
      refine Wp.bipush rfl dX1_countingHeads_34 ?_
      refine Wp.icmp_ge (tgt := 106) dX1_countingHeads_36 (by decide) (by first | omega | exact bI_R _ | exact cmp_R _ _ | assumption) (by first | omega | exact bI_R _ | exact cmp_R _ _ | assumption) (fun c36 => ?_) (fun c36 => ?_)
      · exfalso; omega
      · refine Wp.aload_n rfl dX1_countingHeads_39 ?_
        refine Wp.iload rfl dX1_countingHeads_40 ?_
        refine Wp.callV (As := [_]) (ls0 := [_, _]) (bd := (0, 0)) (bd' := (0, 0)) dX1_countingHeads_42 kmX8_bookAt lkX1_60 (by decide) (by decide) (Nat.le_of_ble_eq_true rfl) (by first | rfl | exact kd_b0 _ | exact kd_b1 _ | exact kd_b2 _ | exact kd_b3 _ | exact kd_b4 _ | exact kd_b5 _ | exact kd_b6 _) (by omega) rfl rfl (Nat.le_of_ble_eq_true rfl) rfl ?_
        refine ct_X8_bookAt hS (by omega) ?_
        show Wp _ _ _ (_ :: _) _ _ _
        refine Wp.astore (ls' := [_, _, _, _, _, _, _, _, _, _]) dX1_countingHeads_45 (by decide) rfl ?_
        refine Wp.aload rfl dX1_countingHeads_47 ?_
        refine Wp.ifnull (tgt := 65) dX1_countingHeads_49 (by decide) (fun c49 => ?_) (fun o49 c49 => ?_)
        · refine Wp.iconst dX1_countingHeads_65 ?_
          refine Wp.istore (ls' := [_, _, _, _, _, _, _, _, _, _]) dX1_countingHeads_66 (by decide) rfl ?_
          first | exact h68t hz1 c58 | exact h68f _ (fun q => c58 q.2.1) | exact h68f _ (fun q => bkA_n c49 ⟨by omega, q.1⟩)
        · obtain ⟨ho, hz0, hz1⟩ := bkA_s c49
          have ho' : o49 = 57 + 7 * k := ho
          subst ho'
          rw [c49]
          refine Wp.iload_n rfl dX1_countingHeads_52 ?_
          refine Wp.iload rfl dX1_countingHeads_53 ?_
          refine Wp.iushr dX1_countingHeads_55 ?_
          refine Wp.iconst dX1_countingHeads_56 ?_
          refine Wp.iand dX1_countingHeads_57 ?_
          rw [ushr_b hs (by omega)]
          refine Wp.if_eqB (tgt := 65) dX1_countingHeads_58 (by decide) (fun c58 => ?_) (fun c58 => ?_)
          · refine Wp.iconst dX1_countingHeads_65 ?_
            refine Wp.istore (ls' := [_, _, _, _, _, _, _, _, _, _]) dX1_countingHeads_66 (by decide) rfl ?_
            first | exact h68t hz1 c58 | exact h68f _ (fun q => c58 q.2.1) | exact h68f _ (fun q => bkA_n c49 ⟨by omega, q.1⟩)
          · refine Wp.iconst dX1_countingHeads_61 ?_
            refine Wp.goto (tgt := 66) dX1_countingHeads_62 (by decide) ?_
            refine Wp.istore (ls' := [_, _, _, _, _, _, _, _, _, _]) dX1_countingHeads_66 (by decide) rfl ?_
            first | exact h68t hz1 c58 | exact h68f _ (fun q => c58 q.2.1) | exact h68f _ (fun q => bkA_n c49 ⟨by omega, q.1⟩)
  refine Wp.aload_n rfl dX1_countingHeads_0 ?_
  refine Wp.iload_n rfl dX1_countingHeads_1 ?_
  refine Wp.callV (As := [_]) (ls0 := [_, _]) (bd := (0, 0)) (bd' := (0, 0)) dX1_countingHeads_2 kmX8_bookAt lkX1_60 (by decide) (by decide) (Nat.le_of_ble_eq_true rfl) (by first | rfl | exact kd_b0 _ | exact kd_b1 _ | exact kd_b2 _ | exact kd_b3 _ | exact kd_b4 _ | exact kd_b5 _ | exact kd_b6 _) (by omega) rfl rfl (Nat.le_of_ble_eq_true rfl) rfl ?_
  refine ct_X8_bookAt hS (by omega) ?_
  show Wp _ _ _ (_ :: _) _ _ _
  refine Wp.astore (ls' := [_, _, _, _, _, _, _, _, _, _]) dX1_countingHeads_5 (by decide) rfl ?_
  refine Wp.aload rfl dX1_countingHeads_7 ?_
  refine Wp.ifnull (tgt := 20) dX1_countingHeads_9 (by decide) (fun c9 => ?_) (fun o9 c9 => ?_)
  · refine Wp.lconst0 dX1_countingHeads_20 ?_
    refine Wp.lreturn dX1_countingHeads_21 rfl ?_
    first | (exfalso; omega) | (first | exact hq _ (fun i => by constructor; (intro q; simp at q); (intro q; exact absurd q.1.1 (fun q2 => bkA_n c9 ⟨by omega, q2⟩))) | exact hq _ (fun i => by constructor; (intro q; simp at q); (intro q; exact absurd q.1.2 c17)))
  · obtain ⟨ho, hz0, hz1⟩ := bkA_s c9
    have ho' : o9 = 57 + 7 * kb := ho
    subst ho'
    rw [c9]
    have hB := hS.2.2.2.2.2.2 kb hz1
    have hn7 := hB.2.2.1
    refine Wp.iload_n rfl dX1_countingHeads_12 ?_
    refine Wp.iload_n rfl dX1_countingHeads_13 ?_
    refine Wp.iushr dX1_countingHeads_14 ?_
    refine Wp.iconst dX1_countingHeads_15 ?_
    refine Wp.iand dX1_countingHeads_16 ?_
    rw [ushr_b hs hk8]
    refine Wp.if_neB (tgt := 22) dX1_countingHeads_17 (by decide) (fun c17 => ?_) (fun c17 => ?_)
    · refine Wp.aload rfl dX1_countingHeads_22 ?_
      refine Wp.gl (kz := 3) rfl dX1_countingHeads_24 fkX1_63 (by first | rfl | exact kd_b0 _ | exact kd_b1 _ | exact kd_b2 _ | exact kd_b3 _ | exact kd_b4 _ | exact kd_b5 _ | exact kd_b6 _) (by omega) ?_
      refine Wp.lstore (ls' := [_, _, _, _, _, _, _, _, _, _]) dX1_countingHeads_27 (by decide) rfl ?_
      refine Wp.iconst dX1_countingHeads_29 ?_
      refine Wp.istore (ls' := [_, _, _, _, _, _, _, _, _, _]) dX1_countingHeads_30 (by decide) rfl ?_
      refine lp hz1 c17 8 0 _ _ _ _ (by omega) (by omega) (fun i => ?_)
      rw [hB.hdi i]
      exact ⟨fun q => ⟨q, fun j hj => by omega⟩, fun q => q.1⟩
    · refine Wp.lconst0 dX1_countingHeads_20 ?_
      refine Wp.lreturn dX1_countingHeads_21 rfl ?_
      first | (exfalso; omega) | (first | exact hq _ (fun i => by constructor; (intro q; simp at q); (intro q; exact absurd q.1.1 (fun q2 => bkA_n c9 ⟨by omega, q2⟩))) | exact hq _ (fun i => by constructor; (intro q; simp at q); (intro q; exact absurd q.1.2 c17)))
theorem us_t {b : Int} (h : ufP I b k) : ((usN I b k ||| 2 ^ k : Nat) : Int) = (usN I b (k + 1) : Nat) := by simp only [usN]; rw [if_pos h]
theorem us_f {b : Int} (h : ¬ ufP I b k) : ((usN I b k : Nat) : Int) = (usN I b (k + 1) : Nat) := by simp only [usN]; rw [if_neg h]
theorem ct_X1_usefulBooks {b : Int} (hS : ShR I L R n) (hb : inR b) (hq : Q (some (vi (usN I b 8 : Nat))) (I, L, R, n)) : Wp mX1_usefulBooks 0 [some (vr (some 29)), some (vr (some 4)), some (vi b), none, none, none] [] (I, L, R, n) (0, 0) Q := by
  have hn := hS.1
  have hW := hS.2.2.1
  have hN1 := hW.2.1
  have lp : ∀ (tt k : Nat) (z : Int) (x : Int) (x5 : Option AV), k + tt = 8 → z = k → x = (usN I b k : Nat) → Wp mX1_usefulBooks 5 [some (vr (some 29)), some (vr (some 4)), some (vi b), some (vi x), some (vi z), x5] [] (I, L, R, n) (0, 0) Q := by
    intro tt
    induction tt with
    | zero =>
      intro k z x x5 hkt hz e0
      obtain rfl : k = 8 := by omega
      refine Wp.iload rfl dX1_usefulBooks_5 ?_
      refine Wp.bipush rfl dX1_usefulBooks_7 ?_
      refine Wp.icmp_ge (tgt := 47) dX1_usefulBooks_9 (by decide) (by first | omega | exact bI_R _ | exact cmp_R _ _ | assumption) (by first | omega | exact bI_R _ | exact cmp_R _ _ | assumption) (fun c9 => ?_) (fun c9 => ?_)
      · refine Wp.iload_n rfl dX1_usefulBooks_47 ?_
        refine Wp.ireturn dX1_usefulBooks_48 rfl ?_
        first | (exfalso; omega) | (exact qI hq e0)
      · exfalso; omega
    | succ tt ih =>
      intro k z x x5 hkt hz e0
      subst hz
      subst e0
      have hlt : usN I b k < 256 := Nat.lt_of_lt_of_le (usN_lt b k) (pow_le8 (by omega))
      refine Wp.iload rfl dX1_usefulBooks_5 ?_
      refine Wp.bipush rfl dX1_usefulBooks_7 ?_
      refine Wp.icmp_ge (tgt := 47) dX1_usefulBooks_9 (by decide) (by first | omega | exact bI_R _ | exact cmp_R _ _ | assumption) (by first | omega | exact bI_R _ | exact cmp_R _ _ | assumption) (fun c9 => ?_) (fun c9 => ?_)
      · exfalso; omega
      · refine Wp.aload_n rfl dX1_usefulBooks_12 ?_
        refine Wp.iload rfl dX1_usefulBooks_13 ?_
        refine Wp.callV (As := [_]) (ls0 := [_, _, _]) (bd := (0, 0)) (bd' := (0, 0)) dX1_usefulBooks_15 kmX8_currentAt lkX1_32 (by decide) (by decide) (Nat.le_of_ble_eq_true rfl) (by first | rfl | exact kd_b0 _ | exact kd_b1 _ | exact kd_b2 _ | exact kd_b3 _ | exact kd_b4 _ | exact kd_b5 _ | exact kd_b6 _) (by omega) rfl rfl (Nat.le_of_ble_eq_true rfl) rfl ?_
        refine ct_X8_currentAt hS (by omega) ?_
        show Wp _ _ _ (_ :: _) _ _ _
        refine Wp.astore (ls' := [_, _, _, _, _, _]) dX1_usefulBooks_18 (by decide) rfl ?_
        refine Wp.aload rfl dX1_usefulBooks_20 ?_
        refine Wp.ifnull (tgt := 41) dX1_usefulBooks_22 (by decide) (fun c22 => ?_) (fun o22 c22 => ?_)
        · refine Wp.iinc (ls' := [_, _, _, _, _, _]) rfl dX1_usefulBooks_41 (by decide) rfl ?_
          refine Wp.goto (tgt := 5) dX1_usefulBooks_44 (by decide) ?_
          first | exact ih (k + 1) _ _ _ (by omega) (by omega) (us_t ⟨hz1, hday, by omega⟩) | exact ih (k + 1) _ _ _ (by omega) (by omega) (us_f (fun q => cuA_n c22 ⟨⟨by omega, q.1⟩, q.2.1⟩)) | exact ih (k + 1) _ _ _ (by omega) (by omega) (us_f (fun q => absurd q.2.2 (by omega))) | (exfalso; omega)
        · obtain ⟨ho, hz0, hz1, hday⟩ := cuA_s c22
          have ho' : o22 = 57 + 7 * k := ho
          subst ho'
          rw [c22]
          have hB := hS.2.2.2.2.2.2 k hz1
          have hn7 := hB.2.2.1
          have b0 := hB.2.2.2.1
          have hkb := hW.b (z := k) (by omega) hz1
          refine Wp.aload rfl dX1_usefulBooks_25 ?_
          refine Wp.gi (kz := 0) rfl dX1_usefulBooks_27 fkX1_38 (by first | rfl | exact kd_b0 _ | exact kd_b1 _ | exact kd_b2 _ | exact kd_b3 _ | exact kd_b4 _ | exact kd_b5 _ | exact kd_b6 _) (by omega) ?_
          refine Wp.iload_n rfl dX1_usefulBooks_30 ?_
          refine Wp.icmp_eq (tgt := 41) dX1_usefulBooks_31 (by decide) (by first | omega | exact bI_R _ | exact cmp_R _ _ | assumption) (by first | omega | exact bI_R _ | exact cmp_R _ _ | assumption) (fun c31 => ?_) (fun c31 => ?_)
          · refine Wp.iinc (ls' := [_, _, _, _, _, _]) rfl dX1_usefulBooks_41 (by decide) rfl ?_
            refine Wp.goto (tgt := 5) dX1_usefulBooks_44 (by decide) ?_
            first | exact ih (k + 1) _ _ _ (by omega) (by omega) (us_t ⟨hz1, hday, by omega⟩) | exact ih (k + 1) _ _ _ (by omega) (by omega) (us_f (fun q => cuA_n c22 ⟨⟨by omega, q.1⟩, q.2.1⟩)) | exact ih (k + 1) _ _ _ (by omega) (by omega) (us_f (fun q => absurd q.2.2 (by omega))) | (exfalso; omega)
          · refine Wp.iload_n rfl dX1_usefulBooks_34 ?_
            refine Wp.iconst dX1_usefulBooks_35 ?_
            refine Wp.iload rfl dX1_usefulBooks_36 ?_
            refine Wp.ishl dX1_usefulBooks_38 ?_
            refine Wp.ior dX1_usefulBooks_39 ?_
            rw [or_s hlt (by omega)]
            refine Wp.istore_n (ls' := [_, _, _, _, _, _]) dX1_usefulBooks_40 (by decide) rfl ?_
            refine Wp.iinc (ls' := [_, _, _, _, _, _]) rfl dX1_usefulBooks_41 (by decide) rfl ?_
            refine Wp.goto (tgt := 5) dX1_usefulBooks_44 (by decide) ?_
            first | exact ih (k + 1) _ _ _ (by omega) (by omega) (us_t ⟨hz1, hday, by omega⟩) | exact ih (k + 1) _ _ _ (by omega) (by omega) (us_f (fun q => cuA_n c22 ⟨⟨by omega, q.1⟩, q.2.1⟩)) | exact ih (k + 1) _ _ _ (by omega) (by omega) (us_f (fun q => absurd q.2.2 (by omega))) | (exfalso; omega)
  refine Wp.iconst dX1_usefulBooks_0 ?_
  refine Wp.istore_n (ls' := [_, _, _, _, _, _]) dX1_usefulBooks_1 (by decide) rfl ?_
  refine Wp.iconst dX1_usefulBooks_2 ?_
  refine Wp.istore (ls' := [_, _, _, _, _, _]) dX1_usefulBooks_3 (by decide) rfl ?_
  exact lp 8 0 _ _ _ (by omega) (by omega) rfl
/-- where a pass of widening stands -/
def wdS (I : Nat → Int → Int) (s : Nat) (b : Int) (C S0 S : Int → BitVec 64) (mo : Int) (k : Nat) : Prop := Ivl I s b S ∧ ((mo = 0 ∧ (∀ q, tgP q → S q = S0 q) ∧ ∀ j : Nat, j < k → clK I (C j) j S) ∨ (mo = 1 ∧ cntF S0 < cntF S))
theorem wd_s {s : Nat} {b mo : Int} {C S0 S : Int → BitVec 64} (h : wdS I s b C S0 S mo k) (hc : clK I (C k) k S) : wdS I s b C S0 S mo (k + 1) := by
  refine ⟨h.1, h.2.imp (fun h2 => ⟨h2.1, h2.2.1, fun j hj => ?_⟩) id⟩
  by_cases hjk : j = k
  · subst hjk; exact hc
  · exact h2.2.2 j (by omega)
theorem wd_1 {s : Nat} {b mo : Int} {C S0 S S' : Int → BitVec 64} (h : wdS I s b C S0 S mo k) (hI : Ivl I s b S') (hlt : cntF S < cntF S') : wdS I s b C S0 S' 1 (k + 1) := by
  refine ⟨hI, Or.inr ⟨rfl, ?_⟩⟩
  rcases h.2 with h2 | h2
  · have := cntF_cg (S := S) (T := S0) h2.2.1; omega
  · have := h2.2; omega
theorem cl_0 {x : BitVec 64} {S : Int → BitVec 64} (h : x = 0#64) : clK I x k S := fun w _ hb => by rw [h] at hb; simp at hb
theorem cl_T {x : BitVec 64} {S : Int → BitVec 64} (h : S (I 34 k) = 0#64) : clK I x k S := fun w _ _ hne => by rw [h] at hne; simp at hne
theorem cl_X {x X : BitVec 64} {S : Int → BitVec 64} (hX : liP I k (x &&& (S (I 33 k) ^^^ 18446744073709551615#64)) (S (I 34 k)) 60 X) (he : S (I 33 k) ||| X = S (I 33 k)) : clK I x k S := by
  intro w hw hb hne
  cases hc : (S (I 33 k)).getLsbD w with
  | true => rfl
  | false =>
    have : X.getLsbD w = true := (hX w).mpr ⟨hw, and_bit.mpr ⟨hb, (not_bit (by omega)).mpr (by rw [hc]; decide)⟩, hne⟩
    rw [← he, or_bit.mpr (Or.inr this)] at hc
    cases hc
theorem up_orF {K : Nat → Int → BitVec 64} {p : Int} {X : BitVec 64} : up K 31 p (K 31 p ||| X) 31 = orF (K 31) p X := by
  funext q
  unfold up orF
  by_cases h : q = p
  · rw [if_pos ⟨rfl, h⟩, if_pos h]
  · rw [if_neg (fun q2 => h q2.2), if_neg h]
theorem orF_e {S : Int → BitVec 64} {p : Int} {X : BitVec 64} (h : S p ||| X = S p) : orF S p X = S := by
  funext q
  unfold orF
  by_cases hqp : q = p
  · rw [if_pos hqp, hqp]; exact h
  · rw [if_neg hqp]
theorem ct_X1_widen {s : Nat} {b : Int} (hS : ShR I L R n) (hs : s < 256) (hg : gdB I s = true) (hb : tgP b) (hC : ∀ k : Nat, k < 8 → chP I s k (L 30 k)) (hI : Ivl I s b (L 31)) (hq : ∀ (K : Nat → Int → BitVec 64) (r : Int), EqvL L K → (∀ z, K 30 z = L 30 z) → Ivl I s b (K 31) → ((r = 0 ∧ Clo I s b (K 31)) ∨ (r = 1 ∧ cntF (L 31) < cntF (K 31))) → Q (some (vi r)) (I, K, R, n)) : Wp mX1_widen 0 [some (vr (some 29)), some (vr (some 4)), none, none, none, none, none, none, none] [] (I, L, R, n) (0, 0) Q := by
  have hn := hS.1
  have hFx := hS.2.1
  have hW := hS.2.2.1
  have hN1 := hW.2.1
  have s4 := hS.2.2.2.2.2.1
  have lp : ∀ (tt k : Nat) (z : Int) (K : Nat → Int → BitVec 64) (mo : Int) (x4 : Option AV) (x5 : Option AV) (x7 : Option AV), k + tt = 8 → z = k → EqvL L K → (∀ z, K 30 z = L 30 z) → wdS I s b (L 30) (L 31) (K 31) mo k → Wp mX1_widen 4 [some (vr (some 29)), some (vr (some 4)), some (vi mo), some (vi z), x4, x5, none, x7, none] [] (I, K, R, n) (0, 0) Q := by
    intro tt
    induction tt with
    | zero =>
      intro k z K mo x4 x5 x7 hkt hz e0 e1 e2
      obtain rfl : k = 8 := by omega
      have hm01 : mo = 0 ∨ mo = 1 := e2.2.imp (fun h => h.1) (fun h => h.1)
      refine Wp.iload_n rfl dX1_widen_4 ?_
      refine Wp.bipush rfl dX1_widen_5 ?_
      refine Wp.icmp_ge (tgt := 156) dX1_widen_7 (by decide) (by first | omega | exact bI_R _ | exact cmp_R _ _ | assumption) (by first | omega | exact bI_R _ | exact cmp_R _ _ | assumption) (fun c7 => ?_) (fun c7 => ?_)
      · refine Wp.iload_n rfl dX1_widen_156 ?_
        refine Wp.zreturn dX1_widen_157 rfl (by first | omega | exact bI_01 _) ?_
        first | (exfalso; omega) | (exact hq K mo e0 e1 e2.1 (e2.2.imp (fun h => ⟨h.1, clo_of hW hs hg hC e2.1.1 (fun k hk => h.2.2 k hk)⟩) id))
      · exfalso; omega
    | succ tt ih =>
      intro k z K mo x4 x5 x7 hkt hz e0 e1 e2
      subst hz
      have hm01 : mo = 0 ∨ mo = 1 := e2.2.imp (fun h => h.1) (fun h => h.1)
      have hor := or_01 hm01
      have hSK := ShR_cg (Eqv.rf I) e0 hS
      have hCk := hC k (by omega)
      have h30 : ¬ (0 ≤ (k : Int) ∧ (k : Int) < I 32 0) → clK I (L 30 k) k (K 31) := fun hz w hw hb => absurd ((hCk w).mp hb).1.1 (fun q => hz ⟨by omega, q⟩)
      refine Wp.iload_n rfl dX1_widen_4 ?_
      refine Wp.bipush rfl dX1_widen_5 ?_
      refine Wp.icmp_ge (tgt := 156) dX1_widen_7 (by decide) (by first | omega | exact bI_R _ | exact cmp_R _ _ | assumption) (by first | omega | exact bI_R _ | exact cmp_R _ _ | assumption) (fun c7 => ?_) (fun c7 => ?_)
      · exfalso; omega
      · refine Wp.aload_n rfl dX1_widen_10 ?_
        refine Wp.iload_n rfl dX1_widen_11 ?_
        refine Wp.callV (As := [_]) (ls0 := [_, _]) (bd := (0, 0)) (bd' := (0, 0)) dX1_widen_12 kmX8_bookAt lkX1_60 (by decide) (by decide) (Nat.le_of_ble_eq_true rfl) (by first | rfl | exact kd_b0 _ | exact kd_b1 _ | exact kd_b2 _ | exact kd_b3 _ | exact kd_b4 _ | exact kd_b5 _ | exact kd_b6 _) (by omega) rfl rfl (Nat.le_of_ble_eq_true rfl) rfl ?_
        refine ct_X8_bookAt hSK (by omega) ?_
        show Wp _ _ _ (_ :: _) _ _ _
        refine Wp.astore (ls' := [_, _, _, _, _, _, _, _, _]) dX1_widen_15 (by decide) rfl ?_
        refine Wp.aload rfl dX1_widen_17 ?_
        refine Wp.ifnull (tgt := 150) dX1_widen_19 (by decide) (fun c19 => ?_) (fun o19 c19 => ?_)
        · refine Wp.iinc (ls' := [_, _, _, _, _, _, _, _, _]) rfl dX1_widen_150 (by decide) rfl ?_
          refine Wp.goto (tgt := 4) dX1_widen_153 (by decide) ?_
          refine ih (k + 1) _ _ _ _ _ _ (by omega) (by omega) ?_ ?_ ?_
          · first | exact e0 | exact e0.wr (by omega)
          · first | exact e1 | exact (fun z => (by simp (disch := omega) only [up_same, up_o, up_k]; exact e1 z))
          · first
            | (exfalso; omega)
            | exact wd_s e2 (cl_0 ((e1 _).symm.trans c30))
            | exact wd_s e2 (h30 (bkA_n c19))
            | (rw [b1] at c86; exact wd_s e2 (cl_T c86))
            | (exfalso; exact c140 rfl)
            | (rw [b0] at c140 ⊢; rw [up_orF]; exact wd_1 e2 hIv (hcf c140))
            | (rw [b0] at c140 ⊢; rw [up_orF, orF_e c140]; exact wd_s e2 (cl_X hX c140))
        · obtain ⟨ho, hz0, hz1⟩ := bkA_s c19
          have ho' : o19 = 57 + 7 * k := ho
          subst ho'
          rw [c19]
          have hB := hS.2.2.2.2.2.2 k hz1
          have hn7 := hB.2.2.1
          have b0 := hB.2.2.2.1
          have b1 := hB.2.2.2.2.1
          have hkb := hW.b (z := k) (by omega) hz1
          refine Wp.aload_n rfl dX1_widen_22 ?_
          refine Wp.gr (kz := 0) rfl dX1_widen_23 fkX1_9 (by first | rfl | exact kd_b0 _ | exact kd_b1 _ | exact kd_b2 _ | exact kd_b3 _ | exact kd_b4 _ | exact kd_b5 _ | exact kd_b6 _) (by omega) (by first | exact hFx _ 0 _ rfl | assumption | exact hBk.1 | exact hBk.2.1 | exact hBk.2.2.1 | exact hBk.2.2.2.1 | exact hBk.2.2.2.2.1 | exact hBk.2.2.2.2.2) ?_
          refine Wp.iload_n rfl dX1_widen_26 ?_
          refine Wp.laload dX1_widen_27 (by first | rfl | exact kd_b0 _ | exact kd_b1 _ | exact kd_b2 _ | exact kd_b3 _ | exact kd_b4 _ | exact kd_b5 _ | exact kd_b6 _) (by omega) (by omega) (by omega) ?_
          refine Wp.lconst0 dX1_widen_28 ?_
          refine Wp.lcmp dX1_widen_29 ?_
          refine Wp.if_eqC (tgt := 150) dX1_widen_30 (by decide) (fun c30 => ?_) (fun c30 => ?_)
          · refine Wp.iinc (ls' := [_, _, _, _, _, _, _, _, _]) rfl dX1_widen_150 (by decide) rfl ?_
            refine Wp.goto (tgt := 4) dX1_widen_153 (by decide) ?_
            refine ih (k + 1) _ _ _ _ _ _ (by omega) (by omega) ?_ ?_ ?_
            · first | exact e0 | exact e0.wr (by omega)
            · first | exact e1 | exact (fun z => (by simp (disch := omega) only [up_same, up_o, up_k]; exact e1 z))
            · first
              | (exfalso; omega)
              | exact wd_s e2 (cl_0 ((e1 _).symm.trans c30))
              | exact wd_s e2 (h30 (bkA_n c19))
              | (rw [b1] at c86; exact wd_s e2 (cl_T c86))
              | (exfalso; exact c140 rfl)
              | (rw [b0] at c140 ⊢; rw [up_orF]; exact wd_1 e2 hIv (hcf c140))
              | (rw [b0] at c140 ⊢; rw [up_orF, orF_e c140]; exact wd_s e2 (cl_X hX c140))
          · refine Wp.aload rfl dX1_widen_33 ?_
            refine Wp.gi (kz := 0) rfl dX1_widen_35 fkX1_38 (by first | rfl | exact kd_b0 _ | exact kd_b1 _ | exact kd_b2 _ | exact kd_b3 _ | exact kd_b4 _ | exact kd_b5 _ | exact kd_b6 _) (by omega) ?_
            refine Wp.callS (As := [_]) (ls0 := [_]) (bd := (0, 0)) (bd' := (0, 0)) dX1_widen_38 kmX11_isTongue lkX1_44 (by decide) (by decide) (Nat.le_of_ble_eq_true rfl) rfl rfl (Nat.le_of_ble_eq_true rfl) rfl ?_
            refine ct_X11_isTongue (by omega) ?_
            show Wp _ _ _ (_ :: _) _ _ _
            refine Wp.if_eqB (tgt := 150) dX1_widen_41 (by decide) (fun c41 => ?_) (fun c41 => ?_)
            · refine Wp.iinc (ls' := [_, _, _, _, _, _, _, _, _]) rfl dX1_widen_150 (by decide) rfl ?_
              refine Wp.goto (tgt := 4) dX1_widen_153 (by decide) ?_
              refine ih (k + 1) _ _ _ _ _ _ (by omega) (by omega) ?_ ?_ ?_
              · first | exact e0 | exact e0.wr (by omega)
              · first | exact e1 | exact (fun z => (by simp (disch := omega) only [up_same, up_o, up_k]; exact e1 z))
              · first
                | (exfalso; omega)
                | exact wd_s e2 (cl_0 ((e1 _).symm.trans c30))
                | exact wd_s e2 (h30 (bkA_n c19))
                | (rw [b1] at c86; exact wd_s e2 (cl_T c86))
                | (exfalso; exact c140 rfl)
                | (rw [b0] at c140 ⊢; rw [up_orF]; exact wd_1 e2 hIv (hcf c140))
                | (rw [b0] at c140 ⊢; rw [up_orF, orF_e c140]; exact wd_s e2 (cl_X hX c140))
            · refine Wp.aload rfl dX1_widen_44 ?_
              refine Wp.gi (kz := 1) rfl dX1_widen_46 fkX1_71 (by first | rfl | exact kd_b0 _ | exact kd_b1 _ | exact kd_b2 _ | exact kd_b3 _ | exact kd_b4 _ | exact kd_b5 _ | exact kd_b6 _) (by omega) ?_
              refine Wp.callS (As := [_]) (ls0 := [_]) (bd := (0, 0)) (bd' := (0, 0)) dX1_widen_49 kmX11_isTongue lkX1_44 (by decide) (by decide) (Nat.le_of_ble_eq_true rfl) rfl rfl (Nat.le_of_ble_eq_true rfl) rfl ?_
              refine ct_X11_isTongue (by omega) ?_
              show Wp _ _ _ (_ :: _) _ _ _
              refine Wp.if_neB (tgt := 58) dX1_widen_52 (by decide) (fun c52 => ?_) (fun c52 => ?_)
              · refine Wp.aload_n rfl dX1_widen_58 ?_
                refine Wp.gr (kz := 1) rfl dX1_widen_59 fkX1_15 (by first | rfl | exact kd_b0 _ | exact kd_b1 _ | exact kd_b2 _ | exact kd_b3 _ | exact kd_b4 _ | exact kd_b5 _ | exact kd_b6 _) (by omega) (by first | exact hFx _ 1 _ rfl | assumption | exact hBk.1 | exact hBk.2.1 | exact hBk.2.2.1 | exact hBk.2.2.2.1 | exact hBk.2.2.2.2.1 | exact hBk.2.2.2.2.2) ?_
                refine Wp.aload rfl dX1_widen_62 ?_
                refine Wp.gi (kz := 0) rfl dX1_widen_64 fkX1_38 (by first | rfl | exact kd_b0 _ | exact kd_b1 _ | exact kd_b2 _ | exact kd_b3 _ | exact kd_b4 _ | exact kd_b5 _ | exact kd_b6 _) (by omega) ?_
                refine Wp.laload dX1_widen_67 (by first | rfl | exact kd_b0 _ | exact kd_b1 _ | exact kd_b2 _ | exact kd_b3 _ | exact kd_b4 _ | exact kd_b5 _ | exact kd_b6 _) (by omega) (by omega) (by omega) ?_
                refine Wp.lstore (ls' := [_, _, _, _, _, _, _, _, _]) dX1_widen_68 (by decide) rfl ?_
                refine Wp.aload_n rfl dX1_widen_70 ?_
                refine Wp.gr (kz := 1) rfl dX1_widen_71 fkX1_15 (by first | rfl | exact kd_b0 _ | exact kd_b1 _ | exact kd_b2 _ | exact kd_b3 _ | exact kd_b4 _ | exact kd_b5 _ | exact kd_b6 _) (by omega) (by first | exact hFx _ 1 _ rfl | assumption | exact hBk.1 | exact hBk.2.1 | exact hBk.2.2.1 | exact hBk.2.2.2.1 | exact hBk.2.2.2.2.1 | exact hBk.2.2.2.2.2) ?_
                refine Wp.aload rfl dX1_widen_74 ?_
                refine Wp.gi (kz := 1) rfl dX1_widen_76 fkX1_71 (by first | rfl | exact kd_b0 _ | exact kd_b1 _ | exact kd_b2 _ | exact kd_b3 _ | exact kd_b4 _ | exact kd_b5 _ | exact kd_b6 _) (by omega) ?_
                refine Wp.laload dX1_widen_79 (by first | rfl | exact kd_b0 _ | exact kd_b1 _ | exact kd_b2 _ | exact kd_b3 _ | exact kd_b4 _ | exact kd_b5 _ | exact kd_b6 _) (by omega) (by omega) (by omega) ?_
                refine Wp.lstore (ls' := [_, _, _, _, _, _, _, _, _]) dX1_widen_80 (by decide) rfl ?_
                refine Wp.lload rfl dX1_widen_82 ?_
                refine Wp.lconst0 dX1_widen_84 ?_
                refine Wp.lcmp dX1_widen_85 ?_
                refine Wp.if_eqC (tgt := 126) dX1_widen_86 (by decide) (fun c86 => ?_) (fun c86 => ?_)
                · refine Wp.iload_n rfl dX1_widen_126 ?_
                  refine Wp.aload_n rfl dX1_widen_127 ?_
                  refine Wp.gr (kz := 1) rfl dX1_widen_128 fkX1_15 (by first | rfl | exact kd_b0 _ | exact kd_b1 _ | exact kd_b2 _ | exact kd_b3 _ | exact kd_b4 _ | exact kd_b5 _ | exact kd_b6 _) (by omega) (by first | exact hFx _ 1 _ rfl | assumption | exact hBk.1 | exact hBk.2.1 | exact hBk.2.2.1 | exact hBk.2.2.2.1 | exact hBk.2.2.2.2.1 | exact hBk.2.2.2.2.2) ?_
                  refine Wp.aload rfl dX1_widen_131 ?_
                  refine Wp.gi (kz := 0) rfl dX1_widen_133 fkX1_38 (by first | rfl | exact kd_b0 _ | exact kd_b1 _ | exact kd_b2 _ | exact kd_b3 _ | exact kd_b4 _ | exact kd_b5 _ | exact kd_b6 _) (by omega) ?_
                  refine Wp.laload dX1_widen_136 (by first | rfl | exact kd_b0 _ | exact kd_b1 _ | exact kd_b2 _ | exact kd_b3 _ | exact kd_b4 _ | exact kd_b5 _ | exact kd_b6 _) (by omega) (by omega) (by omega) ?_
                  refine Wp.lload rfl dX1_widen_137 ?_
                  refine Wp.lcmp dX1_widen_139 ?_
                  refine Wp.if_eqC (tgt := 147) dX1_widen_140 (by decide) (fun c140 => ?_) (fun c140 => ?_)
                  · refine Wp.iconst dX1_widen_147 ?_
                    refine Wp.ior dX1_widen_148 ?_
                    try rw [hor.1]
                    try rw [hor.2]
                    refine Wp.istore_n (ls' := [_, _, _, _, _, _, _, _, _]) dX1_widen_149 (by decide) rfl ?_
                    refine Wp.iinc (ls' := [_, _, _, _, _, _, _, _, _]) rfl dX1_widen_150 (by decide) rfl ?_
                    refine Wp.goto (tgt := 4) dX1_widen_153 (by decide) ?_
                    refine ih (k + 1) _ _ _ _ _ _ (by omega) (by omega) ?_ ?_ ?_
                    · first | exact e0 | exact e0.wr (by omega)
                    · first | exact e1 | exact (fun z => (by simp (disch := omega) only [up_same, up_o, up_k]; exact e1 z))
                    · first
                      | (exfalso; omega)
                      | exact wd_s e2 (cl_0 ((e1 _).symm.trans c30))
                      | exact wd_s e2 (h30 (bkA_n c19))
                      | (rw [b1] at c86; exact wd_s e2 (cl_T c86))
                      | (exfalso; exact c140 rfl)
                      | (rw [b0] at c140 ⊢; rw [up_orF]; exact wd_1 e2 hIv (hcf c140))
                      | (rw [b0] at c140 ⊢; rw [up_orF, orF_e c140]; exact wd_s e2 (cl_X hX c140))
                  · refine Wp.iconst dX1_widen_143 ?_
                    refine Wp.goto (tgt := 148) dX1_widen_144 (by decide) ?_
                    refine Wp.ior dX1_widen_148 ?_
                    try rw [hor.1]
                    try rw [hor.2]
                    refine Wp.istore_n (ls' := [_, _, _, _, _, _, _, _, _]) dX1_widen_149 (by decide) rfl ?_
                    refine Wp.iinc (ls' := [_, _, _, _, _, _, _, _, _]) rfl dX1_widen_150 (by decide) rfl ?_
                    refine Wp.goto (tgt := 4) dX1_widen_153 (by decide) ?_
                    refine ih (k + 1) _ _ _ _ _ _ (by omega) (by omega) ?_ ?_ ?_
                    · first | exact e0 | exact e0.wr (by omega)
                    · first | exact e1 | exact (fun z => (by simp (disch := omega) only [up_same, up_o, up_k]; exact e1 z))
                    · first
                      | (exfalso; omega)
                      | exact wd_s e2 (cl_0 ((e1 _).symm.trans c30))
                      | exact wd_s e2 (h30 (bkA_n c19))
                      | (rw [b1] at c86; exact wd_s e2 (cl_T c86))
                      | (exfalso; exact c140 rfl)
                      | (rw [b0] at c140 ⊢; rw [up_orF]; exact wd_1 e2 hIv (hcf c140))
                      | (rw [b0] at c140 ⊢; rw [up_orF, orF_e c140]; exact wd_s e2 (cl_X hX c140))
                · refine Wp.aload_n rfl dX1_widen_89 ?_
                  refine Wp.gr (kz := 1) rfl dX1_widen_90 fkX1_15 (by first | rfl | exact kd_b0 _ | exact kd_b1 _ | exact kd_b2 _ | exact kd_b3 _ | exact kd_b4 _ | exact kd_b5 _ | exact kd_b6 _) (by omega) (by first | exact hFx _ 1 _ rfl | assumption | exact hBk.1 | exact hBk.2.1 | exact hBk.2.2.1 | exact hBk.2.2.2.1 | exact hBk.2.2.2.2.1 | exact hBk.2.2.2.2.2) ?_
                  refine Wp.aload rfl dX1_widen_93 ?_
                  refine Wp.gi (kz := 0) rfl dX1_widen_95 fkX1_38 (by first | rfl | exact kd_b0 _ | exact kd_b1 _ | exact kd_b2 _ | exact kd_b3 _ | exact kd_b4 _ | exact kd_b5 _ | exact kd_b6 _) (by omega) ?_
                  first | refine Wp.dup2IR dX1_widen_98 ?_ | refine Wp.dup2II dX1_widen_98 ?_
                  refine Wp.laload dX1_widen_99 (by first | rfl | exact kd_b0 _ | exact kd_b1 _ | exact kd_b2 _ | exact kd_b3 _ | exact kd_b4 _ | exact kd_b5 _ | exact kd_b6 _) (by omega) (by omega) (by omega) ?_
                  refine Wp.aload rfl dX1_widen_100 ?_
                  refine Wp.aload_n rfl dX1_widen_102 ?_
                  refine Wp.gr (kz := 0) rfl dX1_widen_103 fkX1_9 (by first | rfl | exact kd_b0 _ | exact kd_b1 _ | exact kd_b2 _ | exact kd_b3 _ | exact kd_b4 _ | exact kd_b5 _ | exact kd_b6 _) (by omega) (by first | exact hFx _ 0 _ rfl | assumption | exact hBk.1 | exact hBk.2.1 | exact hBk.2.2.1 | exact hBk.2.2.2.1 | exact hBk.2.2.2.2.1 | exact hBk.2.2.2.2.2) ?_
                  refine Wp.iload_n rfl dX1_widen_106 ?_
                  refine Wp.laload dX1_widen_107 (by first | rfl | exact kd_b0 _ | exact kd_b1 _ | exact kd_b2 _ | exact kd_b3 _ | exact kd_b4 _ | exact kd_b5 _ | exact kd_b6 _) (by omega) (by omega) (by omega) ?_
                  refine Wp.lload rfl dX1_widen_108 ?_
                  refine Wp.ldc2_w (b := 18446744073709551615#64) ckX1_58 rfl dX1_widen_110 ?_
                  refine Wp.lxor dX1_widen_113 ?_
                  refine Wp.land dX1_widen_114 ?_
                  refine Wp.lload rfl dX1_widen_115 ?_
                  refine Wp.aload_n rfl dX1_widen_117 ?_
                  refine Wp.gi (kz := 4) rfl dX1_widen_118 fkX1_74 (by first | rfl | exact kd_b0 _ | exact kd_b1 _ | exact kd_b2 _ | exact kd_b3 _ | exact kd_b4 _ | exact kd_b5 _ | exact kd_b6 _) (by omega) ?_
                  refine Wp.callS (As := [_, _, _, _]) (ls0 := [_, _, _, _, _, _, _, _, _]) (bd := (0, 0)) (bd' := (0, 0)) dX1_widen_121 kmX1_leadingInto lkX1_78 (by decide) (by decide) (Nat.le_of_ble_eq_true rfl) rfl rfl (Nat.le_of_ble_eq_true rfl) rfl ?_
                  refine ct_X1_leadingInto hSK hz1 (by first | exact s4 | omega) (fun X hX => ?_)
                  rw [b0, b1, e1] at hX
                  have hX2 : ∀ w : Nat, X.getLsbD w = true → w < 60 ∧ ∃ q, tgP q ∧ ¬ gv I s (I 33 k) w q &&& K 31 q = 0#64 := fun w hw => by
                    have h1 := (hX w).mp hw
                    refine ⟨h1.1, I 34 k, by omega, ?_⟩
                    rw [gv_ch hW hs hg hCk h1.1 (and_bit.mp h1.2.1).1]
                    exact h1.2.2
                  have hIv := Ivl_or e2.1 (p := I 33 k) (by omega) hX2
                  have hcf := fun h => cntF_or (S := K 31) (p := I 33 k) (X := X) (by omega) (or60 (fun i hi => e2.1.2.1 (I 33 k) (by omega) i hi) (fun i hi => by cases hc : X.getLsbD i with | false => rfl | true => have := (hX2 i hc).1; omega)) h
                  show Wp _ _ _ (_ :: _) _ _ _
                  refine Wp.lor dX1_widen_124 ?_
                  refine Wp.lastore dX1_widen_125 (by first | rfl | exact kd_b0 _ | exact kd_b1 _ | exact kd_b2 _ | exact kd_b3 _ | exact kd_b4 _ | exact kd_b5 _ | exact kd_b6 _) (by omega) (by omega) (by omega) ?_
                  refine Wp.iload_n rfl dX1_widen_126 ?_
                  refine Wp.aload_n rfl dX1_widen_127 ?_
                  refine Wp.gr (kz := 1) rfl dX1_widen_128 fkX1_15 (by first | rfl | exact kd_b0 _ | exact kd_b1 _ | exact kd_b2 _ | exact kd_b3 _ | exact kd_b4 _ | exact kd_b5 _ | exact kd_b6 _) (by omega) (by first | exact hFx _ 1 _ rfl | assumption | exact hBk.1 | exact hBk.2.1 | exact hBk.2.2.1 | exact hBk.2.2.2.1 | exact hBk.2.2.2.2.1 | exact hBk.2.2.2.2.2) ?_
                  try simp (disch := omega) only [up_same, up_o, up_k]
                  refine Wp.aload rfl dX1_widen_131 ?_
                  refine Wp.gi (kz := 0) rfl dX1_widen_133 fkX1_38 (by first | rfl | exact kd_b0 _ | exact kd_b1 _ | exact kd_b2 _ | exact kd_b3 _ | exact kd_b4 _ | exact kd_b5 _ | exact kd_b6 _) (by omega) ?_
                  try simp (disch := omega) only [up_same, up_o, up_k]
                  refine Wp.laload dX1_widen_136 (by first | rfl | exact kd_b0 _ | exact kd_b1 _ | exact kd_b2 _ | exact kd_b3 _ | exact kd_b4 _ | exact kd_b5 _ | exact kd_b6 _) (by omega) (by omega) (by omega) ?_
                  try simp (disch := omega) only [up_same, up_o, up_k]
                  refine Wp.lload rfl dX1_widen_137 ?_
                  refine Wp.lcmp dX1_widen_139 ?_
                  refine Wp.if_eqC (tgt := 147) dX1_widen_140 (by decide) (fun c140 => ?_) (fun c140 => ?_)
                  · refine Wp.iconst dX1_widen_147 ?_
                    refine Wp.ior dX1_widen_148 ?_
                    try rw [hor.1]
                    try rw [hor.2]
                    refine Wp.istore_n (ls' := [_, _, _, _, _, _, _, _, _]) dX1_widen_149 (by decide) rfl ?_
                    refine Wp.iinc (ls' := [_, _, _, _, _, _, _, _, _]) rfl dX1_widen_150 (by decide) rfl ?_
                    refine Wp.goto (tgt := 4) dX1_widen_153 (by decide) ?_
                    refine ih (k + 1) _ _ _ _ _ _ (by omega) (by omega) ?_ ?_ ?_
                    · first | exact e0 | exact e0.wr (by omega)
                    · first | exact e1 | exact (fun z => (by simp (disch := omega) only [up_same, up_o, up_k]; exact e1 z))
                    · first
                      | (exfalso; omega)
                      | exact wd_s e2 (cl_0 ((e1 _).symm.trans c30))
                      | exact wd_s e2 (h30 (bkA_n c19))
                      | (rw [b1] at c86; exact wd_s e2 (cl_T c86))
                      | (exfalso; exact c140 rfl)
                      | (rw [b0] at c140 ⊢; rw [up_orF]; exact wd_1 e2 hIv (hcf c140))
                      | (rw [b0] at c140 ⊢; rw [up_orF, orF_e c140]; exact wd_s e2 (cl_X hX c140))
                  · refine Wp.iconst dX1_widen_143 ?_
                    refine Wp.goto (tgt := 148) dX1_widen_144 (by decide) ?_
                    refine Wp.ior dX1_widen_148 ?_
                    try rw [hor.1]
                    try rw [hor.2]
                    refine Wp.istore_n (ls' := [_, _, _, _, _, _, _, _, _]) dX1_widen_149 (by decide) rfl ?_
                    refine Wp.iinc (ls' := [_, _, _, _, _, _, _, _, _]) rfl dX1_widen_150 (by decide) rfl ?_
                    refine Wp.goto (tgt := 4) dX1_widen_153 (by decide) ?_
                    refine ih (k + 1) _ _ _ _ _ _ (by omega) (by omega) ?_ ?_ ?_
                    · first | exact e0 | exact e0.wr (by omega)
                    · first | exact e1 | exact (fun z => (by simp (disch := omega) only [up_same, up_o, up_k]; exact e1 z))
                    · first
                      | (exfalso; omega)
                      | exact wd_s e2 (cl_0 ((e1 _).symm.trans c30))
                      | exact wd_s e2 (h30 (bkA_n c19))
                      | (rw [b1] at c86; exact wd_s e2 (cl_T c86))
                      | (exfalso; exact c140 rfl)
                      | (rw [b0] at c140 ⊢; rw [up_orF]; exact wd_1 e2 hIv (hcf c140))
                      | (rw [b0] at c140 ⊢; rw [up_orF, orF_e c140]; exact wd_s e2 (cl_X hX c140))
              · refine Wp.goto (tgt := 150) dX1_widen_55 (by decide) ?_
                refine Wp.iinc (ls' := [_, _, _, _, _, _, _, _, _]) rfl dX1_widen_150 (by decide) rfl ?_
                refine Wp.goto (tgt := 4) dX1_widen_153 (by decide) ?_
                refine ih (k + 1) _ _ _ _ _ _ (by omega) (by omega) ?_ ?_ ?_
                · first | exact e0 | exact e0.wr (by omega)
                · first | exact e1 | exact (fun z => (by simp (disch := omega) only [up_same, up_o, up_k]; exact e1 z))
                · first
                  | (exfalso; omega)
                  | exact wd_s e2 (cl_0 ((e1 _).symm.trans c30))
                  | exact wd_s e2 (h30 (bkA_n c19))
                  | (rw [b1] at c86; exact wd_s e2 (cl_T c86))
                  | (exfalso; exact c140 rfl)
                  | (rw [b0] at c140 ⊢; rw [up_orF]; exact wd_1 e2 hIv (hcf c140))
                  | (rw [b0] at c140 ⊢; rw [up_orF, orF_e c140]; exact wd_s e2 (cl_X hX c140))
  refine Wp.iconst dX1_widen_0 ?_
  refine Wp.istore_n (ls' := [_, _, _, _, _, _, _, _, _]) dX1_widen_1 (by decide) rfl ?_
  refine Wp.iconst dX1_widen_2 ?_
  refine Wp.istore_n (ls' := [_, _, _, _, _, _, _, _, _]) dX1_widen_3 (by decide) rfl ?_
  exact lp 8 0 _ L _ _ _ _ (by omega) (by omega) (EqvL.rf L) (fun z => rfl) ⟨hI, Or.inl ⟨rfl, fun q _ => rfl, fun j hj => by omega⟩⟩
end

