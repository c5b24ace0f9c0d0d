/-! ===== the class's books, and how they stand to the reference's ===== -/
/-- book number k of the class has what the draft D has -/
def CB (I : Nat → Int → Int) (L : Nat → Int → BitVec 64) (k : Nat) (D : Dr) : Prop :=
  (∀ w : Int, 0 ≤ w → w < 60 → I (57 + 7 * k + 1) w = D 36 w ∧ ((L (57 + 7 * k) 3).getLsbD w.toNat = true ↔ D 41 w = 1)) ∧
  (∀ i : Nat, 60 ≤ i → (L (57 + 7 * k) 3).getLsbD i = false) ∧
  (I (57 + 7 * k) 4 = snN D 0 60 ∧ I (57 + 7 * k) 5 = woN D 0 60 ∧ I (57 + 7 * k) 6 = aoN D 0 60) ∧
  ∀ w s : Int, 0 ≤ w → w < 60 → 0 ≤ s → s < D 36 w → (I (57 + 7 * k + 2) (w * 3 + s) = D 37 (3 * w + s) ∧ I (57 + 7 * k + 3) (w * 3 + s) = D 38 (3 * w + s) ∧ L (57 + 7 * k + 5) (w * 3 + s) = ss D 1 (3 * w + s) ∧ L (57 + 7 * k + 6) (w * 3 + s) = ss D 0 (3 * w + s)) ∧
    ∀ p : Int, 0 ≤ p → p < D 38 (3 * w + s) → I (57 + 7 * k + 4) ((w * 3 + s) * 6 + p) = D 39 (6 * (3 * w + s) + p)
/-- book number k of the reference -/
def shf (I : Nat → Int → Int) (kb : Int) : Dr := fun o k => if o = 36 then I 36 (60 * kb + k) else if o = 37 ∨ o = 38 then I o (180 * kb + k) else if o = 39 ∨ o = 40 then I o (1080 * kb + k) else if 0 < I 36 (60 * kb + k) then 1 else 0
def BR (I : Nat → Int → Int) (L : Nat → Int → BitVec 64) (R : Nat → Int → Option Nat) (n k : Nat) : Prop :=
  R 5 k = some (57 + 7 * k) ∧ Bk R k ∧ 57 + 7 * k + 7 ≤ n ∧ I (57 + 7 * k) 0 = I 33 k ∧ I (57 + 7 * k) 1 = I 34 k ∧ I (57 + 7 * k) 2 = I 35 k ∧ CB I L k (shf I k)
/-- the class's shelf is the reference's -/
def ShR (I : Nat → Int → Int) (L : Nat → Int → BitVec 64) (R : Nat → Int → Option Nat) (n : Nat) : Prop :=
  57 ≤ n ∧ Fx R ∧ RW I ∧ I 4 2 = I 32 0 ∧ I 4 3 = I 32 9 ∧ I 4 4 = I 32 10 ∧ ∀ k : Nat, (k : Int) < I 32 0 → BR I L R n k
theorem ssN_shf (I : Nat → Int → Int) (kb ag i : Int) : ∀ j : Nat, ssN (shf I kb) ag i j = ssN I ag (180 * kb + i) j
  | 0 => rfl
  | j + 1 => by
    have h40 : shf I kb 40 (6 * i + j) = I 40 (6 * (180 * kb + i) + j) := by show I 40 (1080 * kb + (6 * i + j)) = _; congr 1; omega
    have h39 : shf I kb 39 (6 * i + j) = I 39 (6 * (180 * kb + i) + j) := by show I 39 (1080 * kb + (6 * i + j)) = _; congr 1; omega
    simp only [ssN]
    rw [ssN_shf I kb ag i j, h40, h39]
theorem ss_shf (I : Nat → Int → Int) (kb ag i : Int) : ss (shf I kb) ag i = ss I ag (180 * kb + i) := by
  unfold ss; rw [ssN_shf]; rfl
theorem ssN_ag {I : Nat → Int → Int} {ag s : Int} (h : ag ≠ 0) : ∀ j : Nat, ssN I ag s j = ssN I 1 s j
  | 0 => rfl
  | j + 1 => by
    simp only [ssN]
    rw [ssN_ag h j, if_pos (Or.inl h), if_pos (Or.inl (by decide))]
theorem ss_ag {I : Nat → Int → Int} {ag s : Int} (h : ag ≠ 0) : ss I ag s = ss I 1 s := by unfold ss; rw [ssN_ag h]
theorem bit255 {k : Nat} (h : k < 8) : bitI 255 k := by
  rcases (show k = 0 ∨ k = 1 ∨ k = 2 ∨ k = 3 ∨ k = 4 ∨ k = 5 ∨ k = 6 ∨ k = 7 by omega) with rfl | rfl | rfl | rfl | rfl | rfl | rfl | rfl <;> decide
section
variable {I : Nat → Int → Int} {L : Nat → Int → BitVec 64} {R : Nat → Int → Option Nat} {n k : Nat} {m : Mm} {Q : Option AV → Mm → Prop}
theorem BR.sn (h : BR I L R n k) {w : Int} (h0 : 0 ≤ w) (h1 : w < 60) : I (57 + 7 * k + 1) w = I 36 (60 * k + w) := (h.2.2.2.2.2.2.1 w h0 h1).1
theorem BR.hd (h : BR I L R n k) {w : Int} (h0 : 0 ≤ w) (h1 : w < 60) : (L (57 + 7 * k) 3).getLsbD w.toNat = true ↔ 0 < I 36 (60 * k + w) := by
  rw [(h.2.2.2.2.2.2.1 w h0 h1).2]
  show (if 0 < I 36 (60 * k + w) then (1 : Int) else 0) = 1 ↔ _
  split <;> simp_all
theorem BR.se (h : BR I L R n k) {w s : Int} (h0 : 0 ≤ w) (h1 : w < 60) (h2 : 0 ≤ s) (h3 : s < I 36 (60 * k + w)) : I (57 + 7 * k + 2) (w * 3 + s) = I 37 (3 * (60 * k + w) + s) ∧ I (57 + 7 * k + 3) (w * 3 + s) = I 38 (3 * (60 * k + w) + s) ∧ L (57 + 7 * k + 5) (w * 3 + s) = ss I 1 (3 * (60 * k + w) + s) ∧ L (57 + 7 * k + 6) (w * 3 + s) = ss I 0 (3 * (60 * k + w) + s) := by
  have h4 := (h.2.2.2.2.2.2.2.2.2 w s h0 h1 h2 h3).1
  rw [ss_shf, ss_shf] at h4
  have e : 180 * (k : Int) + (3 * w + s) = 3 * (60 * k + w) + s := by omega
  rw [e] at h4
  have e1 : shf I k 37 (3 * w + s) = I 37 (3 * (60 * k + w) + s) := by rw [← e]; rfl
  have e2 : shf I k 38 (3 * w + s) = I 38 (3 * (60 * k + w) + s) := by rw [← e]; rfl
  rw [e1, e2] at h4
  exact h4
theorem BR.wd (h : BR I L R n k) {w s p : Int} (h0 : 0 ≤ w) (h1 : w < 60) (h2 : 0 ≤ s) (h3 : s < I 36 (60 * k + w)) (h4 : 0 ≤ p) (h5 : p < I 38 (3 * (60 * k + w) + s)) : I (57 + 7 * k + 4) ((w * 3 + s) * 6 + p) = I 39 (6 * (3 * (60 * k + w) + s) + p) := by
  have e : 180 * (k : Int) + (3 * w + s) = 3 * (60 * k + w) + s := by omega
  have e2 : shf I k 38 (3 * w + s) = I 38 (3 * (60 * k + w) + s) := by rw [← e]; rfl
  have h6 := (h.2.2.2.2.2.2.2.2.2 w s h0 h1 h2 h3).2 p h4 (by rw [e2]; exact h5)
  rw [h6]
  show I 39 (1080 * k + (6 * (3 * w + s) + p)) = _
  congr 1; omega
theorem BR.st (h : BR I L R n k) {w s ag : Int} (h0 : 0 ≤ w) (h1 : w < 60) (h2 : 0 ≤ s) (h3 : s < I 36 (60 * k + w)) : (if ag ≠ 0 then L (57 + 7 * k + 5) (w * 3 + s) else L (57 + 7 * k + 6) (w * 3 + s)) = ss I ag (3 * (60 * k + w) + s) := by
  have h4 := h.se h0 h1 h2 h3
  split
  · rename_i ha; rw [h4.2.2.1, ss_ag ha]
  · rename_i ha; rw [h4.2.2.2, show ag = 0 by simpa using ha]
theorem ct_X0_entrySet {kb : Nat} {w ag : Int} (hB : BR I L R n kb) (hW : RW I) (hk : (kb : Int) < I 32 0) (h0 : 0 ≤ w) (h1 : w < 60) (ha : inR ag) (hq : Q (some (vl (geN I ag (60 * kb + w) (I 36 (60 * kb + w)).toNat))) (I, L, R, n)) : Wp mX0_entrySet 0 [some (vr (some (57 + 7 * kb))), some (vi w), some (vi ag), none, none, none, none] [] (I, L, R, n) (0, 0) Q := by
  have hBk := hB.2.1
  have hn7 := hB.2.2.1
  have hsn := hB.sn h0 h1
  have he := hW.e (z := kb) (by omega) hk h0 h1
  have lp : ∀ (tt k : Nat) (z : Int) (x : BitVec 64) (x6 : Option AV), k + tt = (I 36 (60 * kb + w)).toNat → z = k → x = geN I ag (60 * kb + w) k → Wp mX0_entrySet 14 [some (vr (some (57 + 7 * kb))), some (vi w), some (vi ag), some (vl x), none, some (vi z), x6] [] (I, L, R, n) (0, 0) Q := by
    intro tt
    induction tt with
    | zero =>
      intro k z x x6 hkt hz e0
      obtain rfl : k = (I 36 (60 * kb + w)).toNat := by omega
      refine Wp.iload rfl dX0_entrySet_14 ?_
      refine Wp.iconst dX0_entrySet_16 ?_
      refine Wp.icmp_ge (tgt := 69) dX0_entrySet_17 (by decide) (by first | omega | exact bI_R _ | exact cmp_R _ _ | assumption) (by first | omega | exact bI_R _ | exact cmp_R _ _ | assumption) (fun c17 => ?_) (fun c17 => ?_)
      · refine Wp.lload_n rfl dX0_entrySet_69 ?_
        refine Wp.lreturn dX0_entrySet_70 rfl ?_
        first | (exfalso; omega) | (exact qL hq e0)
      · refine Wp.iload rfl dX0_entrySet_20 ?_
        refine Wp.aload_n rfl dX0_entrySet_22 ?_
        refine Wp.gr (kz := 7) rfl dX0_entrySet_23 fkX0_9 (by first | rfl | exact kd_b0 _ | exact kd_b1 _ | exact kd_b2 _ | exact kd_b3 _ | exact kd_b4 _ | exact kd_b5 _ | exact kd_b6 _) (by omega) (by first | exact hFx _ 7 _ rfl | assumption | exact hBk.1 | exact hBk.2.1 | exact hBk.2.2.1 | exact hBk.2.2.2.1 | exact hBk.2.2.2.2.1 | exact hBk.2.2.2.2.2) ?_
        refine Wp.iload_n rfl dX0_entrySet_26 ?_
        refine Wp.iaload dX0_entrySet_27 (by first | rfl | exact kd_b0 _ | exact kd_b1 _ | exact kd_b2 _ | exact kd_b3 _ | exact kd_b4 _ | exact kd_b5 _ | exact kd_b6 _) (by omega) (by omega) (by omega) ?_
        refine Wp.icmp_ge (tgt := 69) dX0_entrySet_28 (by decide) (by first | omega | exact bI_R _ | exact cmp_R _ _ | assumption) (by first | omega | exact bI_R _ | exact cmp_R _ _ | assumption) (fun c28 => ?_) (fun c28 => ?_)
        · refine Wp.lload_n rfl dX0_entrySet_69 ?_
          refine Wp.lreturn dX0_entrySet_70 rfl ?_
          first | (exfalso; omega) | (exact qL hq e0)
        · exfalso; omega
    | succ tt ih =>
      intro k z x x6 hkt hz e0
      subst hz
      subst e0
      have hst := hB.st (ag := ag) h0 h1 (s := k) (by omega) (by omega)
      refine Wp.iload rfl dX0_entrySet_14 ?_
      refine Wp.iconst dX0_entrySet_16 ?_
      refine Wp.icmp_ge (tgt := 69) dX0_entrySet_17 (by decide) (by first | omega | exact bI_R _ | exact cmp_R _ _ | assumption) (by first | omega | exact bI_R _ | exact cmp_R _ _ | assumption) (fun c17 => ?_) (fun c17 => ?_)
      · exfalso; omega
      · refine Wp.iload rfl dX0_entrySet_20 ?_
        refine Wp.aload_n rfl dX0_entrySet_22 ?_
        refine Wp.gr (kz := 7) rfl dX0_entrySet_23 fkX0_9 (by first | rfl | exact kd_b0 _ | exact kd_b1 _ | exact kd_b2 _ | exact kd_b3 _ | exact kd_b4 _ | exact kd_b5 _ | exact kd_b6 _) (by omega) (by first | exact hFx _ 7 _ rfl | assumption | exact hBk.1 | exact hBk.2.1 | exact hBk.2.2.1 | exact hBk.2.2.2.1 | exact hBk.2.2.2.2.1 | exact hBk.2.2.2.2.2) ?_
        refine Wp.iload_n rfl dX0_entrySet_26 ?_
        refine Wp.iaload dX0_entrySet_27 (by first | rfl | exact kd_b0 _ | exact kd_b1 _ | exact kd_b2 _ | exact kd_b3 _ | exact kd_b4 _ | exact kd_b5 _ | exact kd_b6 _) (by omega) (by omega) (by omega) ?_
        refine Wp.icmp_ge (tgt := 69) dX0_entrySet_28 (by decide) (by first | omega | exact bI_R _ | exact cmp_R _ _ | assumption) (by first | omega | exact bI_R _ | exact cmp_R _ _ | assumption) (fun c28 => ?_) (fun c28 => ?_)
        · exfalso; omega
        · refine Wp.iload_n rfl dX0_entrySet_31 ?_
          refine Wp.iconst dX0_entrySet_32 ?_
          refine Wp.imul dX0_entrySet_33 ?_
          refine Wp.iload rfl dX0_entrySet_34 ?_
          refine Wp.iadd dX0_entrySet_36 ?_
          refine Wp.istore (ls' := [_, _, _, _, _, _, _]) dX0_entrySet_37 (by decide) rfl ?_
          refine Wp.lload_n rfl dX0_entrySet_39 ?_
          refine Wp.iload_n rfl dX0_entrySet_40 ?_
          refine Wp.if_eq (tgt := 54) dX0_entrySet_41 (by decide) (by first | omega | exact bI_R _ | exact cmp_R _ _ | assumption) (fun c41 => ?_) (fun c41 => ?_)
          · refine Wp.aload_n rfl dX0_entrySet_54 ?_
            refine Wp.gr (kz := 12) rfl dX0_entrySet_55 fkX0_28 (by first | rfl | exact kd_b0 _ | exact kd_b1 _ | exact kd_b2 _ | exact kd_b3 _ | exact kd_b4 _ | exact kd_b5 _ | exact kd_b6 _) (by omega) (by first | exact hFx _ 12 _ rfl | assumption | exact hBk.1 | exact hBk.2.1 | exact hBk.2.2.1 | exact hBk.2.2.2.1 | exact hBk.2.2.2.2.1 | exact hBk.2.2.2.2.2) ?_
            refine Wp.iload rfl dX0_entrySet_58 ?_
            refine Wp.laload dX0_entrySet_60 (by first | rfl | exact kd_b0 _ | exact kd_b1 _ | exact kd_b2 _ | exact kd_b3 _ | exact kd_b4 _ | exact kd_b5 _ | exact kd_b6 _) (by omega) (by omega) (by omega) ?_
            refine Wp.lor dX0_entrySet_61 ?_
            refine Wp.lstore_n (ls' := [_, _, _, _, _, _, _]) dX0_entrySet_62 (by decide) rfl ?_
            refine Wp.iinc (ls' := [_, _, _, _, _, _, _]) rfl dX0_entrySet_63 (by decide) rfl ?_
            refine Wp.goto (tgt := 14) dX0_entrySet_66 (by decide) ?_
            first | (rw [if_pos (by omega)] at hst; exact ih (k + 1) _ _ _ (by omega) (by omega) (congrArg (fun y => geN I ag (60 * kb + w) k ||| y) hst)) | (rw [if_neg (by omega)] at hst; exact ih (k + 1) _ _ _ (by omega) (by omega) (congrArg (fun y => geN I ag (60 * kb + w) k ||| y) hst))
          · refine Wp.aload_n rfl dX0_entrySet_44 ?_
            refine Wp.gr (kz := 11) rfl dX0_entrySet_45 fkX0_24 (by first | rfl | exact kd_b0 _ | exact kd_b1 _ | exact kd_b2 _ | exact kd_b3 _ | exact kd_b4 _ | exact kd_b5 _ | exact kd_b6 _) (by omega) (by first | exact hFx _ 11 _ rfl | assumption | exact hBk.1 | exact hBk.2.1 | exact hBk.2.2.1 | exact hBk.2.2.2.1 | exact hBk.2.2.2.2.1 | exact hBk.2.2.2.2.2) ?_
            refine Wp.iload rfl dX0_entrySet_48 ?_
            refine Wp.laload dX0_entrySet_50 (by first | rfl | exact kd_b0 _ | exact kd_b1 _ | exact kd_b2 _ | exact kd_b3 _ | exact kd_b4 _ | exact kd_b5 _ | exact kd_b6 _) (by omega) (by omega) (by omega) ?_
            refine Wp.goto (tgt := 61) dX0_entrySet_51 (by decide) ?_
            refine Wp.lor dX0_entrySet_61 ?_
            refine Wp.lstore_n (ls' := [_, _, _, _, _, _, _]) dX0_entrySet_62 (by decide) rfl ?_
            refine Wp.iinc (ls' := [_, _, _, _, _, _, _]) rfl dX0_entrySet_63 (by decide) rfl ?_
            refine Wp.goto (tgt := 14) dX0_entrySet_66 (by decide) ?_
            first | (rw [if_pos (by omega)] at hst; exact ih (k + 1) _ _ _ (by omega) (by omega) (congrArg (fun y => geN I ag (60 * kb + w) k ||| y) hst)) | (rw [if_neg (by omega)] at hst; exact ih (k + 1) _ _ _ (by omega) (by omega) (congrArg (fun y => geN I ag (60 * kb + w) k ||| y) hst))
  refine Wp.iload_n rfl dX0_entrySet_0 ?_
  refine Wp.callS (As := [_]) (ls0 := [_]) (bd := (0, 0)) (bd' := (0, 0)) dX0_entrySet_1 kmX11_isWord lkX0_58 (by decide) (by decide) (Nat.le_of_ble_eq_true rfl) rfl rfl (Nat.le_of_ble_eq_true rfl) rfl ?_
  refine ct_X11_isWord (by omega) ?_
  show Wp _ _ _ (_ :: _) _ _ _
  refine Wp.if_neB (tgt := 9) dX0_entrySet_4 (by decide) (fun c4 => ?_) (fun c4 => ?_)
  · refine Wp.lconst0 dX0_entrySet_9 ?_
    refine Wp.lstore_n (ls' := [_, _, _, _, _, _, _]) dX0_entrySet_10 (by decide) rfl ?_
    refine Wp.iconst dX0_entrySet_11 ?_
    refine Wp.istore (ls' := [_, _, _, _, _, _, _]) dX0_entrySet_12 (by decide) rfl ?_
    exact lp (I 36 (60 * kb + w)).toNat 0 _ _ _ (by omega) (by omega) rfl
  · refine Wp.lconst0 dX0_entrySet_7 ?_
    refine Wp.lreturn dX0_entrySet_8 rfl ?_
    first | (exfalso; omega) | (exfalso; omega)
theorem ct_X0_supersedes {ka kc : Nat} {u v : Int} (hA : BR I L R n ka) (hC : BR I L R n kc) (hW : RW I) (hka : (ka : Int) < I 32 0) (hkc : (kc : Int) < I 32 0) (hu : inR u) (hv : inR v) (hq : Q (some (vi (bI (I 33 kc = I 33 ka ∧ I 34 kc = I 34 ka ∧ (I 35 kc < I 35 ka ∨ I 35 ka = I 35 kc ∧ v < u))))) (I, L, R, n)) : Wp mX0_supersedes 0 [some (vr (some (57 + 7 * ka))), some (vi u), some (vr (some (57 + 7 * kc))), some (vi v)] [] (I, L, R, n) (0, 0) Q := by
  obtain ⟨_, _, hna, a0, a1, a2, _⟩ := hA
  obtain ⟨_, _, hnc, c0, c1, c2, _⟩ := hC
  have hwa := hW.b (z := ka) (by omega) hka
  have hwc := hW.b (z := kc) (by omega) hkc
  refine Wp.aload_n rfl dX0_supersedes_0 ?_
  refine Wp.ifnullS dX0_supersedes_1 ?_
  refine Wp.aload_n rfl dX0_supersedes_4 ?_
  refine Wp.gi (kz := 0) rfl dX0_supersedes_5 fkX0_31 (by first | rfl | exact kd_b0 _ | exact kd_b1 _ | exact kd_b2 _ | exact kd_b3 _ | exact kd_b4 _ | exact kd_b5 _ | exact kd_b6 _) (by omega) ?_
  refine Wp.aload_n rfl dX0_supersedes_8 ?_
  refine Wp.gi (kz := 0) rfl dX0_supersedes_9 fkX0_31 (by first | rfl | exact kd_b0 _ | exact kd_b1 _ | exact kd_b2 _ | exact kd_b3 _ | exact kd_b4 _ | exact kd_b5 _ | exact kd_b6 _) (by omega) ?_
  refine Wp.icmp_ne (tgt := 26) dX0_supersedes_12 (by decide) (by first | omega | exact bI_R _ | exact cmp_R _ _ | assumption) (by first | omega | exact bI_R _ | exact cmp_R _ _ | assumption) (fun c12 => ?_) (fun c12 => ?_)
  · refine Wp.iconst dX0_supersedes_26 ?_
    refine Wp.zreturn dX0_supersedes_27 rfl (by first | omega | exact bI_01 _) ?_
    first | exact hq | (exfalso; omega) | exact qB_t hq (by omega) | exact qB_f hq (by omega)
  · refine Wp.aload_n rfl dX0_supersedes_15 ?_
    refine Wp.gi (kz := 1) rfl dX0_supersedes_16 fkX0_35 (by first | rfl | exact kd_b0 _ | exact kd_b1 _ | exact kd_b2 _ | exact kd_b3 _ | exact kd_b4 _ | exact kd_b5 _ | exact kd_b6 _) (by omega) ?_
    refine Wp.aload_n rfl dX0_supersedes_19 ?_
    refine Wp.gi (kz := 1) rfl dX0_supersedes_20 fkX0_35 (by first | rfl | exact kd_b0 _ | exact kd_b1 _ | exact kd_b2 _ | exact kd_b3 _ | exact kd_b4 _ | exact kd_b5 _ | exact kd_b6 _) (by omega) ?_
    refine Wp.icmp_eq (tgt := 28) dX0_supersedes_23 (by decide) (by first | omega | exact bI_R _ | exact cmp_R _ _ | assumption) (by first | omega | exact bI_R _ | exact cmp_R _ _ | assumption) (fun c23 => ?_) (fun c23 => ?_)
    · refine Wp.aload_n rfl dX0_supersedes_28 ?_
      refine Wp.gi (kz := 2) rfl dX0_supersedes_29 fkX0_38 (by first | rfl | exact kd_b0 _ | exact kd_b1 _ | exact kd_b2 _ | exact kd_b3 _ | exact kd_b4 _ | exact kd_b5 _ | exact kd_b6 _) (by omega) ?_
      refine Wp.aload_n rfl dX0_supersedes_32 ?_
      refine Wp.gi (kz := 2) rfl dX0_supersedes_33 fkX0_38 (by first | rfl | exact kd_b0 _ | exact kd_b1 _ | exact kd_b2 _ | exact kd_b3 _ | exact kd_b4 _ | exact kd_b5 _ | exact kd_b6 _) (by omega) ?_
      refine Wp.icmp_gt (tgt := 55) dX0_supersedes_36 (by decide) (by first | omega | exact bI_R _ | exact cmp_R _ _ | assumption) (by first | omega | exact bI_R _ | exact cmp_R _ _ | assumption) (fun c36 => ?_) (fun c36 => ?_)
      · refine Wp.iconst dX0_supersedes_55 ?_
        refine Wp.goto (tgt := 60) dX0_supersedes_56 (by decide) ?_
        refine Wp.zreturn dX0_supersedes_60 rfl (by first | omega | exact bI_01 _) ?_
        first | exact hq | (exfalso; omega) | exact qB_t hq (by omega) | exact qB_f hq (by omega)
      · refine Wp.aload_n rfl dX0_supersedes_39 ?_
        refine Wp.gi (kz := 2) rfl dX0_supersedes_40 fkX0_38 (by first | rfl | exact kd_b0 _ | exact kd_b1 _ | exact kd_b2 _ | exact kd_b3 _ | exact kd_b4 _ | exact kd_b5 _ | exact kd_b6 _) (by omega) ?_
        refine Wp.aload_n rfl dX0_supersedes_43 ?_
        refine Wp.gi (kz := 2) rfl dX0_supersedes_44 fkX0_38 (by first | rfl | exact kd_b0 _ | exact kd_b1 _ | exact kd_b2 _ | exact kd_b3 _ | exact kd_b4 _ | exact kd_b5 _ | exact kd_b6 _) (by omega) ?_
        refine Wp.icmp_ne (tgt := 59) dX0_supersedes_47 (by decide) (by first | omega | exact bI_R _ | exact cmp_R _ _ | assumption) (by first | omega | exact bI_R _ | exact cmp_R _ _ | assumption) (fun c47 => ?_) (fun c47 => ?_)
        · refine Wp.iconst dX0_supersedes_59 ?_
          refine Wp.zreturn dX0_supersedes_60 rfl (by first | omega | exact bI_01 _) ?_
          first | exact hq | (exfalso; omega) | exact qB_t hq (by omega) | exact qB_f hq (by omega)
        · refine Wp.iload_n rfl dX0_supersedes_50 ?_
          refine Wp.iload_n rfl dX0_supersedes_51 ?_
          refine Wp.icmp_le (tgt := 59) dX0_supersedes_52 (by decide) (by first | omega | exact bI_R _ | exact cmp_R _ _ | assumption) (by first | omega | exact bI_R _ | exact cmp_R _ _ | assumption) (fun c52 => ?_) (fun c52 => ?_)
          · refine Wp.iconst dX0_supersedes_59 ?_
            refine Wp.zreturn dX0_supersedes_60 rfl (by first | omega | exact bI_01 _) ?_
            first | exact hq | (exfalso; omega) | exact qB_t hq (by omega) | exact qB_f hq (by omega)
          · refine Wp.iconst dX0_supersedes_55 ?_
            refine Wp.goto (tgt := 60) dX0_supersedes_56 (by decide) ?_
            refine Wp.zreturn dX0_supersedes_60 rfl (by first | omega | exact bI_01 _) ?_
            first | exact hq | (exfalso; omega) | exact qB_t hq (by omega) | exact qB_f hq (by omega)
    · refine Wp.iconst dX0_supersedes_26 ?_
      refine Wp.zreturn dX0_supersedes_27 rfl (by first | omega | exact bI_01 _) ?_
      first | exact hq | (exfalso; omega) | exact qB_t hq (by omega) | exact qB_f hq (by omega)
/-- a book by its number -/
def bkA (I : Nat → Int → Int) (z : Int) : Option Nat := if 0 ≤ z ∧ z < I 32 0 then some (57 + 7 * z.toNat) else none
def cuA (I : Nat → Int → Int) (z : Int) : Option Nat := if (0 ≤ z ∧ z < I 32 0) ∧ I 35 z ≤ I 32 9 then some (57 + 7 * z.toNat) else none
theorem ct_X8_bookAt {z : Int} (hS : ShR I L R n) (hz : inR z) (hq : Q (some (vr (bkA I z))) (I, L, R, n)) : Wp mX8_bookAt 0 [some (vr (some 4)), some (vi z)] [] (I, L, R, n) (0, 0) Q := by
  obtain ⟨hn, hFx, hW, s2, s3, s4, hbk⟩ := hS
  have hN := hW.1
  have hN1 := hW.2.1
  have hr : 0 ≤ z → z < I 32 0 → R 5 z = some (57 + 7 * z.toNat) := fun h0 h1 => by
    have := (hbk z.toNat (by omega)).1
    rw [show ((z.toNat : Nat) : Int) = z by omega] at this
    exact this
  refine Wp.iload_n rfl dX8_bookAt_0 ?_
  refine Wp.if_lt (tgt := 27) dX8_bookAt_1 (by decide) (by first | omega | exact bI_R _ | exact cmp_R _ _ | assumption) (fun c1 => ?_) (fun c1 => ?_)
  · refine Wp.aconst_null dX8_bookAt_27 ?_
    refine Wp.areturn dX8_bookAt_28 rfl ?_
    first | (exfalso; omega) | (exact qR hq (by unfold bkA; first | rw [if_pos (by omega)] | rw [if_neg (by omega)]))
  · refine Wp.iload_n rfl dX8_bookAt_4 ?_
    refine Wp.aload_n rfl dX8_bookAt_5 ?_
    refine Wp.gi (kz := 2) rfl dX8_bookAt_6 fkX8_21 (by first | rfl | exact kd_b0 _ | exact kd_b1 _ | exact kd_b2 _ | exact kd_b3 _ | exact kd_b4 _ | exact kd_b5 _ | exact kd_b6 _) (by omega) ?_
    refine Wp.icmp_ge (tgt := 27) dX8_bookAt_9 (by decide) (by first | omega | exact bI_R _ | exact cmp_R _ _ | assumption) (by first | omega | exact bI_R _ | exact cmp_R _ _ | assumption) (fun c9 => ?_) (fun c9 => ?_)
    · refine Wp.aconst_null dX8_bookAt_27 ?_
      refine Wp.areturn dX8_bookAt_28 rfl ?_
      first | (exfalso; omega) | (exact qR hq (by unfold bkA; first | rw [if_pos (by omega)] | rw [if_neg (by omega)]))
    · refine Wp.iload_n rfl dX8_bookAt_12 ?_
      refine Wp.bipush rfl dX8_bookAt_13 ?_
      refine Wp.icmp_ge (tgt := 27) dX8_bookAt_15 (by decide) (by first | omega | exact bI_R _ | exact cmp_R _ _ | assumption) (by first | omega | exact bI_R _ | exact cmp_R _ _ | assumption) (fun c15 => ?_) (fun c15 => ?_)
      · refine Wp.aconst_null dX8_bookAt_27 ?_
        refine Wp.areturn dX8_bookAt_28 rfl ?_
        first | (exfalso; omega) | (exact qR hq (by unfold bkA; first | rw [if_pos (by omega)] | rw [if_neg (by omega)]))
      · refine Wp.aload_n rfl dX8_bookAt_18 ?_
        refine Wp.gr (kz := 0) rfl dX8_bookAt_19 fkX8_11 (by first | rfl | exact kd_b0 _ | exact kd_b1 _ | exact kd_b2 _ | exact kd_b3 _ | exact kd_b4 _ | exact kd_b5 _ | exact kd_b6 _) (by omega) (by first | exact hFx _ 0 _ rfl | assumption | exact hBk.1 | exact hBk.2.1 | exact hBk.2.2.1 | exact hBk.2.2.2.1 | exact hBk.2.2.2.2.1 | exact hBk.2.2.2.2.2) ?_
        refine Wp.iload_n rfl dX8_bookAt_22 ?_
        refine Wp.aaload dX8_bookAt_23 (by first | rfl | exact kd_b0 _ | exact kd_b1 _ | exact kd_b2 _ | exact kd_b3 _ | exact kd_b4 _ | exact kd_b5 _ | exact kd_b6 _) (by omega) (by omega) (by omega) (hr (by omega) (by omega)) ?_
        refine Wp.goto (tgt := 28) dX8_bookAt_24 (by decide) ?_
        refine Wp.areturn dX8_bookAt_28 rfl ?_
        first | (exfalso; omega) | (exact qR hq (by unfold bkA; first | rw [if_pos (by omega)] | rw [if_neg (by omega)]))
theorem cuA_s {z : Int} {o : Nat} (h : cuA I z = some o) : o = 57 + 7 * z.toNat ∧ 0 ≤ z ∧ z < I 32 0 ∧ I 35 z ≤ I 32 9 := by
  unfold cuA at h
  split at h
  · rename_i h2; exact ⟨(Option.some.inj h).symm, h2.1.1, h2.1.2, h2.2⟩
  · cases h
theorem bkA_s {z : Int} {o : Nat} (h : bkA I z = some o) : o = 57 + 7 * z.toNat ∧ 0 ≤ z ∧ z < I 32 0 := by
  unfold bkA at h
  split at h
  · rename_i h2; exact ⟨(Option.some.inj h).symm, h2.1, h2.2⟩
  · cases h
theorem cuA_n {z : Int} (h : cuA I z = none) : ¬ ((0 ≤ z ∧ z < I 32 0) ∧ I 35 z ≤ I 32 9) := by
  unfold cuA at h
  split at h
  · cases h
  · assumption
theorem bkA_n {z : Int} (h : bkA I z = none) : ¬ (0 ≤ z ∧ z < I 32 0) := by
  unfold bkA at h
  split at h
  · cases h
  · assumption
theorem ct_X8_currentAt {z : Int} (hS : ShR I L R n) (hz : inR z) (hq : Q (some (vr (cuA I z))) (I, L, R, n)) : Wp mX8_currentAt 0 [some (vr (some 4)), some (vi z), none] [] (I, L, R, n) (0, 0) Q := by
  have hn := hS.1
  have hW := hS.2.2.1
  have hT0 := hW.2.2.1
  have hT1 := hW.2.2.2.1
  have s3 := hS.2.2.2.2.1
  refine Wp.aload_n rfl dX8_currentAt_0 ?_
  refine Wp.iload_n rfl dX8_currentAt_1 ?_
  refine Wp.callV (As := [_]) (ls0 := [_, _]) (bd := (0, 0)) (bd' := (0, 0)) dX8_currentAt_2 kmX8_bookAt lkX8_37 (by decide) (by decide) (Nat.le_of_ble_eq_true rfl) (by first | rfl | exact kd_b0 _ | exact kd_b1 _ | exact kd_b2 _ | exact kd_b3 _ | exact kd_b4 _ | exact kd_b5 _ | exact kd_b6 _) (by omega) rfl rfl (Nat.le_of_ble_eq_true rfl) rfl ?_
  refine ct_X8_bookAt hS (by omega) ?_
  show Wp _ _ _ (_ :: _) _ _ _
  refine Wp.astore_n (ls' := [_, _, _]) dX8_currentAt_5 (by decide) rfl ?_
  refine Wp.aload_n rfl dX8_currentAt_6 ?_
  refine Wp.ifnull (tgt := 25) dX8_currentAt_7 (by decide) (fun c7 => ?_) (fun o7 c7 => ?_)
  · refine Wp.aconst_null dX8_currentAt_25 ?_
    refine Wp.areturn dX8_currentAt_26 rfl ?_
    first | (exfalso; omega) | (first | exact qR hq (by unfold cuA; rw [if_pos (by omega)]) | exact qR hq (by unfold cuA; rw [if_neg (by omega)]) | exact qR hq (by have := bkA_n c7; unfold cuA; rw [if_neg (by omega)]))
  · obtain ⟨ho, hz0, hz1⟩ := bkA_s c7
    subst ho
    rw [c7]
    have hB := hS.2.2.2.2.2.2 z.toNat (by omega)
    have hn7 := hB.2.2.1
    have hd := hB.2.2.2.2.2.1
    rw [show ((z.toNat : Nat) : Int) = z by omega] at hd
    have hwb := hW.b hz0 hz1
    refine Wp.aload_n rfl dX8_currentAt_10 ?_
    refine Wp.gi (kz := 2) rfl dX8_currentAt_11 fkX8_41 (by first | rfl | exact kd_b0 _ | exact kd_b1 _ | exact kd_b2 _ | exact kd_b3 _ | exact kd_b4 _ | exact kd_b5 _ | exact kd_b6 _) (by omega) ?_
    refine Wp.aload_n rfl dX8_currentAt_14 ?_
    refine Wp.gi (kz := 3) rfl dX8_currentAt_15 fkX8_25 (by first | rfl | exact kd_b0 _ | exact kd_b1 _ | exact kd_b2 _ | exact kd_b3 _ | exact kd_b4 _ | exact kd_b5 _ | exact kd_b6 _) (by omega) ?_
    refine Wp.icmp_gt (tgt := 25) dX8_currentAt_18 (by decide) (by first | omega | exact bI_R _ | exact cmp_R _ _ | assumption) (by first | omega | exact bI_R _ | exact cmp_R _ _ | assumption) (fun c18 => ?_) (fun c18 => ?_)
    · refine Wp.aconst_null dX8_currentAt_25 ?_
      refine Wp.areturn dX8_currentAt_26 rfl ?_
      first | (exfalso; omega) | (first | exact qR hq (by unfold cuA; rw [if_pos (by omega)]) | exact qR hq (by unfold cuA; rw [if_neg (by omega)]) | exact qR hq (by have := bkA_n c7; unfold cuA; rw [if_neg (by omega)]))
    · refine Wp.aload_n rfl dX8_currentAt_21 ?_
      refine Wp.goto (tgt := 26) dX8_currentAt_22 (by decide) ?_
      refine Wp.areturn dX8_currentAt_26 rfl ?_
      first | (exfalso; omega) | (first | exact qR hq (by unfold cuA; rw [if_pos (by omega)]) | exact qR hq (by unfold cuA; rw [if_neg (by omega)]) | exact qR hq (by have := bkA_n c7; unfold cuA; rw [if_neg (by omega)]))
end

