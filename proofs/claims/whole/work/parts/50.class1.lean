/-! ===== the class: entries, what they give, there and back ===== -/
theorem dj6 : ∀ z : Fin 256, (let a := (z.val : Int) - andI (ushrI (z.val : Int) 1) 1431655765; let b := andI a 858993459 + andI (ushrI a 2) 858993459; let c := andI (b + ushrI b 4) 252645135; let d := c + ushrI c 8; let e := d + ushrI d 16; andI e 63) = pcN (BitVec.ofInt 64 (z.val : Int)) 60 := by decide +kernel
theorem ct_J6 {m : Mm} {Q : Option AV → Mm → Prop} {z : Int} (h0 : 0 ≤ z) (h1 : z < 256) (hq : Q (some (vi (pcN (BitVec.ofInt 64 z) 60))) m) : Wp mJ6_bitCount_0f7a4 0 [some (vi z)] [] m (0, 0) Q := by
  have h := dj6 ⟨z.toNat, by omega⟩
  have e : ((z.toNat : Nat) : Int) = z := by omega
  simp only [e] at h
  refine Wp.iload_n rfl dJ6_bitCount_0f7a4_0 ?_
  refine Wp.iload_n rfl dJ6_bitCount_0f7a4_1 ?_
  refine Wp.iconst dJ6_bitCount_0f7a4_2 ?_
  refine Wp.iushr dJ6_bitCount_0f7a4_3 ?_
  refine Wp.ldc_w (z := 1431655765) ckJ6_265 rfl dJ6_bitCount_0f7a4_4 ?_
  refine Wp.iand dJ6_bitCount_0f7a4_7 ?_
  refine Wp.isub dJ6_bitCount_0f7a4_8 ?_
  refine Wp.istore_n (ls' := [_]) dJ6_bitCount_0f7a4_9 (by decide) rfl ?_
  refine Wp.iload_n rfl dJ6_bitCount_0f7a4_10 ?_
  refine Wp.ldc_w (z := 858993459) ckJ6_266 rfl dJ6_bitCount_0f7a4_11 ?_
  refine Wp.iand dJ6_bitCount_0f7a4_14 ?_
  refine Wp.iload_n rfl dJ6_bitCount_0f7a4_15 ?_
  refine Wp.iconst dJ6_bitCount_0f7a4_16 ?_
  refine Wp.iushr dJ6_bitCount_0f7a4_17 ?_
  refine Wp.ldc_w (z := 858993459) ckJ6_266 rfl dJ6_bitCount_0f7a4_18 ?_
  refine Wp.iand dJ6_bitCount_0f7a4_21 ?_
  refine Wp.iadd dJ6_bitCount_0f7a4_22 ?_
  refine Wp.istore_n (ls' := [_]) dJ6_bitCount_0f7a4_23 (by decide) rfl ?_
  refine Wp.iload_n rfl dJ6_bitCount_0f7a4_24 ?_
  refine Wp.iload_n rfl dJ6_bitCount_0f7a4_25 ?_
  refine Wp.iconst dJ6_bitCount_0f7a4_26 ?_
  refine Wp.iushr dJ6_bitCount_0f7a4_27 ?_
  refine Wp.iadd dJ6_bitCount_0f7a4_28 ?_
  refine Wp.ldc_w (z := 252645135) ckJ6_267 rfl dJ6_bitCount_0f7a4_29 ?_
  refine Wp.iand dJ6_bitCount_0f7a4_32 ?_
  refine Wp.istore_n (ls' := [_]) dJ6_bitCount_0f7a4_33 (by decide) rfl ?_
  refine Wp.iload_n rfl dJ6_bitCount_0f7a4_34 ?_
  refine Wp.iload_n rfl dJ6_bitCount_0f7a4_35 ?_
  refine Wp.bipush rfl dJ6_bitCount_0f7a4_36 ?_
  refine Wp.iushr dJ6_bitCount_0f7a4_38 ?_
  refine Wp.iadd dJ6_bitCount_0f7a4_39 ?_
  refine Wp.istore_n (ls' := [_]) dJ6_bitCount_0f7a4_40 (by decide) rfl ?_
  refine Wp.iload_n rfl dJ6_bitCount_0f7a4_41 ?_
  refine Wp.iload_n rfl dJ6_bitCount_0f7a4_42 ?_
  refine Wp.bipush rfl dJ6_bitCount_0f7a4_43 ?_
  refine Wp.iushr dJ6_bitCount_0f7a4_45 ?_
  refine Wp.iadd dJ6_bitCount_0f7a4_46 ?_
  refine Wp.istore_n (ls' := [_]) dJ6_bitCount_0f7a4_47 (by decide) rfl ?_
  refine Wp.iload_n rfl dJ6_bitCount_0f7a4_48 ?_
  refine Wp.bipush rfl dJ6_bitCount_0f7a4_49 ?_
  refine Wp.iand dJ6_bitCount_0f7a4_51 ?_
  refine Wp.ireturn dJ6_bitCount_0f7a4_52 rfl ?_
  first | (exfalso; omega) | (exact qI hq h)
/-- the words of a sense, none behind the last -/
def sst (I : Nat → Int → Int) (ag e s : Int) : BitVec 64 := if 0 ≤ s ∧ s < I 36 e then ss I ag (3 * e + s) else 0#64
def fst' (I : Nat → Int → Int) (e s : Int) : Int := if 0 ≤ s ∧ s < I 36 e then I 37 (3 * e + s) else -1
def wst (I : Nat → Int → Int) (e s p : Int) : Int := if (0 ≤ s ∧ s < I 36 e) ∧ 0 ≤ p ∧ p < I 38 (3 * e + s) then I 39 (6 * (3 * e + s) + p) else -1
section
variable {I : Nat → Int → Int} {L : Nat → Int → BitVec 64} {R : Nat → Int → Option Nat} {n k : Nat} {m : Mm} {Q : Option AV → Mm → Prop}
theorem BR.pl (hB : BR I L R n k) (hW : RW I) (hk : (k : Int) < I 32 0) {w s : Int} (h0 : 0 ≤ w) (h1 : w < 60) : plc I k w s = if 0 ≤ s ∧ s < I 36 (60 * k + w) then w * 3 + s else -1 := by
  have hsn := hB.sn h0 h1
  have he := hW.e (z := k) (by omega) hk h0 h1
  unfold plc
  by_cases h : 0 ≤ s ∧ s < I 36 (60 * k + w)
  · rw [if_pos h, if_pos (by omega)]
  · rw [if_neg h, if_neg (by omega)]
theorem BR.sR (hB : BR I L R n k) (hW : RW I) (hk : (k : Int) < I 32 0) : ∀ w, 0 ≤ w → w < 60 → inR (I (57 + 7 * k + 1) w) := fun w h0 h1 => by
  have hsn := hB.sn h0 h1
  have he := hW.e (z := k) (by omega) hk h0 h1
  omega
theorem ct_sst {w s ag : Int} (hB : BR I L R n k) (hW : RW I) (hk : (k : Int) < I 32 0) (h0 : 0 ≤ w) (h1 : w < 60) (hs : inR s) (ha : inR ag) (hq : Q (some (vl (sst I ag (60 * k + w) s))) (I, L, R, n)) : Wp mX0_senseSet 0 [some (vr (some (57 + 7 * k))), some (vi w), some (vi s), some (vi ag), none] [] (I, L, R, n) (0, 0) Q := by
  refine ct_X0_senseSet hB.2.2.1 hB.2.1 (by omega) hs ha (hB.sR hW hk) ?_
  refine qL hq ?_
  unfold sSet sst
  rw [hB.pl hW hk h0 h1]
  by_cases h : 0 ≤ s ∧ s < I 36 (60 * k + w)
  · rw [if_pos h, if_pos h, if_neg (by omega)]
    exact hB.st h0 h1 h.1 h.2
  · rw [if_neg h, if_neg h, if_pos rfl]
theorem ct_fst {w s : Int} (hB : BR I L R n k) (hW : RW I) (hk : (k : Int) < I 32 0) (h0 : 0 ≤ w) (h1 : w < 60) (hs : inR s) (hq : Q (some (vi (fst' I (60 * k + w) s))) (I, L, R, n)) : Wp mX0_fieldOf 0 [some (vr (some (57 + 7 * k))), some (vi w), some (vi s), none] [] (I, L, R, n) (0, 0) Q := by
  refine ct_X0_fieldOf hB.2.2.1 hB.2.1 (by omega) hs (hB.sR hW hk) ?_
  refine qI hq ?_
  unfold fldOf fst'
  rw [hB.pl hW hk h0 h1]
  by_cases h : 0 ≤ s ∧ s < I 36 (60 * k + w)
  · rw [if_pos h, if_pos h, if_neg (by omega)]
    exact (hB.se h0 h1 h.1 h.2).1
  · rw [if_neg h, if_neg h, if_pos rfl]
theorem ct_X0_wordAt2 {w s p : Int} (hk : 57 + 7 * k + 7 ≤ n) (hBk : Bk R k) (hw : inR w) (hs : inR s) (hp : inR p) (hb : ∀ w, 0 ≤ w → w < 60 → inR (I (57 + 7 * k + 1) w)) (hz : plc I k w s ≠ -1 → inR (I (57 + 7 * k + 3) (plc I k w s))) (hq : Q (some (vi (wdAt I k w s p))) (I, L, R, n)) : Wp mX0_wordAt 0 [some (vr (some (57 + 7 * k))), some (vi w), some (vi s), some (vi p), none] [] (I, L, R, n) (0, 0) Q := by
  have hP := plc_B I k w s
  refine Wp.aload_n rfl dX0_wordAt_0 ?_
  refine Wp.iload_n rfl dX0_wordAt_1 ?_
  refine Wp.iload_n rfl dX0_wordAt_2 ?_
  refine Wp.callV (As := [_, _]) (ls0 := [_, _, _]) (bd := (0, 0)) (bd' := (0, 0)) dX0_wordAt_3 kmX0_placeOf lkX0_62 (by decide) (by decide) (Nat.le_of_ble_eq_true rfl) (by first | rfl | exact kd_b0 _ | exact kd_b1 _ | exact kd_b2 _ | exact kd_b3 _ | exact kd_b4 _ | exact kd_b5 _ | exact kd_b6 _) (by omega) rfl rfl (Nat.le_of_ble_eq_true rfl) rfl ?_
  refine ct_X0_placeOf hk hBk (by omega) (by omega) hb ?_
  show Wp _ _ _ (_ :: _) _ _ _
  refine Wp.istore (ls' := [_, _, _, _, _]) dX0_wordAt_6 (by decide) rfl ?_
  refine Wp.iload rfl dX0_wordAt_8 ?_
  refine Wp.iconst dX0_wordAt_10 ?_
  refine Wp.icmp_eq (tgt := 35) dX0_wordAt_11 (by decide) (by first | omega | exact bI_R _ | exact cmp_R _ _ | assumption) (by first | omega | exact bI_R _ | exact cmp_R _ _ | assumption) (fun c11 => ?_) (fun c11 => ?_)
  · refine Wp.iconst dX0_wordAt_35 ?_
    refine Wp.ireturn dX0_wordAt_36 rfl ?_
    first | (exfalso; omega) | (exact qI hq (by unfold wdAt; first | rw [if_pos (by omega)] | rw [if_neg (by omega)]))
  · refine Wp.iload_n rfl dX0_wordAt_14 ?_
    refine Wp.if_lt (tgt := 35) dX0_wordAt_15 (by decide) (by first | omega | exact bI_R _ | exact cmp_R _ _ | assumption) (fun c15 => ?_) (fun c15 => ?_)
    · refine Wp.iconst dX0_wordAt_35 ?_
      refine Wp.ireturn dX0_wordAt_36 rfl ?_
      first | (exfalso; omega) | (exact qI hq (by unfold wdAt; first | rw [if_pos (by omega)] | rw [if_neg (by omega)]))
    · refine Wp.iload_n rfl dX0_wordAt_18 ?_
      refine Wp.bipush rfl dX0_wordAt_19 ?_
      refine Wp.icmp_ge (tgt := 35) dX0_wordAt_21 (by decide) (by first | omega | exact bI_R _ | exact cmp_R _ _ | assumption) (by first | omega | exact bI_R _ | exact cmp_R _ _ | assumption) (fun c21 => ?_) (fun c21 => ?_)
      · refine Wp.iconst dX0_wordAt_35 ?_
        refine Wp.ireturn dX0_wordAt_36 rfl ?_
        first | (exfalso; omega) | (exact qI hq (by unfold wdAt; first | rw [if_pos (by omega)] | rw [if_neg (by omega)]))
      · refine Wp.iload_n rfl dX0_wordAt_24 ?_
        have hzz := hz (by omega)
        refine Wp.aload_n rfl dX0_wordAt_25 ?_
        refine Wp.gr (kz := 9) rfl dX0_wordAt_26 fkX0_18 (by first | rfl | exact kd_b0 _ | exact kd_b1 _ | exact kd_b2 _ | exact kd_b3 _ | exact kd_b4 _ | exact kd_b5 _ | exact kd_b6 _) (by omega) (by first | exact hFx _ 9 _ rfl | assumption | exact hBk.1 | exact hBk.2.1 | exact hBk.2.2.1 | exact hBk.2.2.2.1 | exact hBk.2.2.2.2.1 | exact hBk.2.2.2.2.2) ?_
        refine Wp.iload rfl dX0_wordAt_29 ?_
        refine Wp.iaload dX0_wordAt_31 (by first | rfl | exact kd_b0 _ | exact kd_b1 _ | exact kd_b2 _ | exact kd_b3 _ | exact kd_b4 _ | exact kd_b5 _ | exact kd_b6 _) (by omega) (by omega) (by omega) ?_
        refine Wp.icmp_lt (tgt := 37) dX0_wordAt_32 (by decide) (by first | omega | exact bI_R _ | exact cmp_R _ _ | assumption) (by first | omega | exact bI_R _ | exact cmp_R _ _ | assumption) (fun c32 => ?_) (fun c32 => ?_)
        · refine Wp.aload_n rfl dX0_wordAt_37 ?_
          refine Wp.gr (kz := 10) rfl dX0_wordAt_38 fkX0_21 (by first | rfl | exact kd_b0 _ | exact kd_b1 _ | exact kd_b2 _ | exact kd_b3 _ | exact kd_b4 _ | exact kd_b5 _ | exact kd_b6 _) (by omega) (by first | exact hFx _ 10 _ rfl | assumption | exact hBk.1 | exact hBk.2.1 | exact hBk.2.2.1 | exact hBk.2.2.2.1 | exact hBk.2.2.2.2.1 | exact hBk.2.2.2.2.2) ?_
          refine Wp.iload rfl dX0_wordAt_41 ?_
          refine Wp.bipush rfl dX0_wordAt_43 ?_
          refine Wp.imul dX0_wordAt_45 ?_
          refine Wp.iload_n rfl dX0_wordAt_46 ?_
          refine Wp.iadd dX0_wordAt_47 ?_
          refine Wp.iaload dX0_wordAt_48 (by first | rfl | exact kd_b0 _ | exact kd_b1 _ | exact kd_b2 _ | exact kd_b3 _ | exact kd_b4 _ | exact kd_b5 _ | exact kd_b6 _) (by omega) (by omega) (by omega) ?_
          refine Wp.ireturn dX0_wordAt_49 rfl ?_
          first | (exfalso; omega) | (exact qI hq (by unfold wdAt; first | rw [if_pos (by omega)] | rw [if_neg (by omega)]))
        · refine Wp.iconst dX0_wordAt_35 ?_
          refine Wp.ireturn dX0_wordAt_36 rfl ?_
          first | (exfalso; omega) | (exact qI hq (by unfold wdAt; first | rw [if_pos (by omega)] | rw [if_neg (by omega)]))
theorem ct_wst {w s p : Int} (hB : BR I L R n k) (hW : RW I) (hk : (k : Int) < I 32 0) (h0 : 0 ≤ w) (h1 : w < 60) (hs : inR s) (hp : inR p) (hq : Q (some (vi (wst I (60 * k + w) s p))) (I, L, R, n)) : Wp mX0_wordAt 0 [some (vr (some (57 + 7 * k))), some (vi w), some (vi s), some (vi p), none] [] (I, L, R, n) (0, 0) Q := by
  refine ct_X0_wordAt2 hB.2.2.1 hB.2.1 (by omega) hs hp (hB.sR hW hk) ?_ ?_
  · rw [hB.pl hW hk h0 h1]
    intro h
    split at h
    · rename_i h2
      rw [if_pos h2]
      have h3 := hB.se h0 h1 h2.1 h2.2
      have h4 := hW.s (z := k) (by omega) hk h0 h1 h2.1 h2.2
      rw [h3.2.1]; omega
    · exact absurd rfl h
  · refine qI hq ?_
    unfold wdAt wst
    rw [hB.pl hW hk h0 h1]
    by_cases h : 0 ≤ s ∧ s < I 36 (60 * k + w)
    · rw [if_pos h]
      have h3 := hB.se h0 h1 h.1 h.2
      have h4 := hW.s (z := k) (by omega) hk h0 h1 h.1 h.2
      rw [h3.2.1]
      by_cases hpp : 0 ≤ p ∧ p < I 38 (3 * (60 * k + w) + s)
      · rw [if_neg (by omega), if_pos ⟨h, hpp⟩]
        exact hB.wd h0 h1 h.1 h.2 hpp.1 hpp.2
      · rw [if_pos (by omega), if_neg (fun q => hpp q.2)]
    · rw [if_neg h, if_pos (Or.inl rfl), if_neg (fun q => h q.1)]
/-- of the first j senses those in which a word of a set stands, together -/
def shN (I : Nat → Int → Int) (e : Int) (s : BitVec 64) : Nat → BitVec 64
  | 0 => 0#64
  | j + 1 => shN I e s j ||| (if sst I (I 32 10) e j &&& s = 0#64 then 0#64 else sst I (I 32 10) e j)
def shr' (I : Nat → Int → Int) (lk a w b : Int) (s : BitVec 64) : BitVec 64 := if ent I lk a w b < 0 then 0#64 else shN I (ent I lk a w b) s 3
theorem shN_t {e : Int} {s : BitVec 64} {k : Nat} (h : sst I (I 32 10) e k &&& s = 0#64) : shN I e s k = shN I e s (k + 1) := by
  simp only [shN]; rw [if_pos h, BitVec.or_zero]
theorem shN_f {e : Int} {s : BitVec 64} {k : Nat} (h : ¬ sst I (I 32 10) e k &&& s = 0#64) : shN I e s k ||| sst I (I 32 10) e k = shN I e s (k + 1) := by
  simp only [shN]; rw [if_neg h]
theorem ct_X8_sharingSense {a w b : Int} {s : BitVec 64} (hS : ShR I L R n) (ha : inR a) (hb : inR b) (h0 : 0 ≤ w) (h1 : w < 60) (hq : Q (some (vl (shr' I 255 a w b s))) (I, L, R, n)) : Wp mX8_sharingSense 0 [some (vr (some 4)), some (vi a), some (vi w), some (vi b), some (vl s), none, none, none, none, none, none, none] [] (I, L, R, n) (0, 0) Q := by
  have hn := hS.1
  have hW := hS.2.2.1
  have hA := hW.2.2.2.2.1
  have s4 := hS.2.2.2.2.2.1
  have hE := ent_lat hW (lk := 255) (a := a) (b := b) h0
  have hB := lat_B I hW.1 255 a w b
  have hN1 := hW.2.1
  unfold shr' at hq
  have lp : ∀ (kb : Nat) (hkb : (kb : Int) < I 32 0 ∧ ent I 255 a w b = 60 * kb + w) , ∀ (tt k : Nat) (z : Int) (x : BitVec 64) (xx : Option AV), k + tt = 3 → z = k → x = shN I (ent I 255 a w b) s k → Wp mX8_sharingSense 26 [some (vr (some 4)), some (vi a), some (vi w), some (vi b), some (vl s), none, some (vr (some (57 + 7 * kb))), some (vl x), none, some (vi z), xx, none] [] (I, L, R, n) (0, 0) Q := by
    intro kb hkb
    intro tt
    induction tt with
    | zero =>
      intro k z x xx hkt hz e0
      obtain rfl : k = 3 := by omega
      refine Wp.iload rfl dX8_sharingSense_26 ?_
      refine Wp.iconst dX8_sharingSense_28 ?_
      refine Wp.icmp_ge (tgt := 69) dX8_sharingSense_29 (by decide) (by first | omega | exact bI_R _ | exact cmp_R _ _ | assumption) (by first | omega | exact bI_R _ | exact cmp_R _ _ | assumption) (fun c29 => ?_) (fun c29 => ?_)
      · refine Wp.lload rfl dX8_sharingSense_69 ?_
        refine Wp.lreturn dX8_sharingSense_71 rfl ?_
        first | (exfalso; omega) | (exact qL (by rw [if_neg (by omega)] at hq; exact hq) e0)
      · exfalso; omega
    | succ tt ih =>
      intro k z x xx hkt hz e0
      subst hz
      subst e0
      have hBB := hS.2.2.2.2.2.2 kb hkb.1
      have hn7 := hBB.2.2.1
      refine Wp.iload rfl dX8_sharingSense_26 ?_
      refine Wp.iconst dX8_sharingSense_28 ?_
      refine Wp.icmp_ge (tgt := 69) dX8_sharingSense_29 (by decide) (by first | omega | exact bI_R _ | exact cmp_R _ _ | assumption) (by first | omega | exact bI_R _ | exact cmp_R _ _ | assumption) (fun c29 => ?_) (fun c29 => ?_)
      · exfalso; omega
      · refine Wp.aload rfl dX8_sharingSense_32 ?_
        refine Wp.iload_n rfl dX8_sharingSense_34 ?_
        refine Wp.iload rfl dX8_sharingSense_35 ?_
        refine Wp.aload_n rfl dX8_sharingSense_37 ?_
        refine Wp.gi (kz := 4) rfl dX8_sharingSense_38 fkX8_28 (by first | rfl | exact kd_b0 _ | exact kd_b1 _ | exact kd_b2 _ | exact kd_b3 _ | exact kd_b4 _ | exact kd_b5 _ | exact kd_b6 _) (by omega) ?_
        refine Wp.callV (As := [_, _, _]) (ls0 := [_, _, _, _, _]) (bd := (0, 0)) (bd' := (0, 0)) dX8_sharingSense_41 kmX0_senseSet lkX8_81 (by decide) (by decide) (Nat.le_of_ble_eq_true rfl) (by first | rfl | exact kd_b0 _ | exact kd_b1 _ | exact kd_b2 _ | exact kd_b3 _ | exact kd_b4 _ | exact kd_b5 _ | exact kd_b6 _) (by omega) rfl rfl (Nat.le_of_ble_eq_true rfl) rfl ?_
        refine ct_sst hBB hW hkb.1 h0 h1 (by omega) (by omega) ?_
        rw [← hkb.2, s4]
        show Wp _ _ _ (_ :: _) _ _ _
        refine Wp.lstore (ls' := [_, _, _, _, _, _, _, _, _, _, _, _]) dX8_sharingSense_44 (by decide) rfl ?_
        refine Wp.lload rfl dX8_sharingSense_46 ?_
        refine Wp.lload rfl dX8_sharingSense_48 ?_
        refine Wp.land dX8_sharingSense_50 ?_
        refine Wp.lconst0 dX8_sharingSense_51 ?_
        refine Wp.lcmp dX8_sharingSense_52 ?_
        refine Wp.if_eqC (tgt := 63) dX8_sharingSense_53 (by decide) (fun c53 => ?_) (fun c53 => ?_)
        · refine Wp.iinc (ls' := [_, _, _, _, _, _, _, _, _, _, _, _]) rfl dX8_sharingSense_63 (by decide) rfl ?_
          refine Wp.goto (tgt := 26) dX8_sharingSense_66 (by decide) ?_
          first | exact ih (k + 1) _ _ _ (by omega) (by omega) (shN_t c53) | exact ih (k + 1) _ _ _ (by omega) (by omega) (shN_f c53) | (exfalso; omega)
        · refine Wp.lload rfl dX8_sharingSense_56 ?_
          refine Wp.lload rfl dX8_sharingSense_58 ?_
          refine Wp.lor dX8_sharingSense_60 ?_
          refine Wp.lstore (ls' := [_, _, _, _, _, _, _, _, _, _, _, _]) dX8_sharingSense_61 (by decide) rfl ?_
          refine Wp.iinc (ls' := [_, _, _, _, _, _, _, _, _, _, _, _]) rfl dX8_sharingSense_63 (by decide) rfl ?_
          refine Wp.goto (tgt := 26) dX8_sharingSense_66 (by decide) ?_
          first | exact ih (k + 1) _ _ _ (by omega) (by omega) (shN_t c53) | exact ih (k + 1) _ _ _ (by omega) (by omega) (shN_f c53) | (exfalso; omega)
  refine Wp.aload_n rfl dX8_sharingSense_0 ?_
  refine Wp.aload_n rfl dX8_sharingSense_1 ?_
  refine Wp.iload_n rfl dX8_sharingSense_2 ?_
  refine Wp.iload_n rfl dX8_sharingSense_3 ?_
  refine Wp.iload_n rfl dX8_sharingSense_4 ?_
  refine Wp.callV (As := [_, _, _]) (ls0 := [_, _, _, _, _, _, _]) (bd := (0, 0)) (bd' := (0, 0)) dX8_sharingSense_5 kmX8_latest lkX8_65 (by decide) (by decide) (Nat.le_of_ble_eq_true rfl) (by first | rfl | exact kd_b0 _ | exact kd_b1 _ | exact kd_b2 _ | exact kd_b3 _ | exact kd_b4 _ | exact kd_b5 _ | exact kd_b6 _) (by omega) rfl rfl (Nat.le_of_ble_eq_true rfl) rfl ?_
  refine ct_X8_latest hS (by omega) (by omega) (by omega) (by omega) ?_
  show Wp _ _ _ (_ :: _) _ _ _
  refine Wp.callV (As := [_]) (ls0 := [_, _]) (bd := (0, 0)) (bd' := (0, 0)) dX8_sharingSense_8 kmX8_bookAt lkX8_37 (by decide) (by decide) (Nat.le_of_ble_eq_true rfl) (by first | rfl | exact kd_b0 _ | exact kd_b1 _ | exact kd_b2 _ | exact kd_b3 _ | exact kd_b4 _ | exact kd_b5 _ | exact kd_b6 _) (by omega) rfl rfl (Nat.le_of_ble_eq_true rfl) rfl ?_
  refine ct_X8_bookAt hS (by omega) ?_
  show Wp _ _ _ (_ :: _) _ _ _
  refine Wp.astore (ls' := [_, _, _, _, _, _, _, _, _, _, _, _]) dX8_sharingSense_11 (by decide) rfl ?_
  refine Wp.aload rfl dX8_sharingSense_13 ?_
  refine Wp.ifnonnull (tgt := 20) dX8_sharingSense_15 (by decide) (fun o15 c15 => ?_) (fun c15 => ?_)
  · obtain ⟨ho, hz0, hz1⟩ := bkA_s c15
    subst ho
    rw [c15]
    refine Wp.lconst0 dX8_sharingSense_20 ?_
    refine Wp.lstore (ls' := [_, _, _, _, _, _, _, _, _, _, _, _]) dX8_sharingSense_21 (by decide) rfl ?_
    refine Wp.iconst dX8_sharingSense_23 ?_
    refine Wp.istore (ls' := [_, _, _, _, _, _, _, _, _, _, _, _]) dX8_sharingSense_24 (by decide) rfl ?_
    exact lp (lat I 255 a w b).toNat ⟨by omega, by omega⟩ 3 0 _ _ _ (by omega) (by omega) rfl
  · refine Wp.lconst0 dX8_sharingSense_18 ?_
    refine Wp.lreturn dX8_sharingSense_19 rfl ?_
    first | (exfalso; omega) | (exact qL hq (by have := bkA_n c15; rw [if_pos (by omega)]))
theorem ldB_iff (hW : RW I) {a b : Int} : ldB I 255 a b = true ↔ ∃ j : Nat, (j : Int) < I 32 0 ∧ I 35 j ≤ I 32 9 ∧ I 33 j = a ∧ I 34 j = b := by
  have h0 := hW.1
  have h1 := hW.2.1
  unfold ldB
  rw [anyB_iff]
  constructor
  · rintro ⟨j, hj, h⟩
    exact ⟨j, by omega, (of_decide_eq_true h).2⟩
  · rintro ⟨j, hj, h⟩
    exact ⟨j, by omega, decide_eq_true ⟨bit255 (by omega), h⟩⟩
theorem ct_X8_leads {a b : Int} (hS : ShR I L R n) (ha : inR a) (hb : inR b) (hq : Q (some (vi (bI (ldB I 255 a b = true)))) (I, L, R, n)) : Wp mX8_leads 0 [some (vr (some 4)), some (vi a), some (vi b), none, none] [] (I, L, R, n) (0, 0) Q := by
  have hn := hS.1
  have hW := hS.2.2.1
  have hN0 := hW.1
  have hN1 := hW.2.1
  have s2 := hS.2.2.2.1
  have lp : ∀ (tt k : Nat) (z : Int) (x4 : Option AV), k + tt = (I 32 0).toNat → z = k → (∀ j : Nat, j < k → ¬ (I 35 j ≤ I 32 9 ∧ I 33 j = a ∧ I 34 j = b)) → Wp mX8_leads 2 [some (vr (some 4)), some (vi a), some (vi b), some (vi z), x4] [] (I, L, R, n) (0, 0) Q := by
    intro tt
    induction tt with
    | zero =>
      intro k z x4 hkt hz e0
      obtain rfl : k = (I 32 0).toNat := by omega
      refine Wp.iload_n rfl dX8_leads_2 ?_
      refine Wp.aload_n rfl dX8_leads_3 ?_
      refine Wp.gi (kz := 2) rfl dX8_leads_4 fkX8_21 (by first | rfl | exact kd_b0 _ | exact kd_b1 _ | exact kd_b2 _ | exact kd_b3 _ | exact kd_b4 _ | exact kd_b5 _ | exact kd_b6 _) (by omega) ?_
      refine Wp.icmp_ge (tgt := 48) dX8_leads_7 (by decide) (by first | omega | exact bI_R _ | exact cmp_R _ _ | assumption) (by first | omega | exact bI_R _ | exact cmp_R _ _ | assumption) (fun c7 => ?_) (fun c7 => ?_)
      · refine Wp.iconst dX8_leads_48 ?_
        refine Wp.zreturn dX8_leads_49 rfl (by first | omega | exact bI_01 _) ?_
        first | (exfalso; omega) | (exact qB_f hq (fun q => ((ldB_iff hW).mp q).elim (fun j hj => e0 j (by omega) hj.2)))
      · exfalso; omega
    | succ tt ih =>
      intro k z x4 hkt hz e0
      subst hz
      have hkb := hW.b (z := k) (by omega) (by omega)
      have hB := hS.2.2.2.2.2.2 k (by omega)
      have hn7 := hB.2.2.1
      have b0 := hB.2.2.2.1
      have b1 := hB.2.2.2.2.1
      refine Wp.iload_n rfl dX8_leads_2 ?_
      refine Wp.aload_n rfl dX8_leads_3 ?_
      refine Wp.gi (kz := 2) rfl dX8_leads_4 fkX8_21 (by first | rfl | exact kd_b0 _ | exact kd_b1 _ | exact kd_b2 _ | exact kd_b3 _ | exact kd_b4 _ | exact kd_b5 _ | exact kd_b6 _) (by omega) ?_
      refine Wp.icmp_ge (tgt := 48) dX8_leads_7 (by decide) (by first | omega | exact bI_R _ | exact cmp_R _ _ | assumption) (by first | omega | exact bI_R _ | exact cmp_R _ _ | assumption) (fun c7 => ?_) (fun c7 => ?_)
      · exfalso; omega
      · refine Wp.aload_n rfl dX8_leads_10 ?_
        refine Wp.iload_n rfl dX8_leads_11 ?_
        refine Wp.callV (As := [_]) (ls0 := [_, _, _]) (bd := (0, 0)) (bd' := (0, 0)) dX8_leads_12 kmX8_currentAt lkX8_44 (by decide) (by decide) (Nat.le_of_ble_eq_true rfl) (by first | rfl | exact kd_b0 _ | exact kd_b1 _ | exact kd_b2 _ | exact kd_b3 _ | exact kd_b4 _ | exact kd_b5 _ | exact kd_b6 _) (by omega) rfl rfl (Nat.le_of_ble_eq_true rfl) rfl ?_
        refine ct_X8_currentAt hS (by omega) ?_
        show Wp _ _ _ (_ :: _) _ _ _
        refine Wp.astore (ls' := [_, _, _, _, _]) dX8_leads_15 (by decide) rfl ?_
        refine Wp.aload rfl dX8_leads_17 ?_
        refine Wp.ifnull (tgt := 42) dX8_leads_19 (by decide) (fun c19 => ?_) (fun o19 c19 => ?_)
        · refine Wp.iinc (ls' := [_, _, _, _, _]) rfl dX8_leads_42 (by decide) rfl ?_
          refine Wp.goto (tgt := 2) dX8_leads_45 (by decide) ?_
          refine ih (k + 1) _ _ (by omega) (by omega) (fun j hj => ?_)
          rcases Nat.lt_or_ge j k with hjk | hjk
          · exact e0 j hjk
          · have : j = k := by clear e0 ih; omega
            subst this
            first | exact fun q => cuA_n c19 ⟨⟨by omega, by omega⟩, q.1⟩ | (clear e0 ih; omega)
        · obtain ⟨ho, hz0, hz1, hday⟩ := cuA_s c19
          have ho' : o19 = 57 + 7 * k := ho
          subst ho'
          rw [c19]
          refine Wp.aload rfl dX8_leads_22 ?_
          refine Wp.gi (kz := 0) rfl dX8_leads_24 fkX8_47 (by first | rfl | exact kd_b0 _ | exact kd_b1 _ | exact kd_b2 _ | exact kd_b3 _ | exact kd_b4 _ | exact kd_b5 _ | exact kd_b6 _) (by omega) ?_
          refine Wp.iload_n rfl dX8_leads_27 ?_
          refine Wp.icmp_ne (tgt := 42) dX8_leads_28 (by decide) (by first | omega | exact bI_R _ | exact cmp_R _ _ | assumption) (by first | omega | exact bI_R _ | exact cmp_R _ _ | assumption) (fun c28 => ?_) (fun c28 => ?_)
          · refine Wp.iinc (ls' := [_, _, _, _, _]) rfl dX8_leads_42 (by decide) rfl ?_
            refine Wp.goto (tgt := 2) dX8_leads_45 (by decide) ?_
            refine ih (k + 1) _ _ (by omega) (by omega) (fun j hj => ?_)
            rcases Nat.lt_or_ge j k with hjk | hjk
            · exact e0 j hjk
            · have : j = k := by clear e0 ih; omega
              subst this
              first | exact fun q => cuA_n c19 ⟨⟨by omega, by omega⟩, q.1⟩ | (clear e0 ih; omega)
          · refine Wp.aload rfl dX8_leads_31 ?_
            refine Wp.gi (kz := 1) rfl dX8_leads_33 fkX8_50 (by first | rfl | exact kd_b0 _ | exact kd_b1 _ | exact kd_b2 _ | exact kd_b3 _ | exact kd_b4 _ | exact kd_b5 _ | exact kd_b6 _) (by omega) ?_
            refine Wp.iload_n rfl dX8_leads_36 ?_
            refine Wp.icmp_ne (tgt := 42) dX8_leads_37 (by decide) (by first | omega | exact bI_R _ | exact cmp_R _ _ | assumption) (by first | omega | exact bI_R _ | exact cmp_R _ _ | assumption) (fun c37 => ?_) (fun c37 => ?_)
            · refine Wp.iinc (ls' := [_, _, _, _, _]) rfl dX8_leads_42 (by decide) rfl ?_
              refine Wp.goto (tgt := 2) dX8_leads_45 (by decide) ?_
              refine ih (k + 1) _ _ (by omega) (by omega) (fun j hj => ?_)
              rcases Nat.lt_or_ge j k with hjk | hjk
              · exact e0 j hjk
              · have : j = k := by clear e0 ih; omega
                subst this
                first | exact fun q => cuA_n c19 ⟨⟨by omega, by omega⟩, q.1⟩ | (clear e0 ih; omega)
            · refine Wp.iconst dX8_leads_40 ?_
              refine Wp.zreturn dX8_leads_41 rfl (by first | omega | exact bI_01 _) ?_
              first | (exfalso; omega) | (exact qB_t hq ((ldB_iff hW).mpr ⟨k, by omega, hday, by omega, by omega⟩))
  refine Wp.iconst dX8_leads_0 ?_
  refine Wp.istore_n (ls' := [_, _, _, _, _]) dX8_leads_1 (by decide) rfl ?_
  exact lp (I 32 0).toNat 0 _ _ (by omega) (by omega) (fun j hj => by omega)
end

