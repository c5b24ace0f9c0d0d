/-! ===== the class: promises 16 to 19 ===== -/
section
variable {I J : Nat → Int → Int} {L K : Nat → Int → BitVec 64} {R : Nat → Int → Option Nat} {n k : Nat} {m : Mm} {Q : Option AV → Mm → Prop}
theorem wp_t {lk s mm c t e x : Int} {j : Nat} (hj : (j : Int) < I 36 e) (hs : s = 3 * e + j) (hx : x = wst I e j k) (h : hasW (sst I (I 32 10) e j) x) (hp : 0 ≤ I 38 s) : (k : Int) < I 38 s ∧ x = I 39 (6 * s + k) ∧ wpS I lk (I 32 10) s mm c t (min k (I 38 s).toNat) + wtU I (I 32 10) s t (ent I lk mm x c) (cntE I (ent I lk mm x c)) = wpS I lk (I 32 10) s mm c t (min (k + 1) (I 38 s).toNat) := by
  have hb := h.2.2
  have h00 := h.1
  unfold sst at hb
  rw [if_pos ⟨by omega, hj⟩, ← hs] at hb
  unfold wst at hx
  rw [← hs] at hx
  split at hx
  · rename_i h2
    have hk2 := h2.2.2
    refine ⟨hk2, hx, ?_⟩
    rw [show min k (I 38 s).toNat = k by omega, show min (k + 1) (I 38 s).toNat = k + 1 by omega]
    simp only [wpS]
    rw [← hx, if_pos hb]
  · omega
theorem wp_f {lk s mm c t e x : Int} {j : Nat} (hj : (j : Int) < I 36 e) (hs : s = 3 * e + j) (hx : x = wst I e j k) (hw : (k : Int) < I 38 s → 0 ≤ I 39 (6 * s + k) ∧ I 39 (6 * s + k) < 60) (h : ¬ hasW (sst I (I 32 10) e j) x) : wpS I lk (I 32 10) s mm c t (min k (I 38 s).toNat) = wpS I lk (I 32 10) s mm c t (min (k + 1) (I 38 s).toNat) := by
  by_cases hk : (k : Int) < I 38 s
  · rw [show min k (I 38 s).toNat = k by omega, show min (k + 1) (I 38 s).toNat = k + 1 by omega]
    simp only [wpS]
    unfold wst at hx
    rw [← hs, if_pos ⟨⟨by omega, hj⟩, by omega, hk⟩] at hx
    have := hw hk
    rw [if_neg (fun q => h ⟨by omega, by omega, by unfold sst; rw [if_pos ⟨by omega, hj⟩, ← hs, hx]; exact q⟩)]
    omega
  · rw [show min k (I 38 s).toNat = min (k + 1) (I 38 s).toNat by omega]
set_option maxHeartbeats 1000000 in
theorem ct_X10_ways {a w mm c t : Int} (hS : ShR I L R n) (ha : inR a) (hm : inR mm) (hc : inR c) (h0 : 0 ≤ w) (h1 : w < 60) (ht0 : 0 ≤ t) (ht1 : t < 60) (hq : Q (some (vi (wt I 255 a w mm c t))) (I, L, R, n)) : Wp mX10_ways 0 [some (vr (some 6)), some (vr (some 4)), some (vi a), some (vi w), some (vi mm), some (vi c), some (vi t), none, none, none, none, none, none, none] [] (I, L, R, n) (0, 0) Q := by
  have hn := hS.1
  have hW := hS.2.2.1
  have hA := hW.2.2.2.2.1
  have s4 := hS.2.2.2.2.2.1
  have hE := ent_lat hW (lk := 255) (a := a) (b := mm) h0
  have hB := lat_B I hW.1 255 a w mm
  have hN1 := hW.2.1
  have li : ∀ (kb : Nat) (j : Nat) (n0 : Int) (x13 : Option AV) (hkb : (kb : Int) < I 32 0 ∧ ent I 255 a w mm = 60 * kb + w) (hj : j < 3) (hn0 : 0 ≤ n0 ∧ n0 ≤ 1000) (hc' : ∀ (acc : Int) (x13 : Option AV), acc = n0 + (if (j : Int) < I 36 (ent I 255 a w mm) then wtX I 255 (I 32 10) (3 * ent I 255 a w mm + j) mm c t 60 else 0) → Wp mX10_ways 111 [some (vr (some 6)), some (vr (some 4)), some (vi a), some (vi w), some (vi mm), some (vi c), some (vi t), some (vr (some (57 + 7 * kb))), some (vi acc), some (vi j), some (vl (sst I (I 32 10) (ent I 255 a w mm) j)), none, some (vi 6), x13] [] (I, L, R, n) (0, 0) Q) , ∀ (tt k : Nat) (z : Int) (acc : Int) (x13 : Option AV), k + tt = 6 → z = k → acc = n0 + (if (j : Int) < I 36 (ent I 255 a w mm) then wpS I 255 (I 32 10) (3 * ent I 255 a w mm + j) mm c t (min k (I 38 (3 * ent I 255 a w mm + j)).toNat) else 0) → Wp mX10_ways 50 [some (vr (some 6)), some (vr (some 4)), some (vi a), some (vi w), some (vi mm), some (vi c), some (vi t), some (vr (some (57 + 7 * kb))), some (vi acc), some (vi j), some (vl (sst I (I 32 10) (ent I 255 a w mm) j)), none, some (vi z), x13] [] (I, L, R, n) (0, 0) Q := by
    intro kb j n0 x13 hkb hj hn0 hc'
    intro tt
    induction tt with
    | zero =>
      intro k z acc x13 hkt hz e0
      obtain rfl : k = 6 := by omega
      refine Wp.iload rfl dX10_ways_50 ?_
      refine Wp.bipush rfl dX10_ways_52 ?_
      refine Wp.icmp_ge (tgt := 111) dX10_ways_54 (by decide) (by first | omega | exact bI_R _ | exact cmp_R _ _ | assumption) (by first | omega | exact bI_R _ | exact cmp_R _ _ | assumption) (fun c54 => ?_) (fun c54 => ?_)
      · subst hz
        refine hc' _ _ (e0.trans ?_)
        by_cases hj2 : (j : Int) < I 36 (ent I 255 a w mm)
        · rw [if_pos hj2, if_pos hj2]
          rw [hkb.2] at hj2 ⊢
          have hs := hW.s (z := kb) (by omega) hkb.1 h0 h1 (s := j) (by omega) hj2
          rw [show min 6 (I 38 (3 * (60 * kb + w) + j)).toNat = (I 38 (3 * (60 * kb + w) + j)).toNat by omega, wpS_X hW (by omega) hkb.1 h0 h1 (by omega) hj2]
        · rw [if_neg hj2, if_neg hj2]
      · exfalso; omega
    | succ tt ih =>
      intro k z acc x13 hkt hz e0
      subst hz
      subst e0
      have hBB := hS.2.2.2.2.2.2 kb hkb.1
      have hn7 := hBB.2.2.1
      have hEO : EOk I (ent I 255 a w mm) := (hW.entOk h0 h1).resolve_left (by omega)
      have hsz : (j : Int) < I 36 (ent I 255 a w mm) → 0 ≤ I 38 (3 * ent I 255 a w mm + j) := fun h => by have := (hEO.2 j (by omega) h).1; omega
      have hwd : (j : Int) < I 36 (ent I 255 a w mm) → (k : Int) < I 38 (3 * ent I 255 a w mm + j) → 0 ≤ I 39 (6 * (3 * ent I 255 a w mm + j) + k) ∧ I 39 (6 * (3 * ent I 255 a w mm + j) + k) < 60 := fun h h2 => by have := (hEO.2 j (by omega) h).2 k (by omega) h2; omega
      have hwR : -1 ≤ wst I (ent I 255 a w mm) j k ∧ wst I (ent I 255 a w mm) j k < 60 := by
        unfold wst
        split
        · rename_i hh; have := hwd hh.1.2 hh.2.2; omega
        · omega
      have hfB : -1 ≤ fst' I (ent I 255 a w mm) j ∧ fst' I (ent I 255 a w mm) j ≤ 5 := by
        unfold fst'
        split
        · rename_i hh; have := (hEO.2 j hh.1 hh.2).1; omega
        · omega
      have hjs : hasW (sst I (I 32 10) (ent I 255 a w mm) j) (wst I (ent I 255 a w mm) j k) → (j : Int) < I 36 (ent I 255 a w mm) := fun h => by
        have hb := h.2.2
        unfold sst at hb
        rw [ite_bit] at hb
        exact hb.1.2
      refine Wp.iload rfl dX10_ways_50 ?_
      refine Wp.bipush rfl dX10_ways_52 ?_
      refine Wp.icmp_ge (tgt := 111) dX10_ways_54 (by decide) (by first | omega | exact bI_R _ | exact cmp_R _ _ | assumption) (by first | omega | exact bI_R _ | exact cmp_R _ _ | assumption) (fun c54 => ?_) (fun c54 => ?_)
      · exfalso; omega
      · refine Wp.aload rfl dX10_ways_57 ?_
        refine Wp.iload_n rfl dX10_ways_59 ?_
        refine Wp.iload rfl dX10_ways_60 ?_
        refine Wp.iload rfl dX10_ways_62 ?_
        refine Wp.callV (As := [_, _, _]) (ls0 := [_, _, _, _, _]) (bd := (0, 0)) (bd' := (0, 0)) dX10_ways_64 kmX0_wordAt lkX10_53 (by decide) (by decide) (Nat.le_of_ble_eq_true rfl) (by first | rfl | exact kd_b0 _ | exact kd_b1 _ | exact kd_b2 _ | exact kd_b3 _ | exact kd_b4 _ | exact kd_b5 _ | exact kd_b6 _) (by omega) rfl rfl (Nat.le_of_ble_eq_true rfl) rfl ?_
        refine ct_wst hBB hW hkb.1 h0 h1 (by omega) (by omega) ?_
        rw [← hkb.2]
        show Wp _ _ _ (_ :: _) _ _ _
        refine Wp.istore (ls' := [_, _, _, _, _, _, _, _, _, _, _, _, _, _]) dX10_ways_67 (by decide) rfl ?_
        refine Wp.lload rfl dX10_ways_69 ?_
        refine Wp.iload rfl dX10_ways_71 ?_
        refine Wp.callS (As := [_, _]) (ls0 := [_, _, _]) (bd := (0, 0)) (bd' := (0, 0)) dX10_ways_73 kmX11_has lkX10_56 (by decide) (by decide) (Nat.le_of_ble_eq_true rfl) rfl rfl (Nat.le_of_ble_eq_true rfl) rfl ?_
        refine ct_X11_has (by omega) ?_
        show Wp _ _ _ (_ :: _) _ _ _
        refine Wp.if_eqB (tgt := 105) dX10_ways_76 (by decide) (fun c76 => ?_) (fun c76 => ?_)
        · refine Wp.iinc (ls' := [_, _, _, _, _, _, _, _, _, _, _, _, _, _]) rfl dX10_ways_105 (by decide) rfl ?_
          refine Wp.goto (tgt := 50) dX10_ways_108 (by decide) ?_
          first | exact ih (k + 1) _ _ _ (by omega) (by omega) (by rw [if_pos (hjs c76), if_pos (hjs c76)]; have := hwt.2.2; omega) | (refine ih (k + 1) _ _ _ (by omega) (by omega) ?_; split; (rename_i hj2; have := wp_f (lk := 255) (mm := mm) (c := c) (t := t) hj2 rfl rfl (hwd hj2) c76; omega); rfl)
        · refine Wp.iload rfl dX10_ways_79 ?_
          refine Wp.aload_n rfl dX10_ways_81 ?_
          refine Wp.aload_n rfl dX10_ways_82 ?_
          refine Wp.iload rfl dX10_ways_83 ?_
          refine Wp.iload rfl dX10_ways_85 ?_
          refine Wp.iload rfl dX10_ways_87 ?_
          refine Wp.iload rfl dX10_ways_89 ?_
          refine Wp.aload rfl dX10_ways_91 ?_
          refine Wp.iload_n rfl dX10_ways_93 ?_
          refine Wp.iload rfl dX10_ways_94 ?_
          refine Wp.callV (As := [_, _]) (ls0 := [_, _, _, _]) (bd := (0, 0)) (bd' := (0, 0)) dX10_ways_96 kmX0_fieldOf lkX10_60 (by decide) (by decide) (Nat.le_of_ble_eq_true rfl) (by first | rfl | exact kd_b0 _ | exact kd_b1 _ | exact kd_b2 _ | exact kd_b3 _ | exact kd_b4 _ | exact kd_b5 _ | exact kd_b6 _) (by omega) rfl rfl (Nat.le_of_ble_eq_true rfl) rfl ?_
          refine ct_fst hBB hW hkb.1 h0 h1 (by omega) ?_
          rw [← hkb.2]
          show Wp _ _ _ (_ :: _) _ _ _
          refine Wp.callV (As := [_, _, _, _, _, _]) (ls0 := [_, _, _, _, _, _, _, _, _, _, _, _]) (bd := (0, 0)) (bd' := (0, 0)) dX10_ways_99 kmX10_waysOn lkX10_64 (by decide) (by decide) (Nat.le_of_ble_eq_true rfl) (by first | rfl | exact kd_b0 _ | exact kd_b1 _ | exact kd_b2 _ | exact kd_b3 _ | exact kd_b4 _ | exact kd_b5 _ | exact kd_b6 _) (by omega) rfl rfl (Nat.le_of_ble_eq_true rfl) rfl ?_
          refine ct_X10_waysOn (s := 3 * ent I 255 a w mm + j) hS (by omega) (by omega) (by omega) (by omega) (by omega) (by omega) (by unfold fst'; rw [if_pos ⟨by omega, hjs c76⟩]) (by omega) (by omega) ?_
          have hwt := wp_t (lk := 255) (mm := mm) (c := c) (t := t) (hjs c76) rfl rfl c76 (hsz (hjs c76))
          show Wp _ _ _ (_ :: _) _ _ _
          refine Wp.iadd dX10_ways_102 ?_
          refine Wp.istore (ls' := [_, _, _, _, _, _, _, _, _, _, _, _, _, _]) dX10_ways_103 (by decide) rfl ?_
          refine Wp.iinc (ls' := [_, _, _, _, _, _, _, _, _, _, _, _, _, _]) rfl dX10_ways_105 (by decide) rfl ?_
          refine Wp.goto (tgt := 50) dX10_ways_108 (by decide) ?_
          first | exact ih (k + 1) _ _ _ (by omega) (by omega) (by rw [if_pos (hjs c76), if_pos (hjs c76)]; have := hwt.2.2; omega) | (refine ih (k + 1) _ _ _ (by omega) (by omega) ?_; split; (rename_i hj2; have := wp_f (lk := 255) (mm := mm) (c := c) (t := t) hj2 rfl rfl (hwd hj2) c76; omega); rfl)
  have lp : ∀ (kb : Nat) (hkb : (kb : Int) < I 32 0 ∧ ent I 255 a w mm = 60 * kb + w) , ∀ (tt k : Nat) (z : Int) (acc : Int) (x10 : Option AV) (x12 : Option AV) (x13 : Option AV), k + tt = 3 → z = k → acc = wtS I 255 (I 32 10) (ent I 255 a w mm) mm c t (min k (cntE I (ent I 255 a w mm))) → Wp mX10_ways 27 [some (vr (some 6)), some (vr (some 4)), some (vi a), some (vi w), some (vi mm), some (vi c), some (vi t), some (vr (some (57 + 7 * kb))), some (vi acc), some (vi z), x10, none, x12, x13] [] (I, L, R, n) (0, 0) Q := by
    intro kb hkb
    intro tt
    induction tt with
    | zero =>
      intro k z acc x10 x12 x13 hkt hz e0
      obtain rfl : k = 3 := by omega
      have hc3 := hW.cnt 255 a mm h0 h1
      refine Wp.iload rfl dX10_ways_27 ?_
      refine Wp.iconst dX10_ways_29 ?_
      refine Wp.icmp_ge (tgt := 117) dX10_ways_30 (by decide) (by first | omega | exact bI_R _ | exact cmp_R _ _ | assumption) (by first | omega | exact bI_R _ | exact cmp_R _ _ | assumption) (fun c30 => ?_) (fun c30 => ?_)
      · refine Wp.iload rfl dX10_ways_117 ?_
        refine Wp.ireturn dX10_ways_119 rfl ?_
        first | (exfalso; omega) | (rw [show min 3 (cntE I (ent I 255 a w mm)) = cntE I (ent I 255 a w mm) by omega] at e0; exact qI hq e0)
      · exfalso; omega
    | succ tt ih =>
      intro k z acc x10 x12 x13 hkt hz e0
      subst hz
      subst e0
      have hBB := hS.2.2.2.2.2.2 kb hkb.1
      have hn7 := hBB.2.2.1
      have hEO : EOk I (ent I 255 a w mm) := (hW.entOk h0 h1).resolve_left (by omega)
      have hEO1 := hEO.1
      have hcn : cntE I (ent I 255 a w mm) = (I 36 (ent I 255 a w mm)).toNat := if_neg (by omega)
      have hB0 := wtS_B I 255 (I 32 10) (ent I 255 a w mm) mm c t (fun k hk => hW.cnt 255 mm c (by omega) (by omega)) (min k (cntE I (ent I 255 a w mm)))
      have h111 : ∀ (acc : Int) (x13 : Option AV), acc = wtS I 255 (I 32 10) (ent I 255 a w mm) mm c t (min k (cntE I (ent I 255 a w mm))) + (if (k : Int) < I 36 (ent I 255 a w mm) then wtX I 255 (I 32 10) (3 * ent I 255 a w mm + k) mm c t 60 else 0) → Wp mX10_ways 111 [some (vr (some 6)), some (vr (some 4)), some (vi a), some (vi w), some (vi mm), some (vi c), some (vi t), some (vr (some (57 + 7 * kb))), some (vi acc), some (vi k), some (vl (sst I (I 32 10) (ent I 255 a w mm) k)), none, some (vi 6), x13] [] (I, L, R, n) (0, 0) Q := by
        intro acc x13 hacc
        refine Wp.iinc (ls' := [_, _, _, _, _, _, _, _, _, _, _, _, _, _]) rfl dX10_ways_111 (by decide) rfl ?_
        refine Wp.goto (tgt := 27) dX10_ways_114 (by decide) ?_
        refine ih (k + 1) _ _ _ _ _ (by omega) (by omega) (hacc.trans ?_)
        rw [hcn]
        by_cases hk : (k : Int) < I 36 (ent I 255 a w mm)
        · rw [if_pos hk, show min k (I 36 (ent I 255 a w mm)).toNat = k by omega, show min (k + 1) (I 36 (ent I 255 a w mm)).toNat = k + 1 by omega]; rfl
        · rw [if_neg hk, show min k (I 36 (ent I 255 a w mm)).toNat = min (k + 1) (I 36 (ent I 255 a w mm)).toNat by omega]; omega
      refine Wp.iload rfl dX10_ways_27 ?_
      refine Wp.iconst dX10_ways_29 ?_
      refine Wp.icmp_ge (tgt := 117) dX10_ways_30 (by decide) (by first | omega | exact bI_R _ | exact cmp_R _ _ | assumption) (by first | omega | exact bI_R _ | exact cmp_R _ _ | assumption) (fun c30 => ?_) (fun c30 => ?_)
      · exfalso; omega
      · refine Wp.aload rfl dX10_ways_33 ?_
        refine Wp.iload_n rfl dX10_ways_35 ?_
        refine Wp.iload rfl dX10_ways_36 ?_
        refine Wp.aload_n rfl dX10_ways_38 ?_
        refine Wp.gi (kz := 4) rfl dX10_ways_39 fkX10_43 (by first | rfl | exact kd_b0 _ | exact kd_b1 _ | exact kd_b2 _ | exact kd_b3 _ | exact kd_b4 _ | exact kd_b5 _ | exact kd_b6 _) (by omega) ?_
        refine Wp.callV (As := [_, _, _]) (ls0 := [_, _, _, _, _]) (bd := (0, 0)) (bd' := (0, 0)) dX10_ways_42 kmX0_senseSet lkX10_47 (by decide) (by decide) (Nat.le_of_ble_eq_true rfl) (by first | rfl | exact kd_b0 _ | exact kd_b1 _ | exact kd_b2 _ | exact kd_b3 _ | exact kd_b4 _ | exact kd_b5 _ | exact kd_b6 _) (by omega) rfl rfl (Nat.le_of_ble_eq_true rfl) rfl ?_
        refine ct_sst hBB hW hkb.1 h0 h1 (by omega) (by omega) ?_
        rw [← hkb.2, s4]
        show Wp _ _ _ (_ :: _) _ _ _
        refine Wp.lstore (ls' := [_, _, _, _, _, _, _, _, _, _, _, _, _, _]) dX10_ways_45 (by decide) rfl ?_
        refine Wp.iconst dX10_ways_47 ?_
        refine Wp.istore (ls' := [_, _, _, _, _, _, _, _, _, _, _, _, _, _]) dX10_ways_48 (by decide) rfl ?_
        exact li kb k _ none hkb (by omega) (by omega) h111 6 0 _ _ _ (by omega) (by omega) (by rw [show min 0 (I 38 (3 * ent I 255 a w mm + k)).toNat = 0 by omega]; simp [wpS])
  refine Wp.aload_n rfl dX10_ways_0 ?_
  refine Wp.aload_n rfl dX10_ways_1 ?_
  refine Wp.iload_n rfl dX10_ways_2 ?_
  refine Wp.iload_n rfl dX10_ways_3 ?_
  refine Wp.iload rfl dX10_ways_4 ?_
  refine Wp.callV (As := [_, _, _]) (ls0 := [_, _, _, _, _, _, _]) (bd := (0, 0)) (bd' := (0, 0)) dX10_ways_6 kmX8_latest lkX10_33 (by decide) (by decide) (Nat.le_of_ble_eq_true rfl) (by first | rfl | exact kd_b0 _ | exact kd_b1 _ | exact kd_b2 _ | exact kd_b3 _ | exact kd_b4 _ | exact kd_b5 _ | exact kd_b6 _) (by omega) rfl rfl (Nat.le_of_ble_eq_true rfl) rfl ?_
  refine ct_X8_latest hS (by omega) (by omega) (by omega) (by omega) ?_
  show Wp _ _ _ (_ :: _) _ _ _
  refine Wp.callV (As := [_]) (ls0 := [_, _]) (bd := (0, 0)) (bd' := (0, 0)) dX10_ways_9 kmX8_bookAt lkX10_39 (by decide) (by decide) (Nat.le_of_ble_eq_true rfl) (by first | rfl | exact kd_b0 _ | exact kd_b1 _ | exact kd_b2 _ | exact kd_b3 _ | exact kd_b4 _ | exact kd_b5 _ | exact kd_b6 _) (by omega) rfl rfl (Nat.le_of_ble_eq_true rfl) rfl ?_
  refine ct_X8_bookAt hS (by omega) ?_
  show Wp _ _ _ (_ :: _) _ _ _
  refine Wp.astore (ls' := [_, _, _, _, _, _, _, _, _, _, _, _, _, _]) dX10_ways_12 (by decide) rfl ?_
  refine Wp.aload rfl dX10_ways_14 ?_
  refine Wp.ifnonnull (tgt := 21) dX10_ways_16 (by decide) (fun o16 c16 => ?_) (fun c16 => ?_)
  · obtain ⟨ho, hz0, hz1⟩ := bkA_s c16
    subst ho
    rw [c16]
    refine Wp.iconst dX10_ways_21 ?_
    refine Wp.istore (ls' := [_, _, _, _, _, _, _, _, _, _, _, _, _, _]) dX10_ways_22 (by decide) rfl ?_
    refine Wp.iconst dX10_ways_24 ?_
    refine Wp.istore (ls' := [_, _, _, _, _, _, _, _, _, _, _, _, _, _]) dX10_ways_25 (by decide) rfl ?_
    exact lp (lat I 255 a w mm).toNat ⟨by omega, by omega⟩ 3 0 _ _ _ _ _ (by omega) (by omega) (by rw [show min 0 (cntE I (ent I 255 a w mm)) = 0 by omega]; rfl)
  · refine Wp.iconst dX10_ways_19 ?_
    refine Wp.ireturn dX10_ways_20 rfl ?_
    first | (exfalso; omega) | (exact qI hq (by have := bkA_n c16; unfold wt; rw [show cntE I (ent I 255 a w mm) = 0 from if_pos (by omega)]; rfl))
theorem ct_X10_measure {a w mm c t : Int} (hS : ShR I L R n) (ha : inR a) (hm : inR mm) (hc : inR c) (h0 : 0 ≤ w) (h1 : w < 60) (ht0 : 0 ≤ t) (ht1 : t < 60) (hq : Q none (up (up I 6 0 (upr I 255 a w mm c t)) 6 1 (lwr I 255 a w mm c t), L, R, n)) : Wp mX10_measure 0 [some (vr (some 6)), some (vr (some 4)), some (vi a), some (vi w), some (vi mm), some (vi c), some (vi t), none, none, none, none, none] [] (I, L, R, n) (0, 0) Q := by
  have hn := hS.1
  have hW := hS.2.2.1
  have g1 := pc_64 _ (gv60 hW 255 a mm h0 h1)
  have g2 := pc_64 _ (gv60 hW 255 c mm ht0 ht1)
  have g3 : pcN (gv I 255 a w mm &&& gv I 255 c t mm) 64 = pcN (gv I 255 a w mm &&& gv I 255 c t mm) 60 := pc_64 _ (fun i hi => by rw [BitVec.getLsbD_and, gv60 hW 255 a mm h0 h1 i hi]; rfl)
  have b1 := pcN_B (gv I 255 a w mm) 60
  have b2 := pcN_B (gv I 255 c t mm) 60
  have hl : max (pcN (gv I 255 a w mm) 60 + pcN (gv I 255 c t mm) 60) 1 = lwr I 255 a w mm c t := by unfold lwr; split <;> omega
  refine Wp.aload_n rfl dX10_measure_0 ?_
  refine Wp.iload_n rfl dX10_measure_1 ?_
  refine Wp.iload_n rfl dX10_measure_2 ?_
  refine Wp.iload rfl dX10_measure_3 ?_
  refine Wp.callV (As := [_, _, _]) (ls0 := [_, _, _, _, _]) (bd := (0, 0)) (bd' := (0, 0)) dX10_measure_5 kmX8_given lkX10_68 (by decide) (by decide) (Nat.le_of_ble_eq_true rfl) (by first | rfl | exact kd_b0 _ | exact kd_b1 _ | exact kd_b2 _ | exact kd_b3 _ | exact kd_b4 _ | exact kd_b5 _ | exact kd_b6 _) (by omega) rfl rfl (Nat.le_of_ble_eq_true rfl) rfl ?_
  refine ct_X8_given hS (by omega) (by omega) (by omega) (by omega) ?_
  show Wp _ _ _ (_ :: _) _ _ _
  refine Wp.lstore (ls' := [_, _, _, _, _, _, _, _, _, _, _, _]) dX10_measure_8 (by decide) rfl ?_
  refine Wp.aload_n rfl dX10_measure_10 ?_
  refine Wp.iload rfl dX10_measure_11 ?_
  refine Wp.iload rfl dX10_measure_13 ?_
  refine Wp.iload rfl dX10_measure_15 ?_
  refine Wp.callV (As := [_, _, _]) (ls0 := [_, _, _, _, _]) (bd := (0, 0)) (bd' := (0, 0)) dX10_measure_17 kmX8_given lkX10_68 (by decide) (by decide) (Nat.le_of_ble_eq_true rfl) (by first | rfl | exact kd_b0 _ | exact kd_b1 _ | exact kd_b2 _ | exact kd_b3 _ | exact kd_b4 _ | exact kd_b5 _ | exact kd_b6 _) (by omega) rfl rfl (Nat.le_of_ble_eq_true rfl) rfl ?_
  refine ct_X8_given hS (by omega) (by omega) (by omega) (by omega) ?_
  show Wp _ _ _ (_ :: _) _ _ _
  refine Wp.lstore (ls' := [_, _, _, _, _, _, _, _, _, _, _, _]) dX10_measure_20 (by decide) rfl ?_
  refine Wp.lload rfl dX10_measure_22 ?_
  refine Wp.callS (As := [_]) (ls0 := [_, _]) (bd := (0, 0)) (bd' := (0, 0)) dX10_measure_24 kmJ13_bitCount_95d88 lkX10_72 (by decide) (by decide) (Nat.le_of_ble_eq_true rfl) rfl rfl (Nat.le_of_ble_eq_true rfl) rfl ?_
  refine ct_J13 ?_
  show Wp _ _ _ (_ :: _) _ _ _
  refine Wp.lload rfl dX10_measure_27 ?_
  refine Wp.callS (As := [_]) (ls0 := [_, _]) (bd := (0, 0)) (bd' := (0, 0)) dX10_measure_29 kmJ13_bitCount_95d88 lkX10_72 (by decide) (by decide) (Nat.le_of_ble_eq_true rfl) rfl rfl (Nat.le_of_ble_eq_true rfl) rfl ?_
  refine ct_J13 ?_
  show Wp _ _ _ (_ :: _) _ _ _
  rw [g1, g2]
  refine Wp.iadd dX10_measure_32 ?_
  refine Wp.istore (ls' := [_, _, _, _, _, _, _, _, _, _, _, _]) dX10_measure_33 (by decide) rfl ?_
  refine Wp.aload_n rfl dX10_measure_35 ?_
  refine Wp.iconst dX10_measure_36 ?_
  refine Wp.lload rfl dX10_measure_37 ?_
  refine Wp.lload rfl dX10_measure_39 ?_
  refine Wp.land dX10_measure_41 ?_
  refine Wp.callS (As := [_]) (ls0 := [_, _]) (bd := (0, 0)) (bd' := (0, 0)) dX10_measure_42 kmJ13_bitCount_95d88 lkX10_72 (by decide) (by decide) (Nat.le_of_ble_eq_true rfl) rfl rfl (Nat.le_of_ble_eq_true rfl) rfl ?_
  refine ct_J13 ?_
  show Wp _ _ _ (_ :: _) _ _ _
  rw [g3]
  refine Wp.imul dX10_measure_45 ?_
  refine Wp.pi (kz := 0) rfl dX10_measure_46 fkX10_9 (Or.inl rfl) (Or.inl rfl) (by first | rfl | exact kd_b0 _ | exact kd_b1 _ | exact kd_b2 _ | exact kd_b3 _ | exact kd_b4 _ | exact kd_b5 _ | exact kd_b6 _) (by omega) ?_
  refine Wp.aload_n rfl dX10_measure_49 ?_
  refine Wp.iload rfl dX10_measure_50 ?_
  refine Wp.iconst dX10_measure_52 ?_
  refine Wp.mM true dX10_measure_53 lkX10_78 ka_math (by decide) (Nat.le_of_ble_eq_true rfl) (by omega) (by omega) ?_
  rw [hl]
  refine Wp.pi (kz := 1) rfl dX10_measure_56 fkX10_15 (Or.inl rfl) (Or.inl rfl) (by first | rfl | exact kd_b0 _ | exact kd_b1 _ | exact kd_b2 _ | exact kd_b3 _ | exact kd_b4 _ | exact kd_b5 _ | exact kd_b6 _) (by omega) ?_
  refine Wp.vreturn dX10_measure_59 rfl ?_
  first | (exfalso; omega) | (exact hq)
theorem ct_X10_begin (hn : 57 ≤ n) (hq : Q none (up (up (up (up (up I 6 2 0) 6 3 1) 6 4 0) 6 5 (-1)) 6 6 (-1), L, R, n)) : Wp mX10_begin 0 [some (vr (some 6))] [] (I, L, R, n) (0, 0) Q := by
  refine Wp.aload_n rfl dX10_begin_0 ?_
  refine Wp.iconst dX10_begin_1 ?_
  refine Wp.pi (kz := 2) rfl dX10_begin_2 fkX10_18 (Or.inl rfl) (Or.inl rfl) (by first | rfl | exact kd_b0 _ | exact kd_b1 _ | exact kd_b2 _ | exact kd_b3 _ | exact kd_b4 _ | exact kd_b5 _ | exact kd_b6 _) (by omega) ?_
  refine Wp.aload_n rfl dX10_begin_5 ?_
  refine Wp.iconst dX10_begin_6 ?_
  refine Wp.pi (kz := 3) rfl dX10_begin_7 fkX10_21 (Or.inl rfl) (Or.inl rfl) (by first | rfl | exact kd_b0 _ | exact kd_b1 _ | exact kd_b2 _ | exact kd_b3 _ | exact kd_b4 _ | exact kd_b5 _ | exact kd_b6 _) (by omega) ?_
  refine Wp.aload_n rfl dX10_begin_10 ?_
  refine Wp.iconst dX10_begin_11 ?_
  refine Wp.pi (kz := 4) rfl dX10_begin_12 fkX10_24 (Or.inl rfl) (Or.inl rfl) (by first | rfl | exact kd_b0 _ | exact kd_b1 _ | exact kd_b2 _ | exact kd_b3 _ | exact kd_b4 _ | exact kd_b5 _ | exact kd_b6 _) (by omega) ?_
  refine Wp.aload_n rfl dX10_begin_15 ?_
  refine Wp.iconst dX10_begin_16 ?_
  refine Wp.pi (kz := 5) rfl dX10_begin_17 fkX10_27 (Or.inl rfl) (Or.inl rfl) (by first | rfl | exact kd_b0 _ | exact kd_b1 _ | exact kd_b2 _ | exact kd_b3 _ | exact kd_b4 _ | exact kd_b5 _ | exact kd_b6 _) (by omega) ?_
  refine Wp.aload_n rfl dX10_begin_20 ?_
  refine Wp.iconst dX10_begin_21 ?_
  refine Wp.pi (kz := 6) rfl dX10_begin_22 fkX10_30 (Or.inl rfl) (Or.inl rfl) (by first | rfl | exact kd_b0 _ | exact kd_b1 _ | exact kd_b2 _ | exact kd_b3 _ | exact kd_b4 _ | exact kd_b5 _ | exact kd_b6 _) (by omega) ?_
  refine Wp.vreturn dX10_begin_25 rfl ?_
  first | (exfalso; omega) | (exact hq)
abbrev btI (u l w u0 l0 w0 x0 : Int) : Prop := x0 = -1 ∨ u0 * l < u * l0 ∨ (u * l0 = u0 * l ∧ w0 < w)
theorem ct_X10_isBetter {w : Int} (hn : 57 ≤ n) (h0 : 0 ≤ I 6 0 ∧ I 6 0 ≤ 120) (h1 : 0 ≤ I 6 1 ∧ I 6 1 ≤ 120) (h2 : 0 ≤ I 6 2 ∧ I 6 2 ≤ 120) (h3 : 0 ≤ I 6 3 ∧ I 6 3 ≤ 120) (h4 : inR (I 6 4)) (h5 : inR (I 6 5)) (hw : inR w) (hq : Q (some (vi (bI (btI (I 6 0) (I 6 1) w (I 6 2) (I 6 3) (I 6 4) (I 6 5))))) (I, L, R, n)) : Wp mX10_isBetter 0 [some (vr (some 6)), some (vi w), none, none] [] (I, L, R, n) (0, 0) Q := by
  have p1 := prod_R h0.1 h0.2 h3.1 h3.2
  have p2 := prod_R h2.1 h2.2 h1.1 h1.2
  unfold btI at hq
  refine Wp.aload_n rfl dX10_isBetter_0 ?_
  refine Wp.gi (kz := 0) rfl dX10_isBetter_1 fkX10_9 (by first | rfl | exact kd_b0 _ | exact kd_b1 _ | exact kd_b2 _ | exact kd_b3 _ | exact kd_b4 _ | exact kd_b5 _ | exact kd_b6 _) (by omega) ?_
  refine Wp.aload_n rfl dX10_isBetter_4 ?_
  refine Wp.gi (kz := 3) rfl dX10_isBetter_5 fkX10_21 (by first | rfl | exact kd_b0 _ | exact kd_b1 _ | exact kd_b2 _ | exact kd_b3 _ | exact kd_b4 _ | exact kd_b5 _ | exact kd_b6 _) (by omega) ?_
  refine Wp.imul dX10_isBetter_8 ?_
  refine Wp.istore_n (ls' := [_, _, _, _]) dX10_isBetter_9 (by decide) rfl ?_
  refine Wp.aload_n rfl dX10_isBetter_10 ?_
  refine Wp.gi (kz := 2) rfl dX10_isBetter_11 fkX10_18 (by first | rfl | exact kd_b0 _ | exact kd_b1 _ | exact kd_b2 _ | exact kd_b3 _ | exact kd_b4 _ | exact kd_b5 _ | exact kd_b6 _) (by omega) ?_
  refine Wp.aload_n rfl dX10_isBetter_14 ?_
  refine Wp.gi (kz := 1) rfl dX10_isBetter_15 fkX10_15 (by first | rfl | exact kd_b0 _ | exact kd_b1 _ | exact kd_b2 _ | exact kd_b3 _ | exact kd_b4 _ | exact kd_b5 _ | exact kd_b6 _) (by omega) ?_
  refine Wp.imul dX10_isBetter_18 ?_
  refine Wp.istore_n (ls' := [_, _, _, _]) dX10_isBetter_19 (by decide) rfl ?_
  refine Wp.aload_n rfl dX10_isBetter_20 ?_
  refine Wp.gi (kz := 5) rfl dX10_isBetter_21 fkX10_27 (by first | rfl | exact kd_b0 _ | exact kd_b1 _ | exact kd_b2 _ | exact kd_b3 _ | exact kd_b4 _ | exact kd_b5 _ | exact kd_b6 _) (by omega) ?_
  refine Wp.iconst dX10_isBetter_24 ?_
  refine Wp.icmp_eq (tgt := 46) dX10_isBetter_25 (by decide) (by first | omega | exact bI_R _ | exact cmp_R _ _ | assumption) (by first | omega | exact bI_R _ | exact cmp_R _ _ | assumption) (fun c25 => ?_) (fun c25 => ?_)
  · refine Wp.iconst dX10_isBetter_46 ?_
    refine Wp.goto (tgt := 51) dX10_isBetter_47 (by decide) ?_
    refine Wp.zreturn dX10_isBetter_51 rfl (by first | omega | exact bI_01 _) ?_
    first | (exfalso; omega) | (first | exact qB_t hq (by omega) | exact qB_f hq (by omega))
  · refine Wp.iload_n rfl dX10_isBetter_28 ?_
    refine Wp.iload_n rfl dX10_isBetter_29 ?_
    refine Wp.icmp_gt (tgt := 46) dX10_isBetter_30 (by decide) (by first | omega | exact bI_R _ | exact cmp_R _ _ | assumption) (by first | omega | exact bI_R _ | exact cmp_R _ _ | assumption) (fun c30 => ?_) (fun c30 => ?_)
    · refine Wp.iconst dX10_isBetter_46 ?_
      refine Wp.goto (tgt := 51) dX10_isBetter_47 (by decide) ?_
      refine Wp.zreturn dX10_isBetter_51 rfl (by first | omega | exact bI_01 _) ?_
      first | (exfalso; omega) | (first | exact qB_t hq (by omega) | exact qB_f hq (by omega))
    · refine Wp.iload_n rfl dX10_isBetter_33 ?_
      refine Wp.iload_n rfl dX10_isBetter_34 ?_
      refine Wp.icmp_ne (tgt := 50) dX10_isBetter_35 (by decide) (by first | omega | exact bI_R _ | exact cmp_R _ _ | assumption) (by first | omega | exact bI_R _ | exact cmp_R _ _ | assumption) (fun c35 => ?_) (fun c35 => ?_)
      · refine Wp.iconst dX10_isBetter_50 ?_
        refine Wp.zreturn dX10_isBetter_51 rfl (by first | omega | exact bI_01 _) ?_
        first | (exfalso; omega) | (first | exact qB_t hq (by omega) | exact qB_f hq (by omega))
      · refine Wp.iload_n rfl dX10_isBetter_38 ?_
        refine Wp.aload_n rfl dX10_isBetter_39 ?_
        refine Wp.gi (kz := 4) rfl dX10_isBetter_40 fkX10_24 (by first | rfl | exact kd_b0 _ | exact kd_b1 _ | exact kd_b2 _ | exact kd_b3 _ | exact kd_b4 _ | exact kd_b5 _ | exact kd_b6 _) (by omega) ?_
        refine Wp.icmp_le (tgt := 50) dX10_isBetter_43 (by decide) (by first | omega | exact bI_R _ | exact cmp_R _ _ | assumption) (by first | omega | exact bI_R _ | exact cmp_R _ _ | assumption) (fun c43 => ?_) (fun c43 => ?_)
        · refine Wp.iconst dX10_isBetter_50 ?_
          refine Wp.zreturn dX10_isBetter_51 rfl (by first | omega | exact bI_01 _) ?_
          first | (exfalso; omega) | (first | exact qB_t hq (by omega) | exact qB_f hq (by omega))
        · refine Wp.iconst dX10_isBetter_46 ?_
          refine Wp.goto (tgt := 51) dX10_isBetter_47 (by decide) ?_
          refine Wp.zreturn dX10_isBetter_51 rfl (by first | omega | exact bI_01 _) ?_
          first | (exfalso; omega) | (first | exact qB_t hq (by omega) | exact qB_f hq (by omega))
/-- the best so far: tongue; word, upper, lower, weight -/
def sekN (I : Nat → Int → Int) (lk a w mm c : Int) (s : Int × BS) : Nat → Int × BS
  | 0 => s
  | k + 1 => if 0 < wt I lk a w mm c k ∧ ((sekN I lk a w mm c s k).2.1 < 0 ∨ (sekN I lk a w mm c s k).2.2.1 * lwr I lk a w mm c k < upr I lk a w mm c k * (sekN I lk a w mm c s k).2.2.2.1 ∨ ((sekN I lk a w mm c s k).2.2.1 * lwr I lk a w mm c k = upr I lk a w mm c k * (sekN I lk a w mm c s k).2.2.2.1 ∧ (sekN I lk a w mm c s k).2.2.2.2 < wt I lk a w mm c k)) then (mm, (k, upr I lk a w mm c k, lwr I lk a w mm c k, wt I lk a w mm c k)) else sekN I lk a w mm c s k
def tSt (J : Nat → Int → Int) (s : Int × BS) : Prop := J 6 2 = s.2.2.1 ∧ J 6 3 = s.2.2.2.1 ∧ J 6 4 = s.2.2.2.2 ∧ J 6 5 = s.2.1 ∧ J 6 6 = s.1
theorem wtU_0 {ag s t o : Int} : ∀ j : Nat, (∀ i : Nat, i < j → ¬ (ss I ag (3 * o + i)).getLsbD t.toNat = true) → wtU I ag s t o j = 0
  | 0, _ => rfl
  | j + 1, h => by simp only [wtU]; rw [wtU_0 j (fun i hi => h i (by omega)), if_neg (fun q => h j (by omega) q.2)]; rfl
theorem wtX_0 {lk ag s mm c t : Int} : ∀ j : Nat, (∀ i : Nat, i < j → (ss I ag s).getLsbD i = true → wtU I ag s t (ent I lk mm i c) (cntE I (ent I lk mm i c)) = 0) → wtX I lk ag s mm c t j = 0
  | 0, _ => rfl
  | j + 1, h => by
    simp only [wtX]; rw [wtX_0 j (fun i hi => h i (by omega))]
    split
    · rename_i hb; rw [h j (by omega) hb]; rfl
    · rfl
theorem wtS_0 {lk ag e mm c t : Int} : ∀ j : Nat, (∀ i : Nat, i < j → wtX I lk ag (3 * e + i) mm c t 60 = 0) → wtS I lk ag e mm c t j = 0
  | 0, _ => rfl
  | j + 1, h => by simp only [wtS]; rw [wtS_0 j (fun i hi => h i (by omega)), h j (by omega)]; rfl
theorem wt_un (hW : RW I) {lk a w mm c t : Int} (ht0 : 0 ≤ t) (ht1 : t < 60) (h : ¬ hasW (gaN I lk mm (gv I lk a w mm) c 60) t) : wt I lk a w mm c t = 0 := by
  refine wtS_0 _ (fun j hj => wtX_0 _ (fun x hx hb => wtU_0 _ (fun i hi hb2 => h ⟨ht0, ht1, ?_⟩)))
  rw [gaN_bit]
  exact ⟨x, hx, ss_gv hW hj hb, ss_gv hW hi hb2⟩
theorem sekN_ok (hW : RW I) (lk a mm c : Int) {w : Int} (h0 : 0 ≤ w) (h1 : w < 60) (hm : tgP mm) {s : Int × BS} (hs : bOk s.2 ∧ -1 ≤ s.1 ∧ s.1 ≤ 3) : ∀ k : Nat, k ≤ 60 → bOk (sekN I lk a w mm c s k).2 ∧ -1 ≤ (sekN I lk a w mm c s k).1 ∧ (sekN I lk a w mm c s k).1 ≤ 3
  | 0, _ => hs
  | k + 1, hk => by
    simp only [sekN]
    split
    · have hu := upr_B I lk a w mm c k
      have hl := lwr_B I lk a w mm c k
      have hw := wt_B hW lk a mm c k h0 h1
      unfold bOk
      dsimp only
      omega
    · exact sekN_ok hW lk a mm c h0 h1 hm hs k (by omega)
theorem tSt_wr {s : Int × BS} {u v : Int} (h : tSt J s) : tSt (up (up J 6 0 u) 6 1 v) s := by
  unfold tSt at h ⊢
  simp (disch := omega) only [up_same, up_o, up_k]
  exact h
theorem ct_X10_seek {a w mm c : Int} {s : Int × BS} (hS : ShR I L R n) (ha : inR a) (hm : tgP mm) (hc : inR c) (h0 : 0 ≤ w) (h1 : w < 60) (hs : bOk s.2 ∧ -1 ≤ s.1 ∧ s.1 ≤ 3) (hst : tSt I s) (hq : ∀ J, Eqv I J → tSt J (sekN I 255 a w mm c s 60) → Q none (J, L, R, n)) : Wp mX10_seek 0 [some (vr (some 6)), some (vr (some 4)), some (vi a), some (vi w), some (vi mm), some (vi c), none, none, none, none] [] (I, L, R, n) (0, 0) Q := by
  have hn := hS.1
  have hW := hS.2.2.1
  have lp : ∀ (tt k : Nat) (z : Int) (J : Nat → Int → Int) (x9 : Option AV), k + tt = 60 → z = k → Eqv I J → tSt J (sekN I 255 a w mm c s k) → Wp mX10_seek 21 [some (vr (some 6)), some (vr (some 4)), some (vi a), some (vi w), some (vi mm), some (vi c), some (vl (gaN I 255 mm (gv I 255 a w mm) c 60)), none, some (vi z), x9] [] (J, L, R, n) (0, 0) Q := by
    intro tt
    induction tt with
    | zero =>
      intro k z J x9 hkt hz e0 e1
      obtain rfl : k = 60 := by omega
      refine Wp.iload rfl dX10_seek_21 ?_
      refine Wp.bipush rfl dX10_seek_23 ?_
      refine Wp.icmp_ge (tgt := 127) dX10_seek_25 (by decide) (by first | omega | exact bI_R _ | exact cmp_R _ _ | assumption) (by first | omega | exact bI_R _ | exact cmp_R _ _ | assumption) (fun c25 => ?_) (fun c25 => ?_)
      · refine Wp.vreturn dX10_seek_127 rfl ?_
        first | (exfalso; omega) | (exact hq J e0 e1)
      · exfalso; omega
    | succ tt ih =>
      intro k z J x9 hkt hz e0 e1
      subst hz
      have hSJ := ShR_cg e0 (EqvL.rf L) hS
      have hok := sekN_ok hW 255 a mm c h0 h1 hm hs k (by omega)
      have hwB := wt_B hW 255 a mm c k h0 h1
      have hu := upr_B I 255 a w mm c k
      have hl := lwr_B I 255 a w mm c k
      have hstep : sekN I 255 a w mm c s (k + 1) = if 0 < wt I 255 a w mm c k ∧ ((sekN I 255 a w mm c s k).2.1 < 0 ∨ (sekN I 255 a w mm c s k).2.2.1 * lwr I 255 a w mm c k < upr I 255 a w mm c k * (sekN I 255 a w mm c s k).2.2.2.1 ∨ ((sekN I 255 a w mm c s k).2.2.1 * lwr I 255 a w mm c k = upr I 255 a w mm c k * (sekN I 255 a w mm c s k).2.2.2.1 ∧ (sekN I 255 a w mm c s k).2.2.2.2 < wt I 255 a w mm c k)) then (mm, ((k : Int), upr I 255 a w mm c k, lwr I 255 a w mm c k, wt I 255 a w mm c k)) else sekN I 255 a w mm c s k := rfl
      generalize hS1 : sekN I 255 a w mm c s (k + 1) = S1 at *
      generalize sekN I 255 a w mm c s k = S0 at *
      obtain ⟨p, x, u, l, v⟩ := S0
      unfold tSt at e1
      unfold bOk at hok
      dsimp only at e1 hok hstep
      have hun := wt_un hW (lk := 255) (a := a) (w := w) (mm := mm) (c := c) (t := k) (by omega) (by omega)
      have cu : ∀ t : Int, upr J 255 a w mm c t = upr I 255 a w mm c t := fun t => upr_cg e0.se 255 a w mm c t
      have cl : ∀ t : Int, lwr J 255 a w mm c t = lwr I 255 a w mm c t := fun t => lwr_cg e0.se 255 a w mm c t
      have cw : wt J 255 a w mm c k = wt I 255 a w mm c k := wt_cg e0.se 255 a w mm c k
      refine Wp.iload rfl dX10_seek_21 ?_
      refine Wp.bipush rfl dX10_seek_23 ?_
      refine Wp.icmp_ge (tgt := 127) dX10_seek_25 (by decide) (by first | omega | exact bI_R _ | exact cmp_R _ _ | assumption) (by first | omega | exact bI_R _ | exact cmp_R _ _ | assumption) (fun c25 => ?_) (fun c25 => ?_)
      · exfalso; omega
      · refine Wp.lload rfl dX10_seek_28 ?_
        refine Wp.iload rfl dX10_seek_30 ?_
        refine Wp.callS (As := [_, _]) (ls0 := [_, _, _]) (bd := (0, 0)) (bd' := (0, 0)) dX10_seek_32 kmX11_has lkX10_56 (by decide) (by decide) (Nat.le_of_ble_eq_true rfl) rfl rfl (Nat.le_of_ble_eq_true rfl) rfl ?_
        refine ct_X11_has (by omega) ?_
        show Wp _ _ _ (_ :: _) _ _ _
        refine Wp.if_eqB (tgt := 54) dX10_seek_35 (by decide) (fun c35 => ?_) (fun c35 => ?_)
        · refine Wp.iconst dX10_seek_54 ?_
          refine Wp.istore (ls' := [_, _, _, _, _, _, _, _, _, _]) dX10_seek_55 (by decide) rfl ?_
          refine Wp.iload rfl dX10_seek_57 ?_
          refine Wp.if_ne (tgt := 65) dX10_seek_59 (by decide) (by first | omega | exact bI_R _ | exact cmp_R _ _ | assumption) (fun c59 => ?_) (fun c59 => ?_)
          · refine Wp.aload_n rfl dX10_seek_65 ?_
            refine Wp.aload_n rfl dX10_seek_66 ?_
            refine Wp.iload_n rfl dX10_seek_67 ?_
            refine Wp.iload_n rfl dX10_seek_68 ?_
            refine Wp.iload rfl dX10_seek_69 ?_
            refine Wp.iload rfl dX10_seek_71 ?_
            refine Wp.iload rfl dX10_seek_73 ?_
            refine Wp.callV (As := [_, _, _, _, _, _]) (ls0 := [_, _, _, _, _, _, _, _, _, _, _, _]) (bd := (0, 0)) (bd' := (0, 0)) dX10_seek_75 kmX10_measure lkX10_90 (by decide) (by decide) (Nat.le_of_ble_eq_true rfl) (by first | rfl | exact kd_b0 _ | exact kd_b1 _ | exact kd_b2 _ | exact kd_b3 _ | exact kd_b4 _ | exact kd_b5 _ | exact kd_b6 _) (by omega) rfl rfl (Nat.le_of_ble_eq_true rfl) rfl ?_
            refine ct_X10_measure hSJ (by omega) (by omega) (by omega) (by omega) (by omega) (by omega) (by omega) ?_
            rw [cu, cl]
            generalize hK : up (up J 6 0 (upr I 255 a w mm c k)) 6 1 (lwr I 255 a w mm c k) = K
            have k0 : K 6 0 = upr I 255 a w mm c k := by rw [← hK]; simp (disch := omega) only [up_same, up_o, up_k]
            have k1 : K 6 1 = lwr I 255 a w mm c k := by rw [← hK]; simp (disch := omega) only [up_same, up_o, up_k]
            have k2 : K 6 2 = u := by rw [← hK]; simp (disch := omega) only [up_same, up_o, up_k]; exact e1.1
            have k3 : K 6 3 = l := by rw [← hK]; simp (disch := omega) only [up_same, up_o, up_k]; exact e1.2.1
            have k4 : K 6 4 = v := by rw [← hK]; simp (disch := omega) only [up_same, up_o, up_k]; exact e1.2.2.1
            have k5 : K 6 5 = x := by rw [← hK]; simp (disch := omega) only [up_same, up_o, up_k]; exact e1.2.2.2.1
            have k6 : K 6 6 = p := by rw [← hK]; simp (disch := omega) only [up_same, up_o, up_k]; exact e1.2.2.2.2
            have eK : Eqv I K := by rw [← hK]; exact (e0.wr (by unfold scr; omega)).wr (by unfold scr; omega)
            clear hK
            show Wp _ _ _ _ _ _ _
            refine Wp.aload_n rfl dX10_seek_78 ?_
            refine Wp.iload rfl dX10_seek_79 ?_
            refine Wp.callV (As := [_]) (ls0 := [_, _, _, _]) (bd := (0, 0)) (bd' := (0, 0)) dX10_seek_81 kmX10_isBetter lkX10_94 (by decide) (by decide) (Nat.le_of_ble_eq_true rfl) (by first | rfl | exact kd_b0 _ | exact kd_b1 _ | exact kd_b2 _ | exact kd_b3 _ | exact kd_b4 _ | exact kd_b5 _ | exact kd_b6 _) (by omega) rfl rfl (Nat.le_of_ble_eq_true rfl) rfl ?_
            refine ct_X10_isBetter hn (by omega) (by omega) (by omega) (by omega) (by omega) (by omega) (by omega) ?_
            rw [k0, k1, k2, k3, k4, k5]
            show Wp _ _ _ (_ :: _) _ _ _
            refine Wp.if_eqB (tgt := 121) dX10_seek_84 (by decide) (fun c84 => ?_) (fun c84 => ?_)
            · refine Wp.iinc (ls' := [_, _, _, _, _, _, _, _, _, _]) rfl dX10_seek_121 (by decide) rfl ?_
              refine Wp.goto (tgt := 21) dX10_seek_124 (by decide) ?_
              refine ih (k + 1) _ _ _ (by omega) (by omega) ?_ ?_
              · first | exact e0 | exact eK | exact ((((eK.wr (by unfold scr; omega)).wr (by unfold scr; omega)).wr (by unfold scr; omega)).wr (by unfold scr; omega)).wr (by unfold scr; omega)
              · unfold btI at *
                generalize u * lwr I 255 a w mm c k = A at *
                generalize upr I 255 a w mm c k * l = B at *
                unfold tSt
                rw [hS1, hstep]
                first
                | (exfalso; omega)
                | (rw [if_pos (by omega)]; refine ⟨?_, ?_, ?_, ?_, ?_⟩ <;> simp (disch := omega) only [up_same, up_o, up_k] <;> first | exact k0 | exact k1 | rfl)
                | (rw [if_neg (by omega)]; exact e1)
                | (rw [if_neg (by have := hun c35; omega)]; exact e1)
                | (rw [if_neg (by omega)]; exact ⟨k2, k3, k4, k5, k6⟩)
            · refine Wp.aload_n rfl dX10_seek_87 ?_
              refine Wp.aload_n rfl dX10_seek_88 ?_
              refine Wp.gi (kz := 0) rfl dX10_seek_89 fkX10_9 (by first | rfl | exact kd_b0 _ | exact kd_b1 _ | exact kd_b2 _ | exact kd_b3 _ | exact kd_b4 _ | exact kd_b5 _ | exact kd_b6 _) (by omega) ?_
              refine Wp.pi (kz := 2) rfl dX10_seek_92 fkX10_18 (Or.inl rfl) (Or.inl rfl) (by first | rfl | exact kd_b0 _ | exact kd_b1 _ | exact kd_b2 _ | exact kd_b3 _ | exact kd_b4 _ | exact kd_b5 _ | exact kd_b6 _) (by omega) ?_
              refine Wp.aload_n rfl dX10_seek_95 ?_
              refine Wp.aload_n rfl dX10_seek_96 ?_
              refine Wp.gi (kz := 1) rfl dX10_seek_97 fkX10_15 (by first | rfl | exact kd_b0 _ | exact kd_b1 _ | exact kd_b2 _ | exact kd_b3 _ | exact kd_b4 _ | exact kd_b5 _ | exact kd_b6 _) (by omega) ?_
              try simp (disch := omega) only [up_same, up_o, up_k]
              refine Wp.pi (kz := 3) rfl dX10_seek_100 fkX10_21 (Or.inl rfl) (Or.inl rfl) (by first | rfl | exact kd_b0 _ | exact kd_b1 _ | exact kd_b2 _ | exact kd_b3 _ | exact kd_b4 _ | exact kd_b5 _ | exact kd_b6 _) (by omega) ?_
              refine Wp.aload_n rfl dX10_seek_103 ?_
              refine Wp.iload rfl dX10_seek_104 ?_
              refine Wp.pi (kz := 4) rfl dX10_seek_106 fkX10_24 (Or.inl rfl) (Or.inl rfl) (by first | rfl | exact kd_b0 _ | exact kd_b1 _ | exact kd_b2 _ | exact kd_b3 _ | exact kd_b4 _ | exact kd_b5 _ | exact kd_b6 _) (by omega) ?_
              refine Wp.aload_n rfl dX10_seek_109 ?_
              refine Wp.iload rfl dX10_seek_110 ?_
              refine Wp.pi (kz := 5) rfl dX10_seek_112 fkX10_27 (Or.inl rfl) (Or.inl rfl) (by first | rfl | exact kd_b0 _ | exact kd_b1 _ | exact kd_b2 _ | exact kd_b3 _ | exact kd_b4 _ | exact kd_b5 _ | exact kd_b6 _) (by omega) ?_
              refine Wp.aload_n rfl dX10_seek_115 ?_
              refine Wp.iload rfl dX10_seek_116 ?_
              refine Wp.pi (kz := 6) rfl dX10_seek_118 fkX10_30 (Or.inl rfl) (Or.inl rfl) (by first | rfl | exact kd_b0 _ | exact kd_b1 _ | exact kd_b2 _ | exact kd_b3 _ | exact kd_b4 _ | exact kd_b5 _ | exact kd_b6 _) (by omega) ?_
              refine Wp.iinc (ls' := [_, _, _, _, _, _, _, _, _, _]) rfl dX10_seek_121 (by decide) rfl ?_
              refine Wp.goto (tgt := 21) dX10_seek_124 (by decide) ?_
              refine ih (k + 1) _ _ _ (by omega) (by omega) ?_ ?_
              · first | exact e0 | exact eK | exact ((((eK.wr (by unfold scr; omega)).wr (by unfold scr; omega)).wr (by unfold scr; omega)).wr (by unfold scr; omega)).wr (by unfold scr; omega)
              · unfold btI at *
                generalize u * lwr I 255 a w mm c k = A at *
                generalize upr I 255 a w mm c k * l = B at *
                unfold tSt
                rw [hS1, hstep]
                first
                | (exfalso; omega)
                | (rw [if_pos (by omega)]; refine ⟨?_, ?_, ?_, ?_, ?_⟩ <;> simp (disch := omega) only [up_same, up_o, up_k] <;> first | exact k0 | exact k1 | rfl)
                | (rw [if_neg (by omega)]; exact e1)
                | (rw [if_neg (by have := hun c35; omega)]; exact e1)
                | (rw [if_neg (by omega)]; exact ⟨k2, k3, k4, k5, k6⟩)
          · refine Wp.goto (tgt := 121) dX10_seek_62 (by decide) ?_
            refine Wp.iinc (ls' := [_, _, _, _, _, _, _, _, _, _]) rfl dX10_seek_121 (by decide) rfl ?_
            refine Wp.goto (tgt := 21) dX10_seek_124 (by decide) ?_
            refine ih (k + 1) _ _ _ (by omega) (by omega) ?_ ?_
            · first | exact e0 | exact eK | exact ((((eK.wr (by unfold scr; omega)).wr (by unfold scr; omega)).wr (by unfold scr; omega)).wr (by unfold scr; omega)).wr (by unfold scr; omega)
            · unfold btI at *
              generalize u * lwr I 255 a w mm c k = A at *
              generalize upr I 255 a w mm c k * l = B at *
              unfold tSt
              rw [hS1, hstep]
              first
              | (exfalso; omega)
              | (rw [if_pos (by omega)]; refine ⟨?_, ?_, ?_, ?_, ?_⟩ <;> simp (disch := omega) only [up_same, up_o, up_k] <;> first | exact k0 | exact k1 | rfl)
              | (rw [if_neg (by omega)]; exact e1)
              | (rw [if_neg (by have := hun c35; omega)]; exact e1)
              | (rw [if_neg (by omega)]; exact ⟨k2, k3, k4, k5, k6⟩)
        · refine Wp.aload_n rfl dX10_seek_38 ?_
          refine Wp.aload_n rfl dX10_seek_39 ?_
          refine Wp.iload_n rfl dX10_seek_40 ?_
          refine Wp.iload_n rfl dX10_seek_41 ?_
          refine Wp.iload rfl dX10_seek_42 ?_
          refine Wp.iload rfl dX10_seek_44 ?_
          refine Wp.iload rfl dX10_seek_46 ?_
          refine Wp.callV (As := [_, _, _, _, _, _]) (ls0 := [_, _, _, _, _, _, _, _, _, _, _, _, _, _]) (bd := (0, 0)) (bd' := (0, 0)) dX10_seek_48 kmX10_ways lkX10_87 (by decide) (by decide) (Nat.le_of_ble_eq_true rfl) (by first | rfl | exact kd_b0 _ | exact kd_b1 _ | exact kd_b2 _ | exact kd_b3 _ | exact kd_b4 _ | exact kd_b5 _ | exact kd_b6 _) (by omega) rfl rfl (Nat.le_of_ble_eq_true rfl) rfl ?_
          refine ct_X10_ways hSJ (by omega) (by omega) (by omega) (by omega) (by omega) (by omega) (by omega) ?_
          rw [cw]
          show Wp _ _ _ (_ :: _) _ _ _
          refine Wp.goto (tgt := 55) dX10_seek_51 (by decide) ?_
          refine Wp.istore (ls' := [_, _, _, _, _, _, _, _, _, _]) dX10_seek_55 (by decide) rfl ?_
          refine Wp.iload rfl dX10_seek_57 ?_
          refine Wp.if_ne (tgt := 65) dX10_seek_59 (by decide) (by first | omega | exact bI_R _ | exact cmp_R _ _ | assumption) (fun c59 => ?_) (fun c59 => ?_)
          · refine Wp.aload_n rfl dX10_seek_65 ?_
            refine Wp.aload_n rfl dX10_seek_66 ?_
            refine Wp.iload_n rfl dX10_seek_67 ?_
            refine Wp.iload_n rfl dX10_seek_68 ?_
            refine Wp.iload rfl dX10_seek_69 ?_
            refine Wp.iload rfl dX10_seek_71 ?_
            refine Wp.iload rfl dX10_seek_73 ?_
            refine Wp.callV (As := [_, _, _, _, _, _]) (ls0 := [_, _, _, _, _, _, _, _, _, _, _, _]) (bd := (0, 0)) (bd' := (0, 0)) dX10_seek_75 kmX10_measure lkX10_90 (by decide) (by decide) (Nat.le_of_ble_eq_true rfl) (by first | rfl | exact kd_b0 _ | exact kd_b1 _ | exact kd_b2 _ | exact kd_b3 _ | exact kd_b4 _ | exact kd_b5 _ | exact kd_b6 _) (by omega) rfl rfl (Nat.le_of_ble_eq_true rfl) rfl ?_
            refine ct_X10_measure hSJ (by omega) (by omega) (by omega) (by omega) (by omega) (by omega) (by omega) ?_
            rw [cu, cl]
            generalize hK : up (up J 6 0 (upr I 255 a w mm c k)) 6 1 (lwr I 255 a w mm c k) = K
            have k0 : K 6 0 = upr I 255 a w mm c k := by rw [← hK]; simp (disch := omega) only [up_same, up_o, up_k]
            have k1 : K 6 1 = lwr I 255 a w mm c k := by rw [← hK]; simp (disch := omega) only [up_same, up_o, up_k]
            have k2 : K 6 2 = u := by rw [← hK]; simp (disch := omega) only [up_same, up_o, up_k]; exact e1.1
            have k3 : K 6 3 = l := by rw [← hK]; simp (disch := omega) only [up_same, up_o, up_k]; exact e1.2.1
            have k4 : K 6 4 = v := by rw [← hK]; simp (disch := omega) only [up_same, up_o, up_k]; exact e1.2.2.1
            have k5 : K 6 5 = x := by rw [← hK]; simp (disch := omega) only [up_same, up_o, up_k]; exact e1.2.2.2.1
            have k6 : K 6 6 = p := by rw [← hK]; simp (disch := omega) only [up_same, up_o, up_k]; exact e1.2.2.2.2
            have eK : Eqv I K := by rw [← hK]; exact (e0.wr (by unfold scr; omega)).wr (by unfold scr; omega)
            clear hK
            show Wp _ _ _ _ _ _ _
            refine Wp.aload_n rfl dX10_seek_78 ?_
            refine Wp.iload rfl dX10_seek_79 ?_
            refine Wp.callV (As := [_]) (ls0 := [_, _, _, _]) (bd := (0, 0)) (bd' := (0, 0)) dX10_seek_81 kmX10_isBetter lkX10_94 (by decide) (by decide) (Nat.le_of_ble_eq_true rfl) (by first | rfl | exact kd_b0 _ | exact kd_b1 _ | exact kd_b2 _ | exact kd_b3 _ | exact kd_b4 _ | exact kd_b5 _ | exact kd_b6 _) (by omega) rfl rfl (Nat.le_of_ble_eq_true rfl) rfl ?_
            refine ct_X10_isBetter hn (by omega) (by omega) (by omega) (by omega) (by omega) (by omega) (by omega) ?_
            rw [k0, k1, k2, k3, k4, k5]
            show Wp _ _ _ (_ :: _) _ _ _
            refine Wp.if_eqB (tgt := 121) dX10_seek_84 (by decide) (fun c84 => ?_) (fun c84 => ?_)
            · refine Wp.iinc (ls' := [_, _, _, _, _, _, _, _, _, _]) rfl dX10_seek_121 (by decide) rfl ?_
              refine Wp.goto (tgt := 21) dX10_seek_124 (by decide) ?_
              refine ih (k + 1) _ _ _ (by omega) (by omega) ?_ ?_
              · first | exact e0 | exact eK | exact ((((eK.wr (by unfold scr; omega)).wr (by unfold scr; omega)).wr (by unfold scr; omega)).wr (by unfold scr; omega)).wr (by unfold scr; omega)
              · unfold btI at *
                generalize u * lwr I 255 a w mm c k = A at *
                generalize upr I 255 a w mm c k * l = B at *
                unfold tSt
                rw [hS1, hstep]
                first
                | (exfalso; omega)
                | (rw [if_pos (by omega)]; refine ⟨?_, ?_, ?_, ?_, ?_⟩ <;> simp (disch := omega) only [up_same, up_o, up_k] <;> first | exact k0 | exact k1 | rfl)
                | (rw [if_neg (by omega)]; exact e1)
                | (rw [if_neg (by have := hun c35; omega)]; exact e1)
                | (rw [if_neg (by omega)]; exact ⟨k2, k3, k4, k5, k6⟩)
            · refine Wp.aload_n rfl dX10_seek_87 ?_
              refine Wp.aload_n rfl dX10_seek_88 ?_
              refine Wp.gi (kz := 0) rfl dX10_seek_89 fkX10_9 (by first | rfl | exact kd_b0 _ | exact kd_b1 _ | exact kd_b2 _ | exact kd_b3 _ | exact kd_b4 _ | exact kd_b5 _ | exact kd_b6 _) (by omega) ?_
              refine Wp.pi (kz := 2) rfl dX10_seek_92 fkX10_18 (Or.inl rfl) (Or.inl rfl) (by first | rfl | exact kd_b0 _ | exact kd_b1 _ | exact kd_b2 _ | exact kd_b3 _ | exact kd_b4 _ | exact kd_b5 _ | exact kd_b6 _) (by omega) ?_
              refine Wp.aload_n rfl dX10_seek_95 ?_
              refine Wp.aload_n rfl dX10_seek_96 ?_
              refine Wp.gi (kz := 1) rfl dX10_seek_97 fkX10_15 (by first | rfl | exact kd_b0 _ | exact kd_b1 _ | exact kd_b2 _ | exact kd_b3 _ | exact kd_b4 _ | exact kd_b5 _ | exact kd_b6 _) (by omega) ?_
              try simp (disch := omega) only [up_same, up_o, up_k]
              refine Wp.pi (kz := 3) rfl dX10_seek_100 fkX10_21 (Or.inl rfl) (Or.inl rfl) (by first | rfl | exact kd_b0 _ | exact kd_b1 _ | exact kd_b2 _ | exact kd_b3 _ | exact kd_b4 _ | exact kd_b5 _ | exact kd_b6 _) (by omega) ?_
              refine Wp.aload_n rfl dX10_seek_103 ?_
              refine Wp.iload rfl dX10_seek_104 ?_
              refine Wp.pi (kz := 4) rfl dX10_seek_106 fkX10_24 (Or.inl rfl) (Or.inl rfl) (by first | rfl | exact kd_b0 _ | exact kd_b1 _ | exact kd_b2 _ | exact kd_b3 _ | exact kd_b4 _ | exact kd_b5 _ | exact kd_b6 _) (by omega) ?_
              refine Wp.aload_n rfl dX10_seek_109 ?_
              refine Wp.iload rfl dX10_seek_110 ?_
              refine Wp.pi (kz := 5) rfl dX10_seek_112 fkX10_27 (Or.inl rfl) (Or.inl rfl) (by first | rfl | exact kd_b0 _ | exact kd_b1 _ | exact kd_b2 _ | exact kd_b3 _ | exact kd_b4 _ | exact kd_b5 _ | exact kd_b6 _) (by omega) ?_
              refine Wp.aload_n rfl dX10_seek_115 ?_
              refine Wp.iload rfl dX10_seek_116 ?_
              refine Wp.pi (kz := 6) rfl dX10_seek_118 fkX10_30 (Or.inl rfl) (Or.inl rfl) (by first | rfl | exact kd_b0 _ | exact kd_b1 _ | exact kd_b2 _ | exact kd_b3 _ | exact kd_b4 _ | exact kd_b5 _ | exact kd_b6 _) (by omega) ?_
              refine Wp.iinc (ls' := [_, _, _, _, _, _, _, _, _, _]) rfl dX10_seek_121 (by decide) rfl ?_
              refine Wp.goto (tgt := 21) dX10_seek_124 (by decide) ?_
              refine ih (k + 1) _ _ _ (by omega) (by omega) ?_ ?_
              · first | exact e0 | exact eK | exact ((((eK.wr (by unfold scr; omega)).wr (by unfold scr; omega)).wr (by unfold scr; omega)).wr (by unfold scr; omega)).wr (by unfold scr; omega)
              · unfold btI at *
                generalize u * lwr I 255 a w mm c k = A at *
                generalize upr I 255 a w mm c k * l = B at *
                unfold tSt
                rw [hS1, hstep]
                first
                | (exfalso; omega)
                | (rw [if_pos (by omega)]; refine ⟨?_, ?_, ?_, ?_, ?_⟩ <;> simp (disch := omega) only [up_same, up_o, up_k] <;> first | exact k0 | exact k1 | rfl)
                | (rw [if_neg (by omega)]; exact e1)
                | (rw [if_neg (by have := hun c35; omega)]; exact e1)
                | (rw [if_neg (by omega)]; exact ⟨k2, k3, k4, k5, k6⟩)
          · refine Wp.goto (tgt := 121) dX10_seek_62 (by decide) ?_
            refine Wp.iinc (ls' := [_, _, _, _, _, _, _, _, _, _]) rfl dX10_seek_121 (by decide) rfl ?_
            refine Wp.goto (tgt := 21) dX10_seek_124 (by decide) ?_
            refine ih (k + 1) _ _ _ (by omega) (by omega) ?_ ?_
            · first | exact e0 | exact eK | exact ((((eK.wr (by unfold scr; omega)).wr (by unfold scr; omega)).wr (by unfold scr; omega)).wr (by unfold scr; omega)).wr (by unfold scr; omega)
            · unfold btI at *
              generalize u * lwr I 255 a w mm c k = A at *
              generalize upr I 255 a w mm c k * l = B at *
              unfold tSt
              rw [hS1, hstep]
              first
              | (exfalso; omega)
              | (rw [if_pos (by omega)]; refine ⟨?_, ?_, ?_, ?_, ?_⟩ <;> simp (disch := omega) only [up_same, up_o, up_k] <;> first | exact k0 | exact k1 | rfl)
              | (rw [if_neg (by omega)]; exact e1)
              | (rw [if_neg (by have := hun c35; omega)]; exact e1)
              | (rw [if_neg (by omega)]; exact ⟨k2, k3, k4, k5, k6⟩)
  refine Wp.aload_n rfl dX10_seek_0 ?_
  refine Wp.iload rfl dX10_seek_1 ?_
  refine Wp.aload_n rfl dX10_seek_3 ?_
  refine Wp.iload_n rfl dX10_seek_4 ?_
  refine Wp.iload_n rfl dX10_seek_5 ?_
  refine Wp.iload rfl dX10_seek_6 ?_
  refine Wp.callV (As := [_, _, _]) (ls0 := [_, _, _, _, _]) (bd := (0, 0)) (bd' := (0, 0)) dX10_seek_8 kmX8_given lkX10_68 (by decide) (by decide) (Nat.le_of_ble_eq_true rfl) (by first | rfl | exact kd_b0 _ | exact kd_b1 _ | exact kd_b2 _ | exact kd_b3 _ | exact kd_b4 _ | exact kd_b5 _ | exact kd_b6 _) (by omega) rfl rfl (Nat.le_of_ble_eq_true rfl) rfl ?_
  refine ct_X8_given hS (by omega) (by omega) (by omega) (by omega) ?_
  show Wp _ _ _ (_ :: _) _ _ _
  refine Wp.iload rfl dX10_seek_11 ?_
  refine Wp.callV (As := [_, _, _]) (ls0 := [_, _, _, _, _, _, _, _]) (bd := (0, 0)) (bd' := (0, 0)) dX10_seek_13 kmX8_givenByAll lkX10_83 (by decide) (by decide) (Nat.le_of_ble_eq_true rfl) (by first | rfl | exact kd_b0 _ | exact kd_b1 _ | exact kd_b2 _ | exact kd_b3 _ | exact kd_b4 _ | exact kd_b5 _ | exact kd_b6 _) (by omega) rfl rfl (Nat.le_of_ble_eq_true rfl) rfl ?_
  refine ct_X8_givenByAll hS (by omega) (by omega) ?_
  show Wp _ _ _ (_ :: _) _ _ _
  refine Wp.lstore (ls' := [_, _, _, _, _, _, _, _, _, _]) dX10_seek_16 (by decide) rfl ?_
  refine Wp.iconst dX10_seek_18 ?_
  refine Wp.istore (ls' := [_, _, _, _, _, _, _, _, _, _]) dX10_seek_19 (by decide) rfl ?_
  exact lp 60 0 _ _ _ (by omega) (by omega) (Eqv.rf I) hst
def cdv : Nat → Nat → Nat → Nat
  | 0, a, _ => a
  | f + 1, a, b => if b = 0 then a else cdv f b (a % b)
theorem cdv_g : ∀ x y : Fin 121, cdv 64 x.val y.val = Nat.gcd x.val y.val := by decide +kernel
theorem rem_nat (a b : Nat) : (a : Int) - (a : Int).tdiv (b : Int) * (b : Int) = ((a % b : Nat) : Int) := by
  have h : (a : Int).tdiv (b : Int) = ((a / b : Nat) : Int) := rfl
  have h2 := Nat.div_add_mod a b
  have h3 : ((b * (a / b) : Nat) : Int) = ((a / b : Nat) : Int) * (b : Int) := by rw [Nat.mul_comm]; exact Int.natCast_mul _ _
  rw [h, ← h3]
  generalize b * (a / b) = q at h2
  omega
theorem ct_X11_commonDivisor {x y : Nat} (hx : x ≤ 120) (hy : y ≤ 120) (hq : Q (some (vi (Nat.gcd x y : Nat))) m) : Wp mX11_commonDivisor 0 [some (vi x), some (vi y), none, none, none, none] [] m (0, 0) Q := by
  have hg := cdv_g ⟨x, by omega⟩ ⟨y, by omega⟩
  dsimp only at hg
  have lp : ∀ (tt k : Nat) (a b : Nat) (x5 : Option AV), k + tt = 64 → a ≤ 120 → b ≤ 120 → cdv tt a b = Nat.gcd x y → Wp mX11_commonDivisor 7 [some (vi x), some (vi y), some (vi a), some (vi b), some (vi k), x5] [] m (0, 0) Q := by
    intro tt
    induction tt with
    | zero =>
      intro k a b x5 hk ha hb he
      refine Wp.iload rfl dX11_commonDivisor_7 ?_
      refine Wp.bipush rfl dX11_commonDivisor_9 ?_
      refine Wp.icmp_ge (tgt := 34) dX11_commonDivisor_11 (by decide) (by first | omega | exact bI_R _ | exact cmp_R _ _ | assumption) (by first | omega | exact bI_R _ | exact cmp_R _ _ | assumption) (fun c11 => ?_) (fun c11 => ?_)
      · refine Wp.iload_n rfl dX11_commonDivisor_34 ?_
        refine Wp.ireturn dX11_commonDivisor_35 rfl ?_
        first | (exfalso; omega) | (exact qI hq (congrArg _ he))
      · exfalso; omega
    | succ tt ih =>
      intro k a b x5 hk ha hb he
      simp only [cdv] at he
      refine Wp.iload rfl dX11_commonDivisor_7 ?_
      refine Wp.bipush rfl dX11_commonDivisor_9 ?_
      refine Wp.icmp_ge (tgt := 34) dX11_commonDivisor_11 (by decide) (by first | omega | exact bI_R _ | exact cmp_R _ _ | assumption) (by first | omega | exact bI_R _ | exact cmp_R _ _ | assumption) (fun c11 => ?_) (fun c11 => ?_)
      · first | (exfalso; omega) | (rw [if_pos (by omega)] at he; exact Wp.iload_n rfl dX11_commonDivisor_34 (Wp.ireturn dX11_commonDivisor_35 rfl (qI hq (congrArg _ he))))
      · refine Wp.iload_n rfl dX11_commonDivisor_14 ?_
        refine Wp.if_eq (tgt := 34) dX11_commonDivisor_15 (by decide) (by first | omega | exact bI_R _ | exact cmp_R _ _ | assumption) (fun c15 => ?_) (fun c15 => ?_)
        · first | (exfalso; omega) | (rw [if_pos (by omega)] at he; exact Wp.iload_n rfl dX11_commonDivisor_34 (Wp.ireturn dX11_commonDivisor_35 rfl (qI hq (congrArg _ he))))
        · refine Wp.iload_n rfl dX11_commonDivisor_18 ?_
          refine Wp.iload_n rfl dX11_commonDivisor_19 ?_
          refine Wp.irem (by omega) (by omega) (by omega) dX11_commonDivisor_20 ?_
          rw [rem_nat a b]
          refine Wp.istore (ls' := [_, _, _, _, _, _]) dX11_commonDivisor_21 (by decide) rfl ?_
          refine Wp.iload_n rfl dX11_commonDivisor_23 ?_
          refine Wp.istore_n (ls' := [_, _, _, _, _, _]) dX11_commonDivisor_24 (by decide) rfl ?_
          refine Wp.iload rfl dX11_commonDivisor_25 ?_
          refine Wp.istore_n (ls' := [_, _, _, _, _, _]) dX11_commonDivisor_27 (by decide) rfl ?_
          refine Wp.iinc (ls' := [_, _, _, _, _, _]) rfl dX11_commonDivisor_28 (by decide) rfl ?_
          refine Wp.goto (tgt := 7) dX11_commonDivisor_31 (by decide) ?_
          rw [if_neg (by omega)] at he; exact ih (k + 1) _ _ _ (by omega) hb (by have := Nat.mod_lt a (show 0 < b by omega); omega) he
  refine Wp.iload_n rfl dX11_commonDivisor_0 ?_
  refine Wp.istore_n (ls' := [_, _, _, _, _, _]) dX11_commonDivisor_1 (by decide) rfl ?_
  refine Wp.iload_n rfl dX11_commonDivisor_2 ?_
  refine Wp.istore_n (ls' := [_, _, _, _, _, _]) dX11_commonDivisor_3 (by decide) rfl ?_
  refine Wp.iconst dX11_commonDivisor_4 ?_
  refine Wp.istore (ls' := [_, _, _, _, _, _]) dX11_commonDivisor_5 (by decide) rfl ?_
  exact lp 64 0 x y _ (by omega) hx hy hg
theorem ct_X11_weight {a w mm c t : Int} (hS : ShR I L R n) (ha : inR a) (hw : inR w) (hm : inR mm) (hc : inR c) (ht : inR t) (hq : Q (some (vi (aWeight I 255 a w mm c t))) (I, L, R, n)) : Wp mX11_weight 0 [some (vr (some 0)), some (vi a), some (vi w), some (vi mm), some (vi c), some (vi t)] [] (I, L, R, n) (0, 0) Q := by
  have hn := hS.1
  have hFx := hS.2.1
  unfold aWeight at hq
  refine Wp.iload_n rfl dX11_weight_0 ?_
  refine Wp.callS (As := [_]) (ls0 := [_]) (bd := (0, 0)) (bd' := (0, 0)) dX11_weight_1 kmX11_isTongue lkX11_94 (by decide) (by decide) (Nat.le_of_ble_eq_true rfl) rfl rfl (Nat.le_of_ble_eq_true rfl) rfl ?_
  refine ct_X11_isTongue (by omega) ?_
  show Wp _ _ _ (_ :: _) _ _ _
  refine Wp.if_eqB (tgt := 37) dX11_weight_4 (by decide) (fun c4 => ?_) (fun c4 => ?_)
  · refine Wp.sipush rfl dX11_weight_37 ?_
    refine Wp.ireturn dX11_weight_40 rfl ?_
    first | (exfalso; omega) | (exact qI hq (by (repeat' split) <;> first | (exfalso; omega) | rfl))
  · refine Wp.iload_n rfl dX11_weight_7 ?_
    refine Wp.callS (As := [_]) (ls0 := [_]) (bd := (0, 0)) (bd' := (0, 0)) dX11_weight_8 kmX11_isWord lkX11_162 (by decide) (by decide) (Nat.le_of_ble_eq_true rfl) rfl rfl (Nat.le_of_ble_eq_true rfl) rfl ?_
    refine ct_X11_isWord (by omega) ?_
    show Wp _ _ _ (_ :: _) _ _ _
    refine Wp.if_eqB (tgt := 37) dX11_weight_11 (by decide) (fun c11 => ?_) (fun c11 => ?_)
    · refine Wp.sipush rfl dX11_weight_37 ?_
      refine Wp.ireturn dX11_weight_40 rfl ?_
      first | (exfalso; omega) | (exact qI hq (by (repeat' split) <;> first | (exfalso; omega) | rfl))
    · refine Wp.iload_n rfl dX11_weight_14 ?_
      refine Wp.callS (As := [_]) (ls0 := [_]) (bd := (0, 0)) (bd' := (0, 0)) dX11_weight_15 kmX11_isTongue lkX11_94 (by decide) (by decide) (Nat.le_of_ble_eq_true rfl) rfl rfl (Nat.le_of_ble_eq_true rfl) rfl ?_
      refine ct_X11_isTongue (by omega) ?_
      show Wp _ _ _ (_ :: _) _ _ _
      refine Wp.if_eqB (tgt := 37) dX11_weight_18 (by decide) (fun c18 => ?_) (fun c18 => ?_)
      · refine Wp.sipush rfl dX11_weight_37 ?_
        refine Wp.ireturn dX11_weight_40 rfl ?_
        first | (exfalso; omega) | (exact qI hq (by (repeat' split) <;> first | (exfalso; omega) | rfl))
      · refine Wp.iload rfl dX11_weight_21 ?_
        refine Wp.callS (As := [_]) (ls0 := [_]) (bd := (0, 0)) (bd' := (0, 0)) dX11_weight_23 kmX11_isTongue lkX11_94 (by decide) (by decide) (Nat.le_of_ble_eq_true rfl) rfl rfl (Nat.le_of_ble_eq_true rfl) rfl ?_
        refine ct_X11_isTongue (by omega) ?_
        show Wp _ _ _ (_ :: _) _ _ _
        refine Wp.if_eqB (tgt := 37) dX11_weight_26 (by decide) (fun c26 => ?_) (fun c26 => ?_)
        · refine Wp.sipush rfl dX11_weight_37 ?_
          refine Wp.ireturn dX11_weight_40 rfl ?_
          first | (exfalso; omega) | (exact qI hq (by (repeat' split) <;> first | (exfalso; omega) | rfl))
        · refine Wp.iload rfl dX11_weight_29 ?_
          refine Wp.callS (As := [_]) (ls0 := [_]) (bd := (0, 0)) (bd' := (0, 0)) dX11_weight_31 kmX11_isWord lkX11_162 (by decide) (by decide) (Nat.le_of_ble_eq_true rfl) rfl rfl (Nat.le_of_ble_eq_true rfl) rfl ?_
          refine ct_X11_isWord (by omega) ?_
          show Wp _ _ _ (_ :: _) _ _ _
          refine Wp.if_neB (tgt := 41) dX11_weight_34 (by decide) (fun c34 => ?_) (fun c34 => ?_)
          · refine Wp.iload_n rfl dX11_weight_41 ?_
            refine Wp.iload_n rfl dX11_weight_42 ?_
            refine Wp.iload rfl dX11_weight_43 ?_
            refine Wp.callS (As := [_, _, _]) (ls0 := [_, _, _]) (bd := (0, 0)) (bd' := (0, 0)) dX11_weight_45 kmX11_differ lkX11_223 (by decide) (by decide) (Nat.le_of_ble_eq_true rfl) rfl rfl (Nat.le_of_ble_eq_true rfl) rfl ?_
            refine ct_X11_differ (by omega) (by omega) (by omega) ?_
            show Wp _ _ _ (_ :: _) _ _ _
            refine Wp.if_neB (tgt := 55) dX11_weight_48 (by decide) (fun c48 => ?_) (fun c48 => ?_)
            · refine Wp.aload_n rfl dX11_weight_55 ?_
              refine Wp.gr (kz := 3) rfl dX11_weight_56 fkX11_33 (by first | rfl | exact kd_b0 _ | exact kd_b1 _ | exact kd_b2 _ | exact kd_b3 _ | exact kd_b4 _ | exact kd_b5 _ | exact kd_b6 _) (by omega) (by first | exact hFx _ 3 _ rfl | assumption | exact hBk.1 | exact hBk.2.1 | exact hBk.2.2.1 | exact hBk.2.2.2.1 | exact hBk.2.2.2.2.1 | exact hBk.2.2.2.2.2) ?_
              refine Wp.aload_n rfl dX11_weight_59 ?_
              refine Wp.gr (kz := 2) rfl dX11_weight_60 fkX11_26 (by first | rfl | exact kd_b0 _ | exact kd_b1 _ | exact kd_b2 _ | exact kd_b3 _ | exact kd_b4 _ | exact kd_b5 _ | exact kd_b6 _) (by omega) (by first | exact hFx _ 2 _ rfl | assumption | exact hBk.1 | exact hBk.2.1 | exact hBk.2.2.1 | exact hBk.2.2.2.1 | exact hBk.2.2.2.2.1 | exact hBk.2.2.2.2.2) ?_
              refine Wp.iload_n rfl dX11_weight_63 ?_
              refine Wp.iload_n rfl dX11_weight_64 ?_
              refine Wp.iload_n rfl dX11_weight_65 ?_
              refine Wp.iload rfl dX11_weight_66 ?_
              refine Wp.iload rfl dX11_weight_68 ?_
              refine Wp.callV (As := [_, _, _, _, _, _]) (ls0 := [_, _, _, _, _, _, _, _, _, _, _, _, _, _]) (bd := (0, 0)) (bd' := (0, 0)) dX11_weight_70 kmX10_ways lkX11_227 (by decide) (by decide) (Nat.le_of_ble_eq_true rfl) (by first | rfl | exact kd_b0 _ | exact kd_b1 _ | exact kd_b2 _ | exact kd_b3 _ | exact kd_b4 _ | exact kd_b5 _ | exact kd_b6 _) (by omega) rfl rfl (Nat.le_of_ble_eq_true rfl) rfl ?_
              refine ct_X10_ways hS (by omega) (by omega) (by omega) (by omega) (by omega) (by omega) (by omega) ?_
              show Wp _ _ _ (_ :: _) _ _ _
              refine Wp.ireturn dX11_weight_73 rfl ?_
              first | (exfalso; omega) | (exact qI hq (by (repeat' split) <;> first | (exfalso; omega) | rfl))
            · refine Wp.sipush rfl dX11_weight_51 ?_
              refine Wp.ireturn dX11_weight_54 rfl ?_
              first | (exfalso; omega) | (exact qI hq (by (repeat' split) <;> first | (exfalso; omega) | rfl))
          · refine Wp.sipush rfl dX11_weight_37 ?_
            refine Wp.ireturn dX11_weight_40 rfl ?_
            first | (exfalso; omega) | (exact qI hq (by (repeat' split) <;> first | (exfalso; omega) | rfl))
theorem ct_X11_sure {a w mm c t what : Int} (hS : ShR I L R n) (ha : inR a) (hw : inR w) (hm : inR mm) (hc : inR c) (ht : inR t) (hwh : inR what) (hq : ∀ J, Eqv I J → Q (some (vi (aSure I 255 a w mm c t what))) (J, L, R, n)) : Wp mX11_sure 0 [some (vr (some 0)), some (vi a), some (vi w), some (vi mm), some (vi c), some (vi t), some (vi what), none, none] [] (I, L, R, n) (0, 0) Q := by
  have hn := hS.1
  have hFx := hS.2.1
  have hU := upr_B I 255 a w mm c t
  have hL := lwr_B I 255 a w mm c t
  have hg1 : 0 < Nat.gcd (upr I 255 a w mm c t).toNat (lwr I 255 a w mm c t).toNat := Nat.gcd_pos_of_pos_right _ (by omega)
  have hg2 : Nat.gcd (upr I 255 a w mm c t).toNat (lwr I 255 a w mm c t).toNat ≤ (lwr I 255 a w mm c t).toNat := Nat.gcd_le_right _ (by omega)
  have eU : upr I 255 a w mm c t = ((upr I 255 a w mm c t).toNat : Int) := by omega
  have eL : lwr I 255 a w mm c t = ((lwr I 255 a w mm c t).toNat : Int) := by omega
  refine Wp.iload_n rfl dX11_sure_0 ?_
  refine Wp.callS (As := [_]) (ls0 := [_]) (bd := (0, 0)) (bd' := (0, 0)) dX11_sure_1 kmX11_isTongue lkX11_94 (by decide) (by decide) (Nat.le_of_ble_eq_true rfl) rfl rfl (Nat.le_of_ble_eq_true rfl) rfl ?_
  refine ct_X11_isTongue (by omega) ?_
  show Wp _ _ _ (_ :: _) _ _ _
  refine Wp.if_eqB (tgt := 37) dX11_sure_4 (by decide) (fun c4 => ?_) (fun c4 => ?_)
  · refine Wp.sipush rfl dX11_sure_37 ?_
    refine Wp.ireturn dX11_sure_40 rfl ?_
    first | (exfalso; omega) | (first | exact qI (hq _ (Eqv.rf I)) (by unfold aSure; (repeat' split) <;> first | (exfalso; omega) | rfl) | (refine qI (hq _ eK) ?_; unfold aSure; rw [if_pos (by omega), if_pos (by omega)]; split <;> first | (exfalso; omega) | rfl | (rw [show Nat.gcd (upr I 255 a w mm c t).toNat (lwr I 255 a w mm c t).toNat = 1 by omega]; exact (Int.tdiv_one _).symm)))
  · refine Wp.iload_n rfl dX11_sure_7 ?_
    refine Wp.callS (As := [_]) (ls0 := [_]) (bd := (0, 0)) (bd' := (0, 0)) dX11_sure_8 kmX11_isWord lkX11_162 (by decide) (by decide) (Nat.le_of_ble_eq_true rfl) rfl rfl (Nat.le_of_ble_eq_true rfl) rfl ?_
    refine ct_X11_isWord (by omega) ?_
    show Wp _ _ _ (_ :: _) _ _ _
    refine Wp.if_eqB (tgt := 37) dX11_sure_11 (by decide) (fun c11 => ?_) (fun c11 => ?_)
    · refine Wp.sipush rfl dX11_sure_37 ?_
      refine Wp.ireturn dX11_sure_40 rfl ?_
      first | (exfalso; omega) | (first | exact qI (hq _ (Eqv.rf I)) (by unfold aSure; (repeat' split) <;> first | (exfalso; omega) | rfl) | (refine qI (hq _ eK) ?_; unfold aSure; rw [if_pos (by omega), if_pos (by omega)]; split <;> first | (exfalso; omega) | rfl | (rw [show Nat.gcd (upr I 255 a w mm c t).toNat (lwr I 255 a w mm c t).toNat = 1 by omega]; exact (Int.tdiv_one _).symm)))
    · refine Wp.iload_n rfl dX11_sure_14 ?_
      refine Wp.callS (As := [_]) (ls0 := [_]) (bd := (0, 0)) (bd' := (0, 0)) dX11_sure_15 kmX11_isTongue lkX11_94 (by decide) (by decide) (Nat.le_of_ble_eq_true rfl) rfl rfl (Nat.le_of_ble_eq_true rfl) rfl ?_
      refine ct_X11_isTongue (by omega) ?_
      show Wp _ _ _ (_ :: _) _ _ _
      refine Wp.if_eqB (tgt := 37) dX11_sure_18 (by decide) (fun c18 => ?_) (fun c18 => ?_)
      · refine Wp.sipush rfl dX11_sure_37 ?_
        refine Wp.ireturn dX11_sure_40 rfl ?_
        first | (exfalso; omega) | (first | exact qI (hq _ (Eqv.rf I)) (by unfold aSure; (repeat' split) <;> first | (exfalso; omega) | rfl) | (refine qI (hq _ eK) ?_; unfold aSure; rw [if_pos (by omega), if_pos (by omega)]; split <;> first | (exfalso; omega) | rfl | (rw [show Nat.gcd (upr I 255 a w mm c t).toNat (lwr I 255 a w mm c t).toNat = 1 by omega]; exact (Int.tdiv_one _).symm)))
      · refine Wp.iload rfl dX11_sure_21 ?_
        refine Wp.callS (As := [_]) (ls0 := [_]) (bd := (0, 0)) (bd' := (0, 0)) dX11_sure_23 kmX11_isTongue lkX11_94 (by decide) (by decide) (Nat.le_of_ble_eq_true rfl) rfl rfl (Nat.le_of_ble_eq_true rfl) rfl ?_
        refine ct_X11_isTongue (by omega) ?_
        show Wp _ _ _ (_ :: _) _ _ _
        refine Wp.if_eqB (tgt := 37) dX11_sure_26 (by decide) (fun c26 => ?_) (fun c26 => ?_)
        · refine Wp.sipush rfl dX11_sure_37 ?_
          refine Wp.ireturn dX11_sure_40 rfl ?_
          first | (exfalso; omega) | (first | exact qI (hq _ (Eqv.rf I)) (by unfold aSure; (repeat' split) <;> first | (exfalso; omega) | rfl) | (refine qI (hq _ eK) ?_; unfold aSure; rw [if_pos (by omega), if_pos (by omega)]; split <;> first | (exfalso; omega) | rfl | (rw [show Nat.gcd (upr I 255 a w mm c t).toNat (lwr I 255 a w mm c t).toNat = 1 by omega]; exact (Int.tdiv_one _).symm)))
        · refine Wp.iload rfl dX11_sure_29 ?_
          refine Wp.callS (As := [_]) (ls0 := [_]) (bd := (0, 0)) (bd' := (0, 0)) dX11_sure_31 kmX11_isWord lkX11_162 (by decide) (by decide) (Nat.le_of_ble_eq_true rfl) rfl rfl (Nat.le_of_ble_eq_true rfl) rfl ?_
          refine ct_X11_isWord (by omega) ?_
          show Wp _ _ _ (_ :: _) _ _ _
          refine Wp.if_neB (tgt := 41) dX11_sure_34 (by decide) (fun c34 => ?_) (fun c34 => ?_)
          · refine Wp.iload_n rfl dX11_sure_41 ?_
            refine Wp.iload_n rfl dX11_sure_42 ?_
            refine Wp.iload rfl dX11_sure_43 ?_
            refine Wp.callS (As := [_, _, _]) (ls0 := [_, _, _]) (bd := (0, 0)) (bd' := (0, 0)) dX11_sure_45 kmX11_differ lkX11_223 (by decide) (by decide) (Nat.le_of_ble_eq_true rfl) rfl rfl (Nat.le_of_ble_eq_true rfl) rfl ?_
            refine ct_X11_differ (by omega) (by omega) (by omega) ?_
            show Wp _ _ _ (_ :: _) _ _ _
            refine Wp.if_eqB (tgt := 62) dX11_sure_48 (by decide) (fun c48 => ?_) (fun c48 => ?_)
            · refine Wp.sipush rfl dX11_sure_62 ?_
              refine Wp.ireturn dX11_sure_65 rfl ?_
              first | (exfalso; omega) | (first | exact qI (hq _ (Eqv.rf I)) (by unfold aSure; (repeat' split) <;> first | (exfalso; omega) | rfl) | (refine qI (hq _ eK) ?_; unfold aSure; rw [if_pos (by omega), if_pos (by omega)]; split <;> first | (exfalso; omega) | rfl | (rw [show Nat.gcd (upr I 255 a w mm c t).toNat (lwr I 255 a w mm c t).toNat = 1 by omega]; exact (Int.tdiv_one _).symm)))
            · refine Wp.iload rfl dX11_sure_51 ?_
              refine Wp.if_lt (tgt := 62) dX11_sure_53 (by decide) (by first | omega | exact bI_R _ | exact cmp_R _ _ | assumption) (fun c53 => ?_) (fun c53 => ?_)
              · refine Wp.sipush rfl dX11_sure_62 ?_
                refine Wp.ireturn dX11_sure_65 rfl ?_
                first | (exfalso; omega) | (first | exact qI (hq _ (Eqv.rf I)) (by unfold aSure; (repeat' split) <;> first | (exfalso; omega) | rfl) | (refine qI (hq _ eK) ?_; unfold aSure; rw [if_pos (by omega), if_pos (by omega)]; split <;> first | (exfalso; omega) | rfl | (rw [show Nat.gcd (upr I 255 a w mm c t).toNat (lwr I 255 a w mm c t).toNat = 1 by omega]; exact (Int.tdiv_one _).symm)))
              · refine Wp.iload rfl dX11_sure_56 ?_
                refine Wp.iconst dX11_sure_58 ?_
                refine Wp.icmp_le (tgt := 66) dX11_sure_59 (by decide) (by first | omega | exact bI_R _ | exact cmp_R _ _ | assumption) (by first | omega | exact bI_R _ | exact cmp_R _ _ | assumption) (fun c59 => ?_) (fun c59 => ?_)
                · refine Wp.aload_n rfl dX11_sure_66 ?_
                  refine Wp.gr (kz := 3) rfl dX11_sure_67 fkX11_33 (by first | rfl | exact kd_b0 _ | exact kd_b1 _ | exact kd_b2 _ | exact kd_b3 _ | exact kd_b4 _ | exact kd_b5 _ | exact kd_b6 _) (by omega) (by first | exact hFx _ 3 _ rfl | assumption | exact hBk.1 | exact hBk.2.1 | exact hBk.2.2.1 | exact hBk.2.2.2.1 | exact hBk.2.2.2.2.1 | exact hBk.2.2.2.2.2) ?_
                  refine Wp.aload_n rfl dX11_sure_70 ?_
                  refine Wp.gr (kz := 2) rfl dX11_sure_71 fkX11_26 (by first | rfl | exact kd_b0 _ | exact kd_b1 _ | exact kd_b2 _ | exact kd_b3 _ | exact kd_b4 _ | exact kd_b5 _ | exact kd_b6 _) (by omega) (by first | exact hFx _ 2 _ rfl | assumption | exact hBk.1 | exact hBk.2.1 | exact hBk.2.2.1 | exact hBk.2.2.2.1 | exact hBk.2.2.2.2.1 | exact hBk.2.2.2.2.2) ?_
                  refine Wp.iload_n rfl dX11_sure_74 ?_
                  refine Wp.iload_n rfl dX11_sure_75 ?_
                  refine Wp.iload_n rfl dX11_sure_76 ?_
                  refine Wp.iload rfl dX11_sure_77 ?_
                  refine Wp.iload rfl dX11_sure_79 ?_
                  refine Wp.callV (As := [_, _, _, _, _, _]) (ls0 := [_, _, _, _, _, _, _, _, _, _, _, _]) (bd := (0, 0)) (bd' := (0, 0)) dX11_sure_81 kmX10_measure lkX11_231 (by decide) (by decide) (Nat.le_of_ble_eq_true rfl) (by first | rfl | exact kd_b0 _ | exact kd_b1 _ | exact kd_b2 _ | exact kd_b3 _ | exact kd_b4 _ | exact kd_b5 _ | exact kd_b6 _) (by omega) rfl rfl (Nat.le_of_ble_eq_true rfl) rfl ?_
                  refine ct_X10_measure hS (by omega) (by omega) (by omega) (by omega) (by omega) (by omega) (by omega) ?_
                  generalize hK : up (up I 6 0 (upr I 255 a w mm c t)) 6 1 (lwr I 255 a w mm c t) = K
                  have k0 : K 6 0 = upr I 255 a w mm c t := by rw [← hK]; simp (disch := omega) only [up_same, up_o, up_k]
                  have k1 : K 6 1 = lwr I 255 a w mm c t := by rw [← hK]; simp (disch := omega) only [up_same, up_o, up_k]
                  have eK : Eqv I K := by rw [← hK]; exact ((Eqv.rf I).wr (by unfold scr; omega)).wr (by unfold scr; omega)
                  clear hK
                  show Wp _ _ _ _ _ _ _
                  refine Wp.aload_n rfl dX11_sure_84 ?_
                  refine Wp.gr (kz := 3) rfl dX11_sure_85 fkX11_33 (by first | rfl | exact kd_b0 _ | exact kd_b1 _ | exact kd_b2 _ | exact kd_b3 _ | exact kd_b4 _ | exact kd_b5 _ | exact kd_b6 _) (by omega) (by first | exact hFx _ 3 _ rfl | assumption | exact hBk.1 | exact hBk.2.1 | exact hBk.2.2.1 | exact hBk.2.2.2.1 | exact hBk.2.2.2.2.1 | exact hBk.2.2.2.2.2) ?_
                  refine Wp.gi (kz := 0) rfl dX11_sure_88 fkX11_235 (by first | rfl | exact kd_b0 _ | exact kd_b1 _ | exact kd_b2 _ | exact kd_b3 _ | exact kd_b4 _ | exact kd_b5 _ | exact kd_b6 _) (by omega) ?_
                  refine Wp.aload_n rfl dX11_sure_91 ?_
                  refine Wp.gr (kz := 3) rfl dX11_sure_92 fkX11_33 (by first | rfl | exact kd_b0 _ | exact kd_b1 _ | exact kd_b2 _ | exact kd_b3 _ | exact kd_b4 _ | exact kd_b5 _ | exact kd_b6 _) (by omega) (by first | exact hFx _ 3 _ rfl | assumption | exact hBk.1 | exact hBk.2.1 | exact hBk.2.2.1 | exact hBk.2.2.2.1 | exact hBk.2.2.2.2.1 | exact hBk.2.2.2.2.2) ?_
                  refine Wp.gi (kz := 1) rfl dX11_sure_95 fkX11_238 (by first | rfl | exact kd_b0 _ | exact kd_b1 _ | exact kd_b2 _ | exact kd_b3 _ | exact kd_b4 _ | exact kd_b5 _ | exact kd_b6 _) (by omega) ?_
                  rw [k0, k1, eU, eL]
                  refine Wp.callS (As := [_, _]) (ls0 := [_, _, _, _, _, _]) (bd := (0, 0)) (bd' := (0, 0)) dX11_sure_98 kmX11_commonDivisor lkX11_241 (by decide) (by decide) (Nat.le_of_ble_eq_true rfl) rfl rfl (Nat.le_of_ble_eq_true rfl) rfl ?_
                  refine ct_X11_commonDivisor (by omega) (by omega) ?_
                  show Wp _ _ _ (_ :: _) _ _ _
                  refine Wp.istore (ls' := [_, _, _, _, _, _, _, _, _]) dX11_sure_101 (by decide) rfl ?_
                  refine Wp.iload rfl dX11_sure_103 ?_
                  refine Wp.if_ne (tgt := 118) dX11_sure_105 (by decide) (by first | omega | exact bI_R _ | exact cmp_R _ _ | assumption) (fun c105 => ?_) (fun c105 => ?_)
                  · refine Wp.aload_n rfl dX11_sure_118 ?_
                    refine Wp.gr (kz := 3) rfl dX11_sure_119 fkX11_33 (by first | rfl | exact kd_b0 _ | exact kd_b1 _ | exact kd_b2 _ | exact kd_b3 _ | exact kd_b4 _ | exact kd_b5 _ | exact kd_b6 _) (by omega) (by first | exact hFx _ 3 _ rfl | assumption | exact hBk.1 | exact hBk.2.1 | exact hBk.2.2.1 | exact hBk.2.2.2.1 | exact hBk.2.2.2.2.1 | exact hBk.2.2.2.2.2) ?_
                    refine Wp.gi (kz := 1) rfl dX11_sure_122 fkX11_238 (by first | rfl | exact kd_b0 _ | exact kd_b1 _ | exact kd_b2 _ | exact kd_b3 _ | exact kd_b4 _ | exact kd_b5 _ | exact kd_b6 _) (by omega) ?_
                    try rw [k0]
                    try rw [k1]
                    refine Wp.istore (ls' := [_, _, _, _, _, _, _, _, _]) dX11_sure_125 (by decide) rfl ?_
                    refine Wp.iload rfl dX11_sure_127 ?_
                    refine Wp.iconst dX11_sure_129 ?_
                    refine Wp.icmp_le (tgt := 141) dX11_sure_130 (by decide) (by first | omega | exact bI_R _ | exact cmp_R _ _ | assumption) (by first | omega | exact bI_R _ | exact cmp_R _ _ | assumption) (fun c130 => ?_) (fun c130 => ?_)
                    · refine Wp.iload rfl dX11_sure_141 ?_
                      refine Wp.ireturn dX11_sure_143 rfl ?_
                      first | (exfalso; omega) | (first | exact qI (hq _ (Eqv.rf I)) (by unfold aSure; (repeat' split) <;> first | (exfalso; omega) | rfl) | (refine qI (hq _ eK) ?_; unfold aSure; rw [if_pos (by omega), if_pos (by omega)]; split <;> first | (exfalso; omega) | rfl | (rw [show Nat.gcd (upr I 255 a w mm c t).toNat (lwr I 255 a w mm c t).toNat = 1 by omega]; exact (Int.tdiv_one _).symm)))
                    · refine Wp.iload rfl dX11_sure_133 ?_
                      refine Wp.iload rfl dX11_sure_135 ?_
                      refine Wp.idiv (by omega) (by omega) (by omega) dX11_sure_137 ?_
                      refine Wp.goto (tgt := 143) dX11_sure_138 (by decide) ?_
                      refine Wp.ireturn dX11_sure_143 rfl ?_
                      first | (exfalso; omega) | (first | exact qI (hq _ (Eqv.rf I)) (by unfold aSure; (repeat' split) <;> first | (exfalso; omega) | rfl) | (refine qI (hq _ eK) ?_; unfold aSure; rw [if_pos (by omega), if_pos (by omega)]; split <;> first | (exfalso; omega) | rfl | (rw [show Nat.gcd (upr I 255 a w mm c t).toNat (lwr I 255 a w mm c t).toNat = 1 by omega]; exact (Int.tdiv_one _).symm)))
                  · refine Wp.aload_n rfl dX11_sure_108 ?_
                    refine Wp.gr (kz := 3) rfl dX11_sure_109 fkX11_33 (by first | rfl | exact kd_b0 _ | exact kd_b1 _ | exact kd_b2 _ | exact kd_b3 _ | exact kd_b4 _ | exact kd_b5 _ | exact kd_b6 _) (by omega) (by first | exact hFx _ 3 _ rfl | assumption | exact hBk.1 | exact hBk.2.1 | exact hBk.2.2.1 | exact hBk.2.2.2.1 | exact hBk.2.2.2.2.1 | exact hBk.2.2.2.2.2) ?_
                    refine Wp.gi (kz := 0) rfl dX11_sure_112 fkX11_235 (by first | rfl | exact kd_b0 _ | exact kd_b1 _ | exact kd_b2 _ | exact kd_b3 _ | exact kd_b4 _ | exact kd_b5 _ | exact kd_b6 _) (by omega) ?_
                    refine Wp.goto (tgt := 125) dX11_sure_115 (by decide) ?_
                    try rw [k0]
                    try rw [k1]
                    refine Wp.istore (ls' := [_, _, _, _, _, _, _, _, _]) dX11_sure_125 (by decide) rfl ?_
                    refine Wp.iload rfl dX11_sure_127 ?_
                    refine Wp.iconst dX11_sure_129 ?_
                    refine Wp.icmp_le (tgt := 141) dX11_sure_130 (by decide) (by first | omega | exact bI_R _ | exact cmp_R _ _ | assumption) (by first | omega | exact bI_R _ | exact cmp_R _ _ | assumption) (fun c130 => ?_) (fun c130 => ?_)
                    · refine Wp.iload rfl dX11_sure_141 ?_
                      refine Wp.ireturn dX11_sure_143 rfl ?_
                      first | (exfalso; omega) | (first | exact qI (hq _ (Eqv.rf I)) (by unfold aSure; (repeat' split) <;> first | (exfalso; omega) | rfl) | (refine qI (hq _ eK) ?_; unfold aSure; rw [if_pos (by omega), if_pos (by omega)]; split <;> first | (exfalso; omega) | rfl | (rw [show Nat.gcd (upr I 255 a w mm c t).toNat (lwr I 255 a w mm c t).toNat = 1 by omega]; exact (Int.tdiv_one _).symm)))
                    · refine Wp.iload rfl dX11_sure_133 ?_
                      refine Wp.iload rfl dX11_sure_135 ?_
                      refine Wp.idiv (by omega) (by omega) (by omega) dX11_sure_137 ?_
                      refine Wp.goto (tgt := 143) dX11_sure_138 (by decide) ?_
                      refine Wp.ireturn dX11_sure_143 rfl ?_
                      first | (exfalso; omega) | (first | exact qI (hq _ (Eqv.rf I)) (by unfold aSure; (repeat' split) <;> first | (exfalso; omega) | rfl) | (refine qI (hq _ eK) ?_; unfold aSure; rw [if_pos (by omega), if_pos (by omega)]; split <;> first | (exfalso; omega) | rfl | (rw [show Nat.gcd (upr I 255 a w mm c t).toNat (lwr I 255 a w mm c t).toNat = 1 by omega]; exact (Int.tdiv_one _).symm)))
                · refine Wp.sipush rfl dX11_sure_62 ?_
                  refine Wp.ireturn dX11_sure_65 rfl ?_
                  first | (exfalso; omega) | (first | exact qI (hq _ (Eqv.rf I)) (by unfold aSure; (repeat' split) <;> first | (exfalso; omega) | rfl) | (refine qI (hq _ eK) ?_; unfold aSure; rw [if_pos (by omega), if_pos (by omega)]; split <;> first | (exfalso; omega) | rfl | (rw [show Nat.gcd (upr I 255 a w mm c t).toNat (lwr I 255 a w mm c t).toNat = 1 by omega]; exact (Int.tdiv_one _).symm)))
          · refine Wp.sipush rfl dX11_sure_37 ?_
            refine Wp.ireturn dX11_sure_40 rfl ?_
            first | (exfalso; omega) | (first | exact qI (hq _ (Eqv.rf I)) (by unfold aSure; (repeat' split) <;> first | (exfalso; omega) | rfl) | (refine qI (hq _ eK) ?_; unfold aSure; rw [if_pos (by omega), if_pos (by omega)]; split <;> first | (exfalso; omega) | rfl | (rw [show Nat.gcd (upr I 255 a w mm c t).toNat (lwr I 255 a w mm c t).toNat = 1 by omega]; exact (Int.tdiv_one _).symm)))
end

