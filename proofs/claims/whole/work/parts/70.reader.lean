/-! ===== the class's draft and reader: the methods that write ===== -/
section
variable {I J : Nat → Int → Int} {L K : Nat → Int → BitVec 64} {R : Nat → Int → Option Nat} {n kb : Nat} {Q : Option AV → Mm → Prop} {D : Dr} {nx hd v : Int}
theorem ct_X0_addEntry {w : Int} (hk : 57 + 7 * kb + 7 ≤ n) (hw : inR w) (hq : Q none (I, up L (57 + 7 * kb) 3 (L (57 + 7 * kb) 3 ||| onlyW w), R, n)) : Wp mX0_addEntry 0 [some (vr (some (57 + 7 * kb))), some (vi w)] [] (I, L, R, n) (0, 0) Q := by
  refine Wp.aload_n rfl dX0_addEntry_0 ?_
  first | refine Wp.dupR dX0_addEntry_1 ?_ | refine Wp.dupI dX0_addEntry_1 ?_
  refine Wp.gl (kz := 3) rfl dX0_addEntry_2 fkX0_41 (by first | rfl | exact kd_b0 _ | exact kd_b1 _ | exact kd_b2 _ | exact kd_b3 _ | exact kd_b4 _ | exact kd_b5 _ | exact kd_b6 _) (by omega) ?_
  refine Wp.iload_n rfl dX0_addEntry_5 ?_
  refine Wp.callS (As := [_]) (ls0 := [_]) (bd := (0, 0)) (bd' := (0, 0)) dX0_addEntry_6 kmX11_only lkX0_54 (by decide) (by decide) (Nat.le_of_ble_eq_true rfl) rfl rfl (Nat.le_of_ble_eq_true rfl) rfl ?_
  refine ct_X11_only (by omega) ?_
  show Wp _ _ _ (_ :: _) _ _ _
  refine Wp.lor dX0_addEntry_9 ?_
  refine Wp.pl (kz := 3) rfl dX0_addEntry_10 fkX0_41 (Or.inl rfl) (by first | rfl | exact kd_b0 _ | exact kd_b1 _ | exact kd_b2 _ | exact kd_b3 _ | exact kd_b4 _ | exact kd_b5 _ | exact kd_b6 _) (by omega) ?_
  refine Wp.vreturn dX0_addEntry_13 rfl ?_
  first | (exfalso; omega) | (exact hq)
theorem ct_X0_addSense {w s : Int} (hk : 57 + 7 * kb + 7 ≤ n) (hBk : Bk R kb) (h0 : 0 ≤ w) (h1 : w < 60) (hs : I (57 + 7 * kb + 1) w = s) (hs0 : 0 ≤ s) (hs3 : s < 3) (hb : ∀ w, 0 ≤ w → w < 60 → inR (I (57 + 7 * kb + 1) w)) (hq : Q none (up (up (up (up I (57 + 7 * kb + 1) w (s + 1)) (57 + 7 * kb) 4 (I (57 + 7 * kb) 4 + 1)) (57 + 7 * kb + 2) (w * 3 + s) (-1)) (57 + 7 * kb + 3) (w * 3 + s) 0, up (up L (57 + 7 * kb + 5) (w * 3 + s) 0#64) (57 + 7 * kb + 6) (w * 3 + s) 0#64, R, n)) : Wp mX0_addSense 0 [some (vr (some (57 + 7 * kb))), some (vi w), none] [] (I, L, R, n) (0, 0) Q := by
  have hb2 : ∀ w', 0 ≤ w' → w' < 60 → inR (up (up I (57 + 7 * kb + 1) w (s + 1)) (57 + 7 * kb) 4 (I (57 + 7 * kb) 4 + 1) (57 + 7 * kb + 1) w') := fun w' a b => by
    rw [up_o _ _ _ _ (by omega)]
    by_cases hw : w' = w
    · subst hw; rw [up_same]; omega
    · rw [up_k _ _ _ _ hw]; exact hb w' a b
  have hpl : plc (up (up I (57 + 7 * kb + 1) w (s + 1)) (57 + 7 * kb) 4 (I (57 + 7 * kb) 4 + 1)) kb w (s + 1 - 1) = w * 3 + s := by
    unfold plc
    rw [if_pos ⟨h0, h1, by omega, by omega, by rw [up_o _ _ _ _ (by omega), up_same]; omega⟩]; omega
  refine Wp.iload_n rfl dX0_addSense_0 ?_
  refine Wp.callS (As := [_]) (ls0 := [_]) (bd := (0, 0)) (bd' := (0, 0)) dX0_addSense_1 kmX11_isWord lkX0_58 (by decide) (by decide) (Nat.le_of_ble_eq_true rfl) rfl rfl (Nat.le_of_ble_eq_true rfl) rfl ?_
  refine ct_X11_isWord (by omega) ?_
  show Wp _ _ _ (_ :: _) _ _ _
  refine Wp.if_eqB (tgt := 17) dX0_addSense_4 (by decide) (fun c4 => ?_) (fun c4 => ?_)
  · refine Wp.vreturn dX0_addSense_17 rfl ?_
    first | (exfalso; omega) | (exact hq)
  · refine Wp.aload_n rfl dX0_addSense_7 ?_
    refine Wp.gr (kz := 7) rfl dX0_addSense_8 fkX0_9 (by first | rfl | exact kd_b0 _ | exact kd_b1 _ | exact kd_b2 _ | exact kd_b3 _ | exact kd_b4 _ | exact kd_b5 _ | exact kd_b6 _) (by omega) (by first | exact hFx _ 7 _ rfl | assumption | exact hBk.1 | exact hBk.2.1 | exact hBk.2.2.1 | exact hBk.2.2.2.1 | exact hBk.2.2.2.2.1 | exact hBk.2.2.2.2.2) ?_
    refine Wp.iload_n rfl dX0_addSense_11 ?_
    refine Wp.iaload dX0_addSense_12 (by first | rfl | exact kd_b0 _ | exact kd_b1 _ | exact kd_b2 _ | exact kd_b3 _ | exact kd_b4 _ | exact kd_b5 _ | exact kd_b6 _) (by omega) (by omega) (by omega) ?_
    rw [hs]
    refine Wp.iconst dX0_addSense_13 ?_
    refine Wp.icmp_lt (tgt := 18) dX0_addSense_14 (by decide) (by first | omega | exact bI_R _ | exact cmp_R _ _ | assumption) (by first | omega | exact bI_R _ | exact cmp_R _ _ | assumption) (fun c14 => ?_) (fun c14 => ?_)
    · refine Wp.aload_n rfl dX0_addSense_18 ?_
      refine Wp.gr (kz := 7) rfl dX0_addSense_19 fkX0_9 (by first | rfl | exact kd_b0 _ | exact kd_b1 _ | exact kd_b2 _ | exact kd_b3 _ | exact kd_b4 _ | exact kd_b5 _ | exact kd_b6 _) (by omega) (by first | exact hFx _ 7 _ rfl | assumption | exact hBk.1 | exact hBk.2.1 | exact hBk.2.2.1 | exact hBk.2.2.2.1 | exact hBk.2.2.2.2.1 | exact hBk.2.2.2.2.2) ?_
      refine Wp.iload_n rfl dX0_addSense_22 ?_
      first | refine Wp.dup2IR dX0_addSense_23 ?_ | refine Wp.dup2II dX0_addSense_23 ?_
      refine Wp.iaload dX0_addSense_24 (by first | rfl | exact kd_b0 _ | exact kd_b1 _ | exact kd_b2 _ | exact kd_b3 _ | exact kd_b4 _ | exact kd_b5 _ | exact kd_b6 _) (by omega) (by omega) (by omega) ?_
      rw [hs]
      refine Wp.iconst dX0_addSense_25 ?_
      refine Wp.iadd dX0_addSense_26 ?_
      refine Wp.iastore dX0_addSense_27 (by first | rfl | exact kd_b0 _ | exact kd_b1 _ | exact kd_b2 _ | exact kd_b3 _ | exact kd_b4 _ | exact kd_b5 _ | exact kd_b6 _) (by omega) (by omega) (by omega) ?_
      refine Wp.aload_n rfl dX0_addSense_28 ?_
      first | refine Wp.dupR dX0_addSense_29 ?_ | refine Wp.dupI dX0_addSense_29 ?_
      refine Wp.gi (kz := 4) rfl dX0_addSense_30 fkX0_45 (by first | rfl | exact kd_b0 _ | exact kd_b1 _ | exact kd_b2 _ | exact kd_b3 _ | exact kd_b4 _ | exact kd_b5 _ | exact kd_b6 _) (by omega) ?_
      try simp (disch := omega) only [up_same, up_o, up_k]
      refine Wp.iconst dX0_addSense_33 ?_
      refine Wp.iadd dX0_addSense_34 ?_
      refine Wp.pi (kz := 4) rfl dX0_addSense_35 fkX0_45 (Or.inl rfl) (Or.inl rfl) (by first | rfl | exact kd_b0 _ | exact kd_b1 _ | exact kd_b2 _ | exact kd_b3 _ | exact kd_b4 _ | exact kd_b5 _ | exact kd_b6 _) (by omega) ?_
      refine Wp.aload_n rfl dX0_addSense_38 ?_
      refine Wp.iload_n rfl dX0_addSense_39 ?_
      refine Wp.aload_n rfl dX0_addSense_40 ?_
      refine Wp.gr (kz := 7) rfl dX0_addSense_41 fkX0_9 (by first | rfl | exact kd_b0 _ | exact kd_b1 _ | exact kd_b2 _ | exact kd_b3 _ | exact kd_b4 _ | exact kd_b5 _ | exact kd_b6 _) (by omega) (by first | exact hFx _ 7 _ rfl | assumption | exact hBk.1 | exact hBk.2.1 | exact hBk.2.2.1 | exact hBk.2.2.2.1 | exact hBk.2.2.2.2.1 | exact hBk.2.2.2.2.2) ?_
      try simp (disch := omega) only [up_same, up_o, up_k]
      refine Wp.iload_n rfl dX0_addSense_44 ?_
      refine Wp.iaload dX0_addSense_45 (by first | rfl | exact kd_b0 _ | exact kd_b1 _ | exact kd_b2 _ | exact kd_b3 _ | exact kd_b4 _ | exact kd_b5 _ | exact kd_b6 _) (by omega) (by omega) (by omega) ?_
      try simp (disch := omega) only [up_same, up_o, up_k]
      refine Wp.iconst dX0_addSense_46 ?_
      refine Wp.isub dX0_addSense_47 ?_
      refine Wp.callV (As := [_, _]) (ls0 := [_, _, _]) (bd := (0, 0)) (bd' := (0, 0)) dX0_addSense_48 kmX0_placeOf lkX0_62 (by decide) (by decide) (Nat.le_of_ble_eq_true rfl) (by first | rfl | exact kd_b0 _ | exact kd_b1 _ | exact kd_b2 _ | exact kd_b3 _ | exact kd_b4 _ | exact kd_b5 _ | exact kd_b6 _) (by omega) rfl rfl (Nat.le_of_ble_eq_true rfl) rfl ?_
      refine ct_X0_placeOf hk hBk (by omega) (by omega) hb2 ?_
      rw [hpl]
      show Wp _ _ _ (_ :: _) _ _ _
      refine Wp.istore_n (ls' := [_, _, _]) dX0_addSense_51 (by decide) rfl ?_
      refine Wp.iload_n rfl dX0_addSense_52 ?_
      refine Wp.iconst dX0_addSense_53 ?_
      refine Wp.icmp_ne (tgt := 58) dX0_addSense_54 (by decide) (by first | omega | exact bI_R _ | exact cmp_R _ _ | assumption) (by first | omega | exact bI_R _ | exact cmp_R _ _ | assumption) (fun c54 => ?_) (fun c54 => ?_)
      · refine Wp.aload_n rfl dX0_addSense_58 ?_
        refine Wp.gr (kz := 8) rfl dX0_addSense_59 fkX0_15 (by first | rfl | exact kd_b0 _ | exact kd_b1 _ | exact kd_b2 _ | exact kd_b3 _ | exact kd_b4 _ | exact kd_b5 _ | exact kd_b6 _) (by omega) (by first | exact hFx _ 8 _ rfl | assumption | exact hBk.1 | exact hBk.2.1 | exact hBk.2.2.1 | exact hBk.2.2.2.1 | exact hBk.2.2.2.2.1 | exact hBk.2.2.2.2.2) ?_
        try simp (disch := omega) only [up_same, up_o, up_k]
        refine Wp.iload_n rfl dX0_addSense_62 ?_
        refine Wp.iconst dX0_addSense_63 ?_
        refine Wp.iastore dX0_addSense_64 (by first | rfl | exact kd_b0 _ | exact kd_b1 _ | exact kd_b2 _ | exact kd_b3 _ | exact kd_b4 _ | exact kd_b5 _ | exact kd_b6 _) (by omega) (by omega) (by omega) ?_
        refine Wp.aload_n rfl dX0_addSense_65 ?_
        refine Wp.gr (kz := 9) rfl dX0_addSense_66 fkX0_18 (by first | rfl | exact kd_b0 _ | exact kd_b1 _ | exact kd_b2 _ | exact kd_b3 _ | exact kd_b4 _ | exact kd_b5 _ | exact kd_b6 _) (by omega) (by first | exact hFx _ 9 _ rfl | assumption | exact hBk.1 | exact hBk.2.1 | exact hBk.2.2.1 | exact hBk.2.2.2.1 | exact hBk.2.2.2.2.1 | exact hBk.2.2.2.2.2) ?_
        try simp (disch := omega) only [up_same, up_o, up_k]
        refine Wp.iload_n rfl dX0_addSense_69 ?_
        refine Wp.iconst dX0_addSense_70 ?_
        refine Wp.iastore dX0_addSense_71 (by first | rfl | exact kd_b0 _ | exact kd_b1 _ | exact kd_b2 _ | exact kd_b3 _ | exact kd_b4 _ | exact kd_b5 _ | exact kd_b6 _) (by omega) (by omega) (by omega) ?_
        refine Wp.aload_n rfl dX0_addSense_72 ?_
        refine Wp.gr (kz := 11) rfl dX0_addSense_73 fkX0_24 (by first | rfl | exact kd_b0 _ | exact kd_b1 _ | exact kd_b2 _ | exact kd_b3 _ | exact kd_b4 _ | exact kd_b5 _ | exact kd_b6 _) (by omega) (by first | exact hFx _ 11 _ rfl | assumption | exact hBk.1 | exact hBk.2.1 | exact hBk.2.2.1 | exact hBk.2.2.2.1 | exact hBk.2.2.2.2.1 | exact hBk.2.2.2.2.2) ?_
        try simp (disch := omega) only [up_same, up_o, up_k]
        refine Wp.iload_n rfl dX0_addSense_76 ?_
        refine Wp.lconst0 dX0_addSense_77 ?_
        refine Wp.lastore dX0_addSense_78 (by first | rfl | exact kd_b0 _ | exact kd_b1 _ | exact kd_b2 _ | exact kd_b3 _ | exact kd_b4 _ | exact kd_b5 _ | exact kd_b6 _) (by omega) (by omega) (by omega) ?_
        refine Wp.aload_n rfl dX0_addSense_79 ?_
        refine Wp.gr (kz := 12) rfl dX0_addSense_80 fkX0_28 (by first | rfl | exact kd_b0 _ | exact kd_b1 _ | exact kd_b2 _ | exact kd_b3 _ | exact kd_b4 _ | exact kd_b5 _ | exact kd_b6 _) (by omega) (by first | exact hFx _ 12 _ rfl | assumption | exact hBk.1 | exact hBk.2.1 | exact hBk.2.2.1 | exact hBk.2.2.2.1 | exact hBk.2.2.2.2.1 | exact hBk.2.2.2.2.2) ?_
        try simp (disch := omega) only [up_same, up_o, up_k]
        refine Wp.iload_n rfl dX0_addSense_83 ?_
        refine Wp.lconst0 dX0_addSense_84 ?_
        refine Wp.lastore dX0_addSense_85 (by first | rfl | exact kd_b0 _ | exact kd_b1 _ | exact kd_b2 _ | exact kd_b3 _ | exact kd_b4 _ | exact kd_b5 _ | exact kd_b6 _) (by omega) (by omega) (by omega) ?_
        refine Wp.vreturn dX0_addSense_86 rfl ?_
        first | (exfalso; omega) | (exact hq)
      · refine Wp.vreturn dX0_addSense_57 rfl ?_
        first | (exfalso; omega) | (exact hq)
    · refine Wp.vreturn dX0_addSense_17 rfl ?_
      first | (exfalso; omega) | (exact hq)
theorem ct_X0_tellField {w s f : Int} (hk : 57 + 7 * kb + 7 ≤ n) (hBk : Bk R kb) (h0 : 0 ≤ w) (h1 : w < 60) (hs : I (57 + 7 * kb + 1) w = s) (hs0 : 1 ≤ s) (hs3 : s ≤ 3) (hb : ∀ w, 0 ≤ w → w < 60 → inR (I (57 + 7 * kb + 1) w)) (hq : Q none (up I (57 + 7 * kb + 2) (w * 3 + (s - 1)) f, L, R, n)) : Wp mX0_tellField 0 [some (vr (some (57 + 7 * kb))), some (vi w), some (vi f), none] [] (I, L, R, n) (0, 0) Q := by
  have hsn : snsOf I kb w = s := by unfold snsOf; rw [if_pos ⟨h0, h1⟩]; exact hs
  have hpl : plc I kb w (s - 1) = w * 3 + (s - 1) := by unfold plc; rw [if_pos (by omega)]
  refine Wp.aload_n rfl dX0_tellField_0 ?_
  refine Wp.iload_n rfl dX0_tellField_1 ?_
  refine Wp.aload_n rfl dX0_tellField_2 ?_
  refine Wp.iload_n rfl dX0_tellField_3 ?_
  refine Wp.callV (As := [_]) (ls0 := [_, _]) (bd := (0, 0)) (bd' := (0, 0)) dX0_tellField_4 kmX0_sensesOf lkX0_66 (by decide) (by decide) (Nat.le_of_ble_eq_true rfl) (by first | rfl | exact kd_b0 _ | exact kd_b1 _ | exact kd_b2 _ | exact kd_b3 _ | exact kd_b4 _ | exact kd_b5 _ | exact kd_b6 _) (by omega) rfl rfl (Nat.le_of_ble_eq_true rfl) rfl ?_
  refine ct_X0_sensesOf hk hBk (by omega) ?_
  rw [hsn]
  show Wp _ _ _ (_ :: _) _ _ _
  refine Wp.iconst dX0_tellField_7 ?_
  refine Wp.isub dX0_tellField_8 ?_
  refine Wp.callV (As := [_, _]) (ls0 := [_, _, _]) (bd := (0, 0)) (bd' := (0, 0)) dX0_tellField_9 kmX0_placeOf lkX0_62 (by decide) (by decide) (Nat.le_of_ble_eq_true rfl) (by first | rfl | exact kd_b0 _ | exact kd_b1 _ | exact kd_b2 _ | exact kd_b3 _ | exact kd_b4 _ | exact kd_b5 _ | exact kd_b6 _) (by omega) rfl rfl (Nat.le_of_ble_eq_true rfl) rfl ?_
  refine ct_X0_placeOf hk hBk (by omega) (by omega) hb ?_
  rw [hpl]
  show Wp _ _ _ (_ :: _) _ _ _
  refine Wp.istore_n (ls' := [_, _, _, _]) dX0_tellField_12 (by decide) rfl ?_
  refine Wp.iload_n rfl dX0_tellField_13 ?_
  refine Wp.iconst dX0_tellField_14 ?_
  refine Wp.icmp_eq (tgt := 25) dX0_tellField_15 (by decide) (by first | omega | exact bI_R _ | exact cmp_R _ _ | assumption) (by first | omega | exact bI_R _ | exact cmp_R _ _ | assumption) (fun c15 => ?_) (fun c15 => ?_)
  · refine Wp.vreturn dX0_tellField_25 rfl ?_
    first | (exfalso; omega) | (exact hq)
  · refine Wp.aload_n rfl dX0_tellField_18 ?_
    refine Wp.gr (kz := 8) rfl dX0_tellField_19 fkX0_15 (by first | rfl | exact kd_b0 _ | exact kd_b1 _ | exact kd_b2 _ | exact kd_b3 _ | exact kd_b4 _ | exact kd_b5 _ | exact kd_b6 _) (by omega) (by first | exact hFx _ 8 _ rfl | assumption | exact hBk.1 | exact hBk.2.1 | exact hBk.2.2.1 | exact hBk.2.2.2.1 | exact hBk.2.2.2.2.1 | exact hBk.2.2.2.2.2) ?_
    refine Wp.iload_n rfl dX0_tellField_22 ?_
    refine Wp.iload_n rfl dX0_tellField_23 ?_
    refine Wp.iastore dX0_tellField_24 (by first | rfl | exact kd_b0 _ | exact kd_b1 _ | exact kd_b2 _ | exact kd_b3 _ | exact kd_b4 _ | exact kd_b5 _ | exact kd_b6 _) (by omega) (by omega) (by omega) ?_
    refine Wp.vreturn dX0_tellField_25 rfl ?_
    first | (exfalso; omega) | (exact hq)
theorem ct_X0_addWord {w s t z : Int} (hk : 57 + 7 * kb + 7 ≤ n) (hBk : Bk R kb) (h0 : 0 ≤ w) (h1 : w < 60) (ht : inR t) (hs : I (57 + 7 * kb + 1) w = s) (hs0 : 1 ≤ s) (hs3 : s ≤ 3) (hz : I (57 + 7 * kb + 3) (w * 3 + (s - 1)) = z) (hz0 : 0 ≤ z) (hz6 : z < 6) (hb : ∀ w, 0 ≤ w → w < 60 → inR (I (57 + 7 * kb + 1) w)) (hq : Q none (up (up (up I (57 + 7 * kb + 4) ((w * 3 + (s - 1)) * 6 + z) t) (57 + 7 * kb + 3) (w * 3 + (s - 1)) (z + 1)) (57 + 7 * kb) 5 (I (57 + 7 * kb) 5 + 1), up (up L (57 + 7 * kb + 5) (w * 3 + (s - 1)) (L (57 + 7 * kb + 5) (w * 3 + (s - 1)) ||| onlyW t)) (57 + 7 * kb + 6) (w * 3 + (s - 1)) (L (57 + 7 * kb + 6) (w * 3 + (s - 1)) ||| onlyW t), R, n)) : Wp mX0_addWord 0 [some (vr (some (57 + 7 * kb))), some (vi w), some (vi t), none] [] (I, L, R, n) (0, 0) Q := by
  have hsn : snsOf I kb w = s := by unfold snsOf; rw [if_pos ⟨h0, h1⟩]; exact hs
  have hpl : plc I kb w (s - 1) = w * 3 + (s - 1) := by unfold plc; rw [if_pos (by omega)]
  refine Wp.aload_n rfl dX0_addWord_0 ?_
  refine Wp.iload_n rfl dX0_addWord_1 ?_
  refine Wp.aload_n rfl dX0_addWord_2 ?_
  refine Wp.iload_n rfl dX0_addWord_3 ?_
  refine Wp.callV (As := [_]) (ls0 := [_, _]) (bd := (0, 0)) (bd' := (0, 0)) dX0_addWord_4 kmX0_sensesOf lkX0_66 (by decide) (by decide) (Nat.le_of_ble_eq_true rfl) (by first | rfl | exact kd_b0 _ | exact kd_b1 _ | exact kd_b2 _ | exact kd_b3 _ | exact kd_b4 _ | exact kd_b5 _ | exact kd_b6 _) (by omega) rfl rfl (Nat.le_of_ble_eq_true rfl) rfl ?_
  refine ct_X0_sensesOf hk hBk (by omega) ?_
  rw [hsn]
  show Wp _ _ _ (_ :: _) _ _ _
  refine Wp.iconst dX0_addWord_7 ?_
  refine Wp.isub dX0_addWord_8 ?_
  refine Wp.callV (As := [_, _]) (ls0 := [_, _, _]) (bd := (0, 0)) (bd' := (0, 0)) dX0_addWord_9 kmX0_placeOf lkX0_62 (by decide) (by decide) (Nat.le_of_ble_eq_true rfl) (by first | rfl | exact kd_b0 _ | exact kd_b1 _ | exact kd_b2 _ | exact kd_b3 _ | exact kd_b4 _ | exact kd_b5 _ | exact kd_b6 _) (by omega) rfl rfl (Nat.le_of_ble_eq_true rfl) rfl ?_
  refine ct_X0_placeOf hk hBk (by omega) (by omega) hb ?_
  rw [hpl]
  show Wp _ _ _ (_ :: _) _ _ _
  refine Wp.istore_n (ls' := [_, _, _, _]) dX0_addWord_12 (by decide) rfl ?_
  refine Wp.iload_n rfl dX0_addWord_13 ?_
  refine Wp.iconst dX0_addWord_14 ?_
  refine Wp.icmp_eq (tgt := 38) dX0_addWord_15 (by decide) (by first | omega | exact bI_R _ | exact cmp_R _ _ | assumption) (by first | omega | exact bI_R _ | exact cmp_R _ _ | assumption) (fun c15 => ?_) (fun c15 => ?_)
  · refine Wp.vreturn dX0_addWord_38 rfl ?_
    first | (exfalso; omega) | (exact hq)
  · refine Wp.aload_n rfl dX0_addWord_18 ?_
    refine Wp.gr (kz := 9) rfl dX0_addWord_19 fkX0_18 (by first | rfl | exact kd_b0 _ | exact kd_b1 _ | exact kd_b2 _ | exact kd_b3 _ | exact kd_b4 _ | exact kd_b5 _ | exact kd_b6 _) (by omega) (by first | exact hFx _ 9 _ rfl | assumption | exact hBk.1 | exact hBk.2.1 | exact hBk.2.2.1 | exact hBk.2.2.2.1 | exact hBk.2.2.2.2.1 | exact hBk.2.2.2.2.2) ?_
    refine Wp.iload_n rfl dX0_addWord_22 ?_
    refine Wp.iaload dX0_addWord_23 (by first | rfl | exact kd_b0 _ | exact kd_b1 _ | exact kd_b2 _ | exact kd_b3 _ | exact kd_b4 _ | exact kd_b5 _ | exact kd_b6 _) (by omega) (by omega) (by omega) ?_
    rw [hz]
    refine Wp.if_lt (tgt := 38) dX0_addWord_24 (by decide) (by first | omega | exact bI_R _ | exact cmp_R _ _ | assumption) (fun c24 => ?_) (fun c24 => ?_)
    · refine Wp.vreturn dX0_addWord_38 rfl ?_
      first | (exfalso; omega) | (exact hq)
    · refine Wp.aload_n rfl dX0_addWord_27 ?_
      refine Wp.gr (kz := 9) rfl dX0_addWord_28 fkX0_18 (by first | rfl | exact kd_b0 _ | exact kd_b1 _ | exact kd_b2 _ | exact kd_b3 _ | exact kd_b4 _ | exact kd_b5 _ | exact kd_b6 _) (by omega) (by first | exact hFx _ 9 _ rfl | assumption | exact hBk.1 | exact hBk.2.1 | exact hBk.2.2.1 | exact hBk.2.2.2.1 | exact hBk.2.2.2.2.1 | exact hBk.2.2.2.2.2) ?_
      refine Wp.iload_n rfl dX0_addWord_31 ?_
      refine Wp.iaload dX0_addWord_32 (by first | rfl | exact kd_b0 _ | exact kd_b1 _ | exact kd_b2 _ | exact kd_b3 _ | exact kd_b4 _ | exact kd_b5 _ | exact kd_b6 _) (by omega) (by omega) (by omega) ?_
      rw [hz]
      refine Wp.bipush rfl dX0_addWord_33 ?_
      refine Wp.icmp_lt (tgt := 39) dX0_addWord_35 (by decide) (by first | omega | exact bI_R _ | exact cmp_R _ _ | assumption) (by first | omega | exact bI_R _ | exact cmp_R _ _ | assumption) (fun c35 => ?_) (fun c35 => ?_)
      · refine Wp.aload_n rfl dX0_addWord_39 ?_
        refine Wp.gr (kz := 10) rfl dX0_addWord_40 fkX0_21 (by first | rfl | exact kd_b0 _ | exact kd_b1 _ | exact kd_b2 _ | exact kd_b3 _ | exact kd_b4 _ | exact kd_b5 _ | exact kd_b6 _) (by omega) (by first | exact hFx _ 10 _ rfl | assumption | exact hBk.1 | exact hBk.2.1 | exact hBk.2.2.1 | exact hBk.2.2.2.1 | exact hBk.2.2.2.2.1 | exact hBk.2.2.2.2.2) ?_
        refine Wp.iload_n rfl dX0_addWord_43 ?_
        refine Wp.bipush rfl dX0_addWord_44 ?_
        refine Wp.imul dX0_addWord_46 ?_
        refine Wp.aload_n rfl dX0_addWord_47 ?_
        refine Wp.gr (kz := 9) rfl dX0_addWord_48 fkX0_18 (by first | rfl | exact kd_b0 _ | exact kd_b1 _ | exact kd_b2 _ | exact kd_b3 _ | exact kd_b4 _ | exact kd_b5 _ | exact kd_b6 _) (by omega) (by first | exact hFx _ 9 _ rfl | assumption | exact hBk.1 | exact hBk.2.1 | exact hBk.2.2.1 | exact hBk.2.2.2.1 | exact hBk.2.2.2.2.1 | exact hBk.2.2.2.2.2) ?_
        refine Wp.iload_n rfl dX0_addWord_51 ?_
        refine Wp.iaload dX0_addWord_52 (by first | rfl | exact kd_b0 _ | exact kd_b1 _ | exact kd_b2 _ | exact kd_b3 _ | exact kd_b4 _ | exact kd_b5 _ | exact kd_b6 _) (by omega) (by omega) (by omega) ?_
        rw [hz]
        refine Wp.iadd dX0_addWord_53 ?_
        refine Wp.iload_n rfl dX0_addWord_54 ?_
        refine Wp.iastore dX0_addWord_55 (by first | rfl | exact kd_b0 _ | exact kd_b1 _ | exact kd_b2 _ | exact kd_b3 _ | exact kd_b4 _ | exact kd_b5 _ | exact kd_b6 _) (by omega) (by omega) (by omega) ?_
        refine Wp.aload_n rfl dX0_addWord_56 ?_
        refine Wp.gr (kz := 9) rfl dX0_addWord_57 fkX0_18 (by first | rfl | exact kd_b0 _ | exact kd_b1 _ | exact kd_b2 _ | exact kd_b3 _ | exact kd_b4 _ | exact kd_b5 _ | exact kd_b6 _) (by omega) (by first | exact hFx _ 9 _ rfl | assumption | exact hBk.1 | exact hBk.2.1 | exact hBk.2.2.1 | exact hBk.2.2.2.1 | exact hBk.2.2.2.2.1 | exact hBk.2.2.2.2.2) ?_
        try simp (disch := omega) only [up_same, up_o, up_k]
        refine Wp.iload_n rfl dX0_addWord_60 ?_
        first | refine Wp.dup2IR dX0_addWord_61 ?_ | refine Wp.dup2II dX0_addWord_61 ?_
        refine Wp.iaload dX0_addWord_62 (by first | rfl | exact kd_b0 _ | exact kd_b1 _ | exact kd_b2 _ | exact kd_b3 _ | exact kd_b4 _ | exact kd_b5 _ | exact kd_b6 _) (by omega) (by omega) (by omega) ?_
        try simp (disch := omega) only [up_same, up_o, up_k]
        rw [hz]
        refine Wp.iconst dX0_addWord_63 ?_
        refine Wp.iadd dX0_addWord_64 ?_
        refine Wp.iastore dX0_addWord_65 (by first | rfl | exact kd_b0 _ | exact kd_b1 _ | exact kd_b2 _ | exact kd_b3 _ | exact kd_b4 _ | exact kd_b5 _ | exact kd_b6 _) (by omega) (by omega) (by omega) ?_
        refine Wp.aload_n rfl dX0_addWord_66 ?_
        refine Wp.gr (kz := 11) rfl dX0_addWord_67 fkX0_24 (by first | rfl | exact kd_b0 _ | exact kd_b1 _ | exact kd_b2 _ | exact kd_b3 _ | exact kd_b4 _ | exact kd_b5 _ | exact kd_b6 _) (by omega) (by first | exact hFx _ 11 _ rfl | assumption | exact hBk.1 | exact hBk.2.1 | exact hBk.2.2.1 | exact hBk.2.2.2.1 | exact hBk.2.2.2.2.1 | exact hBk.2.2.2.2.2) ?_
        try simp (disch := omega) only [up_same, up_o, up_k]
        refine Wp.iload_n rfl dX0_addWord_70 ?_
        first | refine Wp.dup2IR dX0_addWord_71 ?_ | refine Wp.dup2II dX0_addWord_71 ?_
        refine Wp.laload dX0_addWord_72 (by first | rfl | exact kd_b0 _ | exact kd_b1 _ | exact kd_b2 _ | exact kd_b3 _ | exact kd_b4 _ | exact kd_b5 _ | exact kd_b6 _) (by omega) (by omega) (by omega) ?_
        try simp (disch := omega) only [up_same, up_o, up_k]
        refine Wp.iload_n rfl dX0_addWord_73 ?_
        refine Wp.callS (As := [_]) (ls0 := [_]) (bd := (0, 0)) (bd' := (0, 0)) dX0_addWord_74 kmX11_only lkX0_54 (by decide) (by decide) (Nat.le_of_ble_eq_true rfl) rfl rfl (Nat.le_of_ble_eq_true rfl) rfl ?_
        refine ct_X11_only (by omega) ?_
        show Wp _ _ _ (_ :: _) _ _ _
        refine Wp.lor dX0_addWord_77 ?_
        refine Wp.lastore dX0_addWord_78 (by first | rfl | exact kd_b0 _ | exact kd_b1 _ | exact kd_b2 _ | exact kd_b3 _ | exact kd_b4 _ | exact kd_b5 _ | exact kd_b6 _) (by omega) (by omega) (by omega) ?_
        refine Wp.aload_n rfl dX0_addWord_79 ?_
        refine Wp.gr (kz := 12) rfl dX0_addWord_80 fkX0_28 (by first | rfl | exact kd_b0 _ | exact kd_b1 _ | exact kd_b2 _ | exact kd_b3 _ | exact kd_b4 _ | exact kd_b5 _ | exact kd_b6 _) (by omega) (by first | exact hFx _ 12 _ rfl | assumption | exact hBk.1 | exact hBk.2.1 | exact hBk.2.2.1 | exact hBk.2.2.2.1 | exact hBk.2.2.2.2.1 | exact hBk.2.2.2.2.2) ?_
        try simp (disch := omega) only [up_same, up_o, up_k]
        refine Wp.iload_n rfl dX0_addWord_83 ?_
        first | refine Wp.dup2IR dX0_addWord_84 ?_ | refine Wp.dup2II dX0_addWord_84 ?_
        refine Wp.laload dX0_addWord_85 (by first | rfl | exact kd_b0 _ | exact kd_b1 _ | exact kd_b2 _ | exact kd_b3 _ | exact kd_b4 _ | exact kd_b5 _ | exact kd_b6 _) (by omega) (by omega) (by omega) ?_
        try simp (disch := omega) only [up_same, up_o, up_k]
        refine Wp.iload_n rfl dX0_addWord_86 ?_
        refine Wp.callS (As := [_]) (ls0 := [_]) (bd := (0, 0)) (bd' := (0, 0)) dX0_addWord_87 kmX11_only lkX0_54 (by decide) (by decide) (Nat.le_of_ble_eq_true rfl) rfl rfl (Nat.le_of_ble_eq_true rfl) rfl ?_
        refine ct_X11_only (by omega) ?_
        show Wp _ _ _ (_ :: _) _ _ _
        refine Wp.lor dX0_addWord_90 ?_
        refine Wp.lastore dX0_addWord_91 (by first | rfl | exact kd_b0 _ | exact kd_b1 _ | exact kd_b2 _ | exact kd_b3 _ | exact kd_b4 _ | exact kd_b5 _ | exact kd_b6 _) (by omega) (by omega) (by omega) ?_
        refine Wp.aload_n rfl dX0_addWord_92 ?_
        first | refine Wp.dupR dX0_addWord_93 ?_ | refine Wp.dupI dX0_addWord_93 ?_
        refine Wp.gi (kz := 5) rfl dX0_addWord_94 fkX0_48 (by first | rfl | exact kd_b0 _ | exact kd_b1 _ | exact kd_b2 _ | exact kd_b3 _ | exact kd_b4 _ | exact kd_b5 _ | exact kd_b6 _) (by omega) ?_
        try simp (disch := omega) only [up_same, up_o, up_k]
        refine Wp.iconst dX0_addWord_97 ?_
        refine Wp.iadd dX0_addWord_98 ?_
        refine Wp.pi (kz := 5) rfl dX0_addWord_99 fkX0_48 (Or.inl rfl) (Or.inl rfl) (by first | rfl | exact kd_b0 _ | exact kd_b1 _ | exact kd_b2 _ | exact kd_b3 _ | exact kd_b4 _ | exact kd_b5 _ | exact kd_b6 _) (by omega) ?_
        refine Wp.vreturn dX0_addWord_102 rfl ?_
        first | (exfalso; omega) | (exact hq)
      · refine Wp.vreturn dX0_addWord_38 rfl ?_
        first | (exfalso; omega) | (exact hq)
theorem ct_X0_age {w s z t : Int} (hk : 57 + 7 * kb + 7 ≤ n) (hBk : Bk R kb) (h0 : 0 ≤ w) (h1 : w < 60) (hs : I (57 + 7 * kb + 1) w = s) (hs0 : 1 ≤ s) (hs3 : s ≤ 3) (hz : I (57 + 7 * kb + 3) (w * 3 + (s - 1)) = z) (hz0 : 1 ≤ z) (hz6 : z ≤ 6) (ht : I (57 + 7 * kb + 4) ((w * 3 + (s - 1)) * 6 + (z - 1)) = t) (htR : inR t) (hb : ∀ w, 0 ≤ w → w < 60 → inR (I (57 + 7 * kb + 1) w)) (hq : Q none (up I (57 + 7 * kb) 6 (I (57 + 7 * kb) 6 + 1), up L (57 + 7 * kb + 6) (w * 3 + (s - 1)) (L (57 + 7 * kb + 6) (w * 3 + (s - 1)) &&& (onlyW t ^^^ 18446744073709551615#64)), R, n)) : Wp mX0_age 0 [some (vr (some (57 + 7 * kb))), some (vi w), none, none] [] (I, L, R, n) (0, 0) Q := by
  have hsn : snsOf I kb w = s := by unfold snsOf; rw [if_pos ⟨h0, h1⟩]; exact hs
  have hpl : plc I kb w (s - 1) = w * 3 + (s - 1) := by unfold plc; rw [if_pos (by omega)]
  have hwt : wdAt I kb w (s - 1) (z - 1) = t := by unfold wdAt; rw [hpl, if_neg (by rw [hz]; omega)]; exact ht
  refine Wp.aload_n rfl dX0_age_0 ?_
  refine Wp.iload_n rfl dX0_age_1 ?_
  refine Wp.callV (As := [_]) (ls0 := [_, _]) (bd := (0, 0)) (bd' := (0, 0)) dX0_age_2 kmX0_sensesOf lkX0_66 (by decide) (by decide) (Nat.le_of_ble_eq_true rfl) (by first | rfl | exact kd_b0 _ | exact kd_b1 _ | exact kd_b2 _ | exact kd_b3 _ | exact kd_b4 _ | exact kd_b5 _ | exact kd_b6 _) (by omega) rfl rfl (Nat.le_of_ble_eq_true rfl) rfl ?_
  refine ct_X0_sensesOf hk hBk (by omega) ?_
  rw [hsn]
  show Wp _ _ _ (_ :: _) _ _ _
  refine Wp.iconst dX0_age_5 ?_
  refine Wp.isub dX0_age_6 ?_
  refine Wp.istore_n (ls' := [_, _, _, _]) dX0_age_7 (by decide) rfl ?_
  refine Wp.aload_n rfl dX0_age_8 ?_
  refine Wp.iload_n rfl dX0_age_9 ?_
  refine Wp.iload_n rfl dX0_age_10 ?_
  refine Wp.callV (As := [_, _]) (ls0 := [_, _, _]) (bd := (0, 0)) (bd' := (0, 0)) dX0_age_11 kmX0_placeOf lkX0_62 (by decide) (by decide) (Nat.le_of_ble_eq_true rfl) (by first | rfl | exact kd_b0 _ | exact kd_b1 _ | exact kd_b2 _ | exact kd_b3 _ | exact kd_b4 _ | exact kd_b5 _ | exact kd_b6 _) (by omega) rfl rfl (Nat.le_of_ble_eq_true rfl) rfl ?_
  refine ct_X0_placeOf hk hBk (by omega) (by omega) hb ?_
  rw [hpl]
  show Wp _ _ _ (_ :: _) _ _ _
  refine Wp.istore_n (ls' := [_, _, _, _]) dX0_age_14 (by decide) rfl ?_
  refine Wp.iload_n rfl dX0_age_15 ?_
  refine Wp.iconst dX0_age_16 ?_
  refine Wp.icmp_ne (tgt := 21) dX0_age_17 (by decide) (by first | omega | exact bI_R _ | exact cmp_R _ _ | assumption) (by first | omega | exact bI_R _ | exact cmp_R _ _ | assumption) (fun c17 => ?_) (fun c17 => ?_)
  · refine Wp.aload_n rfl dX0_age_21 ?_
    refine Wp.gr (kz := 12) rfl dX0_age_22 fkX0_28 (by first | rfl | exact kd_b0 _ | exact kd_b1 _ | exact kd_b2 _ | exact kd_b3 _ | exact kd_b4 _ | exact kd_b5 _ | exact kd_b6 _) (by omega) (by first | exact hFx _ 12 _ rfl | assumption | exact hBk.1 | exact hBk.2.1 | exact hBk.2.2.1 | exact hBk.2.2.2.1 | exact hBk.2.2.2.2.1 | exact hBk.2.2.2.2.2) ?_
    refine Wp.iload_n rfl dX0_age_25 ?_
    first | refine Wp.dup2IR dX0_age_26 ?_ | refine Wp.dup2II dX0_age_26 ?_
    refine Wp.laload dX0_age_27 (by first | rfl | exact kd_b0 _ | exact kd_b1 _ | exact kd_b2 _ | exact kd_b3 _ | exact kd_b4 _ | exact kd_b5 _ | exact kd_b6 _) (by omega) (by omega) (by omega) ?_
    refine Wp.aload_n rfl dX0_age_28 ?_
    refine Wp.iload_n rfl dX0_age_29 ?_
    refine Wp.iload_n rfl dX0_age_30 ?_
    refine Wp.aload_n rfl dX0_age_31 ?_
    refine Wp.gr (kz := 9) rfl dX0_age_32 fkX0_18 (by first | rfl | exact kd_b0 _ | exact kd_b1 _ | exact kd_b2 _ | exact kd_b3 _ | exact kd_b4 _ | exact kd_b5 _ | exact kd_b6 _) (by omega) (by first | exact hFx _ 9 _ rfl | assumption | exact hBk.1 | exact hBk.2.1 | exact hBk.2.2.1 | exact hBk.2.2.2.1 | exact hBk.2.2.2.2.1 | exact hBk.2.2.2.2.2) ?_
    refine Wp.iload_n rfl dX0_age_35 ?_
    refine Wp.iaload dX0_age_36 (by first | rfl | exact kd_b0 _ | exact kd_b1 _ | exact kd_b2 _ | exact kd_b3 _ | exact kd_b4 _ | exact kd_b5 _ | exact kd_b6 _) (by omega) (by omega) (by omega) ?_
    rw [hz]
    refine Wp.iconst dX0_age_37 ?_
    refine Wp.isub dX0_age_38 ?_
    refine Wp.callV (As := [_, _, _]) (ls0 := [_, _, _, _, _]) (bd := (0, 0)) (bd' := (0, 0)) dX0_age_39 kmX0_wordAt lkX0_70 (by decide) (by decide) (Nat.le_of_ble_eq_true rfl) (by first | rfl | exact kd_b0 _ | exact kd_b1 _ | exact kd_b2 _ | exact kd_b3 _ | exact kd_b4 _ | exact kd_b5 _ | exact kd_b6 _) (by omega) rfl rfl (Nat.le_of_ble_eq_true rfl) rfl ?_
    refine ct_X0_wordAt2 hk hBk (by omega) (by omega) (by omega) hb (fun _ => by rw [hpl, hz]; omega) ?_
    rw [hwt]
    show Wp _ _ _ (_ :: _) _ _ _
    refine Wp.callS (As := [_]) (ls0 := [_]) (bd := (0, 0)) (bd' := (0, 0)) dX0_age_42 kmX11_only lkX0_54 (by decide) (by decide) (Nat.le_of_ble_eq_true rfl) rfl rfl (Nat.le_of_ble_eq_true rfl) rfl ?_
    refine ct_X11_only (by omega) ?_
    show Wp _ _ _ (_ :: _) _ _ _
    refine Wp.ldc2_w (b := 18446744073709551615#64) ckX0_74 rfl dX0_age_45 ?_
    refine Wp.lxor dX0_age_48 ?_
    refine Wp.land dX0_age_49 ?_
    refine Wp.lastore dX0_age_50 (by first | rfl | exact kd_b0 _ | exact kd_b1 _ | exact kd_b2 _ | exact kd_b3 _ | exact kd_b4 _ | exact kd_b5 _ | exact kd_b6 _) (by omega) (by omega) (by omega) ?_
    refine Wp.aload_n rfl dX0_age_51 ?_
    first | refine Wp.dupR dX0_age_52 ?_ | refine Wp.dupI dX0_age_52 ?_
    refine Wp.gi (kz := 6) rfl dX0_age_53 fkX0_51 (by first | rfl | exact kd_b0 _ | exact kd_b1 _ | exact kd_b2 _ | exact kd_b3 _ | exact kd_b4 _ | exact kd_b5 _ | exact kd_b6 _) (by omega) ?_
    try simp (disch := omega) only [up_same, up_o, up_k]
    refine Wp.iconst dX0_age_56 ?_
    refine Wp.iadd dX0_age_57 ?_
    refine Wp.pi (kz := 6) rfl dX0_age_58 fkX0_51 (Or.inl rfl) (Or.inl rfl) (by first | rfl | exact kd_b0 _ | exact kd_b1 _ | exact kd_b2 _ | exact kd_b3 _ | exact kd_b4 _ | exact kd_b5 _ | exact kd_b6 _) (by omega) ?_
    refine Wp.vreturn dX0_age_61 rfl ?_
    first | (exfalso; omega) | (exact hq)
  · refine Wp.vreturn dX0_age_20 rfl ?_
    first | (exfalso; omega) | (exact hq)
theorem ct_X5_expect {w : Int} (hn : 57 ≤ n) (hq : Q (some (vi 0)) (up I 3 0 w, L, R, n)) : Wp mX5_expect 0 [some (vr (some 3)), some (vi w)] [] (I, L, R, n) (0, 0) Q := by
  refine Wp.aload_n rfl dX5_expect_0 ?_
  refine Wp.iload_n rfl dX5_expect_1 ?_
  refine Wp.pi (kz := 0) rfl dX5_expect_2 fkX5_11 (Or.inl rfl) (Or.inl rfl) (by first | rfl | exact kd_b0 _ | exact kd_b1 _ | exact kd_b2 _ | exact kd_b3 _ | exact kd_b4 _ | exact kd_b5 _ | exact kd_b6 _) (by omega) ?_
  refine Wp.iconst dX5_expect_5 ?_
  refine Wp.ireturn dX5_expect_6 rfl ?_
  first | (exfalso; omega) | (exact hq)
/-- where the reading stands -/
def RdI (J : Nat → Int → Int) (K : Nat → Int → BitVec 64) (kb : Nat) (st : St) : Prop := MI st.1 st.2.1 st.2.2.2 ∧ (st.1 = 6 → st.2.2.2 40 (6 * cur st.2.2.2 st.2.1 + (st.2.2.2 38 (cur st.2.2.2 st.2.1) - 1)) = 0) ∧ CB J K kb st.2.2.2 ∧ J 3 0 = st.1 ∧ J 3 1 = st.2.2.1 ∧ J 3 2 = st.2.1
def roP (kb : Nat) (I J : Nat → Int → Int) (L K : Nat → Int → BitVec 64) (r : Int) (S : Int ⊕ St) : Prop := FrD kb I J ∧ FrDL kb L K ∧ J 3 3 = I 3 3 ∧ ((S = .inl r ∧ 1 ≤ r ∧ r ≤ 5) ∨ (r = 0 ∧ ∃ st, S = .inr st ∧ RdI J K kb st))
theorem ro_f {S : Int ⊕ St} {r : Int} (hF : FrD kb I J) (hL : FrDL kb L K) (h3 : J 3 3 = I 3 3) (hS : S = .inl r) (h1 : 1 ≤ r) (h5 : r ≤ 5) : roP kb I J L K r S := ⟨hF, hL, h3, Or.inl ⟨hS, h1, h5⟩⟩
theorem ro_s {S : Int ⊕ St} {st : St} (hF : FrD kb I J) (hL : FrDL kb L K) (h3 : J 3 3 = I 3 3) (hS : S = .inr st) (hR : RdI J K kb st) : roP kb I J L K 0 S := ⟨hF, hL, h3, Or.inr ⟨rfl, st, hS, hR⟩⟩
theorem sn_R (hC : CB I L kb D) (hM : MI nx hd D) : ∀ w, 0 ≤ w → w < 60 → inR (I (57 + 7 * kb + 1) w) := fun w h0 h1 => by
  have h2 := hC.sn h0 h1
  have h3 := hM.w h0 h1
  omega
theorem ct_X5_openSense {S : Int ⊕ St} (hn : 57 ≤ n) (hk : 57 + 7 * kb + 7 ≤ n) (hBk : Bk R kb) (hM : MI nx hd D) (hC : CB I L kb D) (h2 : I 3 2 = hd) (hnx : nx = 1 ∨ nx = 6 ∨ nx = 7) (hS : S = if 3 ≤ D 36 hd then .inl 5 else .inr (2, hd, I 3 1, addS D hd)) (hq : ∀ J K r, roP kb I J L K r S → Q (some (vi r)) (J, K, R, n)) : Wp mX5_openSense 0 [some (vr (some 3)), some (vr (some (57 + 7 * kb)))] [] (I, L, R, n) (0, 0) Q := by
  have hh := hM.2.1 (by omega)
  have hw := hM.w hh.1 hh.2
  have hsn := hC.sn hh.1 hh.2
  have hsO : snsOf I kb hd = D 36 hd := by unfold snsOf; rw [if_pos hh]; exact hsn
  refine Wp.aload_n rfl dX5_openSense_0 ?_
  refine Wp.aload_n rfl dX5_openSense_1 ?_
  refine Wp.gi (kz := 2) rfl dX5_openSense_2 fkX5_18 (by first | rfl | exact kd_b0 _ | exact kd_b1 _ | exact kd_b2 _ | exact kd_b3 _ | exact kd_b4 _ | exact kd_b5 _ | exact kd_b6 _) (by omega) ?_
  rw [h2]
  refine Wp.callV (As := [_]) (ls0 := [_, _]) (bd := (0, 0)) (bd' := (0, 0)) dX5_openSense_5 kmX0_sensesOf lkX5_58 (by decide) (by decide) (Nat.le_of_ble_eq_true rfl) (by first | rfl | exact kd_b0 _ | exact kd_b1 _ | exact kd_b2 _ | exact kd_b3 _ | exact kd_b4 _ | exact kd_b5 _ | exact kd_b6 _) (by omega) rfl rfl (Nat.le_of_ble_eq_true rfl) rfl ?_
  refine ct_X0_sensesOf hk hBk (by omega) ?_
  rw [hsO]
  show Wp _ _ _ (_ :: _) _ _ _
  refine Wp.iconst dX5_openSense_8 ?_
  refine Wp.icmp_lt (tgt := 14) dX5_openSense_9 (by decide) (by first | omega | exact bI_R _ | exact cmp_R _ _ | assumption) (by first | omega | exact bI_R _ | exact cmp_R _ _ | assumption) (fun c9 => ?_) (fun c9 => ?_)
  · refine Wp.aload_n rfl dX5_openSense_14 ?_
    refine Wp.aload_n rfl dX5_openSense_15 ?_
    refine Wp.gi (kz := 2) rfl dX5_openSense_16 fkX5_18 (by first | rfl | exact kd_b0 _ | exact kd_b1 _ | exact kd_b2 _ | exact kd_b3 _ | exact kd_b4 _ | exact kd_b5 _ | exact kd_b6 _) (by omega) ?_
    rw [h2]
    refine Wp.callV (As := [_]) (ls0 := [_, _, _]) (bd := (0, 0)) (bd' := (0, 0)) dX5_openSense_19 kmX0_addSense lkX5_61 (by decide) (by decide) (Nat.le_of_ble_eq_true rfl) (by first | rfl | exact kd_b0 _ | exact kd_b1 _ | exact kd_b2 _ | exact kd_b3 _ | exact kd_b4 _ | exact kd_b5 _ | exact kd_b6 _) (by omega) rfl rfl (Nat.le_of_ble_eq_true rfl) rfl ?_
    refine ct_X0_addSense hk hBk hh.1 hh.2 hsn hw.1 (by omega) (sn_R hC hM) ?_
    have hC2 := CB_sense hC hM hh.1 hh.2 (by omega)
    generalize hJ : up (up (up (up I (57 + 7 * kb + 1) hd (D 36 hd + 1)) (57 + 7 * kb) 4 (I (57 + 7 * kb) 4 + 1)) (57 + 7 * kb + 2) (hd * 3 + D 36 hd) (-1)) (57 + 7 * kb + 3) (hd * 3 + D 36 hd) 0 = J at hC2 ⊢
    generalize hK : up (up L (57 + 7 * kb + 5) (hd * 3 + D 36 hd) 0#64) (57 + 7 * kb + 6) (hd * 3 + D 36 hd) 0#64 = K at hC2 ⊢
    have hFJ : FrD kb I J := by rw [← hJ]; exact (((FrD.rf.wr (by unfold dO; omega)).wr (by unfold dO; omega)).wr (by unfold dO; omega)).wr (by unfold dO; omega)
    have hFK : FrDL kb L K := by rw [← hK]; exact (FrDL.rf.wr (by omega)).wr (by omega)
    have j3 : ∀ z, J 3 z = I 3 z := fun z => by rw [← hJ]; simp (disch := omega) only [up_same, up_o, up_k]
    clear hJ hK
    show Wp _ _ _ _ _ _ _
    refine Wp.aload_n rfl dX5_openSense_22 ?_
    refine Wp.iconst dX5_openSense_23 ?_
    refine Wp.callV (As := [_]) (ls0 := [_, _]) (bd := (0, 0)) (bd' := (0, 0)) dX5_openSense_24 kmX5_expect lkX5_49 (by decide) (by decide) (Nat.le_of_ble_eq_true rfl) (by first | rfl | exact kd_b0 _ | exact kd_b1 _ | exact kd_b2 _ | exact kd_b3 _ | exact kd_b4 _ | exact kd_b5 _ | exact kd_b6 _) (by omega) rfl rfl (Nat.le_of_ble_eq_true rfl) rfl ?_
    refine ct_X5_expect hn ?_
    show Wp _ _ _ (_ :: _) _ _ _
    refine Wp.ireturn dX5_openSense_27 rfl ?_
    rw [if_neg (by omega)] at hS
    refine hq _ K 0 (ro_s (hFJ.wr (by unfold dO; omega)) hFK ?_ hS ⟨MI_sense hM hnx (by omega), fun q => absurd (show (2 : Int) = 6 from q) (by decide), CB_cg (fun o z _ _ => up_o _ _ _ _ (by omega)) (fun _ _ _ _ => rfl) hC2, up_same _ _ _ _, ?_, ?_⟩)
    · rw [up_k _ _ _ _ (by decide)]; exact j3 3
    · rw [up_k _ _ _ _ (by decide)]; exact j3 1
    · rw [up_k _ _ _ _ (by decide), j3]; exact h2
  · refine Wp.iconst dX5_openSense_12 ?_
    refine Wp.ireturn dX5_openSense_13 rfl ?_
    first | (exfalso; omega) | (rw [if_pos (by omega)] at hS; exact hq I L 5 (ro_f FrD.rf FrDL.rf rfl hS (by omega) (by omega)))
theorem ct_X5_takeHead {S : Int ⊕ St} (hn : 57 ≤ n) (hk : 57 + 7 * kb + 7 ≤ n) (hM : MI 0 hd D) (hC : CB I L kb D) (h0 : 0 ≤ v) (h1 : v < 60) (hS : S = if D 41 v = 1 then .inl 3 else .inr (1, v, I 3 1, up D 41 v 1)) (hq : ∀ J K r, roP kb I J L K r S → Q (some (vi r)) (J, K, R, n)) : Wp mX5_takeHead 0 [some (vr (some 3)), some (vr (some (57 + 7 * kb))), some (vi v)] [] (I, L, R, n) (0, 0) Q := by
  have hw := hM.w h0 h1
  have hbt := (hC.1 v h0 h1).2
  refine Wp.aload_n rfl dX5_takeHead_0 ?_
  refine Wp.gl (kz := 3) rfl dX5_takeHead_1 fkX5_74 (by first | rfl | exact kd_b0 _ | exact kd_b1 _ | exact kd_b2 _ | exact kd_b3 _ | exact kd_b4 _ | exact kd_b5 _ | exact kd_b6 _) (by omega) ?_
  refine Wp.iload_n rfl dX5_takeHead_4 ?_
  refine Wp.callS (As := [_, _]) (ls0 := [_, _, _]) (bd := (0, 0)) (bd' := (0, 0)) dX5_takeHead_5 kmX11_has lkX5_78 (by decide) (by decide) (Nat.le_of_ble_eq_true rfl) rfl rfl (Nat.le_of_ble_eq_true rfl) rfl ?_
  refine ct_X11_has (by omega) ?_
  show Wp _ _ _ (_ :: _) _ _ _
  refine Wp.if_eqB (tgt := 13) dX5_takeHead_8 (by decide) (fun c8 => ?_) (fun c8 => ?_)
  · refine Wp.aload_n rfl dX5_takeHead_13 ?_
    refine Wp.iload_n rfl dX5_takeHead_14 ?_
    refine Wp.pi (kz := 2) rfl dX5_takeHead_15 fkX5_18 (Or.inl rfl) (Or.inl rfl) (by first | rfl | exact kd_b0 _ | exact kd_b1 _ | exact kd_b2 _ | exact kd_b3 _ | exact kd_b4 _ | exact kd_b5 _ | exact kd_b6 _) (by omega) ?_
    refine Wp.aload_n rfl dX5_takeHead_18 ?_
    refine Wp.iload_n rfl dX5_takeHead_19 ?_
    refine Wp.callV (As := [_]) (ls0 := [_, _]) (bd := (0, 0)) (bd' := (0, 0)) dX5_takeHead_20 kmX0_addEntry lkX5_82 (by decide) (by decide) (Nat.le_of_ble_eq_true rfl) (by first | rfl | exact kd_b0 _ | exact kd_b1 _ | exact kd_b2 _ | exact kd_b3 _ | exact kd_b4 _ | exact kd_b5 _ | exact kd_b6 _) (by omega) rfl rfl (Nat.le_of_ble_eq_true rfl) rfl ?_
    refine ct_X0_addEntry hk (by omega) ?_
    show Wp _ _ _ _ _ _ _
    refine Wp.aload_n rfl dX5_takeHead_23 ?_
    refine Wp.iconst dX5_takeHead_24 ?_
    refine Wp.callV (As := [_]) (ls0 := [_, _]) (bd := (0, 0)) (bd' := (0, 0)) dX5_takeHead_25 kmX5_expect lkX5_49 (by decide) (by decide) (Nat.le_of_ble_eq_true rfl) (by first | rfl | exact kd_b0 _ | exact kd_b1 _ | exact kd_b2 _ | exact kd_b3 _ | exact kd_b4 _ | exact kd_b5 _ | exact kd_b6 _) (by omega) rfl rfl (Nat.le_of_ble_eq_true rfl) rfl ?_
    refine ct_X5_expect hn ?_
    show Wp _ _ _ (_ :: _) _ _ _
    refine Wp.ireturn dX5_takeHead_28 rfl ?_
    rw [if_neg (fun q => c8 ⟨h0, h1, hbt.mpr q⟩)] at hS
    have hC2 := CB_head hC h0 h1
    refine hq _ _ 0 (ro_s ((FrD.rf.wr (by unfold dO; omega)).wr (by unfold dO; omega)) (FrDL.rf.wr (by omega)) ?_ hS ⟨MI_head hM h0 h1 (fun q => c8 ⟨h0, h1, hbt.mpr q⟩), fun q => absurd (show (1 : Int) = 6 from q) (by decide), CB_cg (fun o z _ _ => by rw [up_o _ _ _ _ (by omega), up_o _ _ _ _ (by omega)]) (fun _ _ _ _ => rfl) hC2, up_same _ _ _ _, ?_, ?_⟩)
    · simp (disch := omega) only [up_same, up_o, up_k]
    · simp (disch := omega) only [up_same, up_o, up_k]
    · simp (disch := omega) only [up_same, up_o, up_k]
  · refine Wp.iconst dX5_takeHead_11 ?_
    refine Wp.ireturn dX5_takeHead_12 rfl ?_
    first | (exfalso; omega) | (rw [if_pos (hbt.mp c8.2.2)] at hS; exact hq I L 3 (ro_f FrD.rf FrDL.rf rfl hS (by omega) (by omega)))
theorem ct_X5_takeField {S : Int ⊕ St} (hn : 57 ≤ n) (hk : 57 + 7 * kb + 7 ≤ n) (hBk : Bk R kb) (hM : MI 3 hd D) (hC : CB I L kb D) (h2 : I 3 2 = hd) (h0 : 0 ≤ v) (h1 : v < 6) (hS : S = .inr (4, hd, I 3 1, up D 37 (cur D hd) v)) (hq : ∀ J K r, roP kb I J L K r S → Q (some (vi r)) (J, K, R, n)) : Wp mX5_takeField 0 [some (vr (some 3)), some (vr (some (57 + 7 * kb))), some (vi v)] [] (I, L, R, n) (0, 0) Q := by
  have hh := hM.hd (by omega)
  have hsn := hC.sn hh.1 hh.2.1
  refine Wp.aload_n rfl dX5_takeField_0 ?_
  refine Wp.aload_n rfl dX5_takeField_1 ?_
  refine Wp.gi (kz := 2) rfl dX5_takeField_2 fkX5_18 (by first | rfl | exact kd_b0 _ | exact kd_b1 _ | exact kd_b2 _ | exact kd_b3 _ | exact kd_b4 _ | exact kd_b5 _ | exact kd_b6 _) (by omega) ?_
  refine Wp.iload_n rfl dX5_takeField_5 ?_
  rw [h2]
  refine Wp.callV (As := [_, _]) (ls0 := [_, _, _, _]) (bd := (0, 0)) (bd' := (0, 0)) dX5_takeField_6 kmX0_tellField lkX5_85 (by decide) (by decide) (Nat.le_of_ble_eq_true rfl) (by first | rfl | exact kd_b0 _ | exact kd_b1 _ | exact kd_b2 _ | exact kd_b3 _ | exact kd_b4 _ | exact kd_b5 _ | exact kd_b6 _) (by omega) rfl rfl (Nat.le_of_ble_eq_true rfl) rfl ?_
  refine ct_X0_tellField hk hBk hh.1 hh.2.1 hsn hh.2.2.1 hh.2.2.2 (sn_R hC hM) ?_
  show Wp _ _ _ _ _ _ _
  refine Wp.aload_n rfl dX5_takeField_9 ?_
  refine Wp.iconst dX5_takeField_10 ?_
  refine Wp.callV (As := [_]) (ls0 := [_, _]) (bd := (0, 0)) (bd' := (0, 0)) dX5_takeField_11 kmX5_expect lkX5_49 (by decide) (by decide) (Nat.le_of_ble_eq_true rfl) (by first | rfl | exact kd_b0 _ | exact kd_b1 _ | exact kd_b2 _ | exact kd_b3 _ | exact kd_b4 _ | exact kd_b5 _ | exact kd_b6 _) (by omega) rfl rfl (Nat.le_of_ble_eq_true rfl) rfl ?_
  refine ct_X5_expect hn ?_
  show Wp _ _ _ (_ :: _) _ _ _
  refine Wp.ireturn dX5_takeField_14 rfl ?_
  have hC2 := CB_field (v := v) hC hM (by omega)
  refine hq _ L 0 (ro_s ((FrD.rf.wr (by unfold dO; omega)).wr (by unfold dO; omega)) FrDL.rf ?_ hS ⟨MI_field hM h0 h1, fun q => absurd (show (4 : Int) = 6 from q) (by decide), CB_cg (fun o z _ _ => up_o _ _ _ _ (by omega)) (fun _ _ _ _ => rfl) hC2, up_same _ _ _ _, ?_, ?_⟩)
  · simp (disch := omega) only [up_same, up_o, up_k]
  · simp (disch := omega) only [up_same, up_o, up_k]
  · simp (disch := omega) only [up_same, up_o, up_k]; exact h2
theorem any_ss (hM : MI nx hd D) (hn : 2 ≤ nx) (h0 : 0 ≤ v) (h1 : v < 60) : hasW (ss D 1 (cur D hd)) v ↔ anyB (fun k => decide (D 39 (6 * cur D hd + k) = v)) (D 38 (cur D hd)).toNat = true := by
  have hcs := hM.cs hn
  have hR : ∀ p : Nat, p < (D 38 (cur D hd)).toNat → 0 ≤ D 39 (6 * cur D hd + p) ∧ D 39 (6 * cur D hd + p) < 60 := fun p hp => by have := (hcs.2 p (by omega) (by omega)).1; omega
  rw [anyB_iff]
  unfold ss
  constructor
  · rintro ⟨_, _, h⟩
    obtain ⟨p, hp, _, hp2⟩ := (ssN_bit _ _ (fun p hp => by have := hR p hp; omega)).mp h
    have := hR p hp
    exact ⟨p, hp, decide_eq_true (by omega)⟩
  · rintro ⟨p, hp, h⟩
    have h2 := of_decide_eq_true h
    exact ⟨h0, h1, (ssN_bit _ _ (fun p hp => by have := hR p hp; omega)).mpr ⟨p, hp, Or.inl (by decide), by rw [h2]⟩⟩
theorem ct_X5_takeWord {S : Int ⊕ St} (hn : 57 ≤ n) (hk : 57 + 7 * kb + 7 ≤ n) (hBk : Bk R kb) (hM : MI nx hd D) (hC : CB I L kb D) (h2 : I 3 2 = hd) (hnx : nx = 2 ∨ nx = 5) (h0 : 0 ≤ v) (h1 : v < 60) (hS : S = if anyB (fun k => decide (D 39 (6 * cur D hd + k) = v)) (D 38 (cur D hd)).toNat = true then .inl 4 else if 6 ≤ D 38 (cur D hd) then .inl 5 else .inr (6, hd, I 3 1, addW D (cur D hd) v)) (hq : ∀ J K r, roP kb I J L K r S → Q (some (vi r)) (J, K, R, n)) : Wp mX5_takeWord 0 [some (vr (some 3)), some (vr (some (57 + 7 * kb))), some (vi v), none] [] (I, L, R, n) (0, 0) Q := by
  have hh := hM.hd (by omega)
  have hcs := (hM.cs (by omega)).1
  have hsn := hC.sn hh.1 hh.2.1
  have hse := hC.se hh.1 hh.2.1 (s := D 36 hd - 1) (by omega) (by omega)
  have hcd : 3 * hd + (D 36 hd - 1) = cur D hd := rfl
  rw [hcd] at hse
  have hsO : snsOf I kb hd = D 36 hd := by unfold snsOf; rw [if_pos ⟨hh.1, hh.2.1⟩]; exact hsn
  have hpl : plc I kb hd (D 36 hd - 1) = hd * 3 + (D 36 hd - 1) := by unfold plc; rw [if_pos (by omega)]
  have hss : sSet I L kb hd (D 36 hd - 1) 1 = ss D 1 (cur D hd) := by unfold sSet; rw [hpl, if_neg (by omega), if_pos (by decide)]; exact hse.2.2.1
  have hsz : szOf I kb hd (D 36 hd - 1) = D 38 (cur D hd) := by unfold szOf; rw [hpl, if_neg (by omega)]; exact hse.2.1
  have hany := any_ss hM (by omega) h0 h1
  refine Wp.aload_n rfl dX5_takeWord_0 ?_
  refine Wp.aload_n rfl dX5_takeWord_1 ?_
  refine Wp.gi (kz := 2) rfl dX5_takeWord_2 fkX5_18 (by first | rfl | exact kd_b0 _ | exact kd_b1 _ | exact kd_b2 _ | exact kd_b3 _ | exact kd_b4 _ | exact kd_b5 _ | exact kd_b6 _) (by omega) ?_
  rw [h2]
  refine Wp.callV (As := [_]) (ls0 := [_, _]) (bd := (0, 0)) (bd' := (0, 0)) dX5_takeWord_5 kmX0_sensesOf lkX5_58 (by decide) (by decide) (Nat.le_of_ble_eq_true rfl) (by first | rfl | exact kd_b0 _ | exact kd_b1 _ | exact kd_b2 _ | exact kd_b3 _ | exact kd_b4 _ | exact kd_b5 _ | exact kd_b6 _) (by omega) rfl rfl (Nat.le_of_ble_eq_true rfl) rfl ?_
  refine ct_X0_sensesOf hk hBk (by omega) ?_
  rw [hsO]
  show Wp _ _ _ (_ :: _) _ _ _
  refine Wp.iconst dX5_takeWord_8 ?_
  refine Wp.isub dX5_takeWord_9 ?_
  refine Wp.istore_n (ls' := [_, _, _, _]) dX5_takeWord_10 (by decide) rfl ?_
  refine Wp.aload_n rfl dX5_takeWord_11 ?_
  refine Wp.aload_n rfl dX5_takeWord_12 ?_
  refine Wp.gi (kz := 2) rfl dX5_takeWord_13 fkX5_18 (by first | rfl | exact kd_b0 _ | exact kd_b1 _ | exact kd_b2 _ | exact kd_b3 _ | exact kd_b4 _ | exact kd_b5 _ | exact kd_b6 _) (by omega) ?_
  refine Wp.iload_n rfl dX5_takeWord_16 ?_
  refine Wp.iconst dX5_takeWord_17 ?_
  rw [h2]
  refine Wp.callV (As := [_, _, _]) (ls0 := [_, _, _, _, _]) (bd := (0, 0)) (bd' := (0, 0)) dX5_takeWord_18 kmX0_senseSet lkX5_89 (by decide) (by decide) (Nat.le_of_ble_eq_true rfl) (by first | rfl | exact kd_b0 _ | exact kd_b1 _ | exact kd_b2 _ | exact kd_b3 _ | exact kd_b4 _ | exact kd_b5 _ | exact kd_b6 _) (by omega) rfl rfl (Nat.le_of_ble_eq_true rfl) rfl ?_
  refine ct_X0_senseSet hk hBk (by omega) (by omega) (by omega) (sn_R hC hM) ?_
  rw [hss]
  show Wp _ _ _ (_ :: _) _ _ _
  refine Wp.iload_n rfl dX5_takeWord_21 ?_
  refine Wp.callS (As := [_, _]) (ls0 := [_, _, _]) (bd := (0, 0)) (bd' := (0, 0)) dX5_takeWord_22 kmX11_has lkX5_78 (by decide) (by decide) (Nat.le_of_ble_eq_true rfl) rfl rfl (Nat.le_of_ble_eq_true rfl) rfl ?_
  refine ct_X11_has (by omega) ?_
  show Wp _ _ _ (_ :: _) _ _ _
  refine Wp.if_eqB (tgt := 30) dX5_takeWord_25 (by decide) (fun c25 => ?_) (fun c25 => ?_)
  · refine Wp.aload_n rfl dX5_takeWord_30 ?_
    refine Wp.aload_n rfl dX5_takeWord_31 ?_
    refine Wp.gi (kz := 2) rfl dX5_takeWord_32 fkX5_18 (by first | rfl | exact kd_b0 _ | exact kd_b1 _ | exact kd_b2 _ | exact kd_b3 _ | exact kd_b4 _ | exact kd_b5 _ | exact kd_b6 _) (by omega) ?_
    refine Wp.iload_n rfl dX5_takeWord_35 ?_
    rw [h2]
    refine Wp.callV (As := [_, _]) (ls0 := [_, _, _, _]) (bd := (0, 0)) (bd' := (0, 0)) dX5_takeWord_36 kmX0_sizeOf lkX5_93 (by decide) (by decide) (Nat.le_of_ble_eq_true rfl) (by first | rfl | exact kd_b0 _ | exact kd_b1 _ | exact kd_b2 _ | exact kd_b3 _ | exact kd_b4 _ | exact kd_b5 _ | exact kd_b6 _) (by omega) rfl rfl (Nat.le_of_ble_eq_true rfl) rfl ?_
    refine ct_X0_sizeOf hk hBk (by omega) (by omega) (sn_R hC hM) ?_
    rw [hsz]
    show Wp _ _ _ (_ :: _) _ _ _
    refine Wp.bipush rfl dX5_takeWord_39 ?_
    refine Wp.icmp_lt (tgt := 46) dX5_takeWord_41 (by decide) (by first | omega | exact bI_R _ | exact cmp_R _ _ | assumption) (by first | omega | exact bI_R _ | exact cmp_R _ _ | assumption) (fun c41 => ?_) (fun c41 => ?_)
    · refine Wp.aload_n rfl dX5_takeWord_46 ?_
      refine Wp.aload_n rfl dX5_takeWord_47 ?_
      refine Wp.gi (kz := 2) rfl dX5_takeWord_48 fkX5_18 (by first | rfl | exact kd_b0 _ | exact kd_b1 _ | exact kd_b2 _ | exact kd_b3 _ | exact kd_b4 _ | exact kd_b5 _ | exact kd_b6 _) (by omega) ?_
      refine Wp.iload_n rfl dX5_takeWord_51 ?_
      rw [h2]
      refine Wp.callV (As := [_, _]) (ls0 := [_, _, _, _]) (bd := (0, 0)) (bd' := (0, 0)) dX5_takeWord_52 kmX0_addWord lkX5_97 (by decide) (by decide) (Nat.le_of_ble_eq_true rfl) (by first | rfl | exact kd_b0 _ | exact kd_b1 _ | exact kd_b2 _ | exact kd_b3 _ | exact kd_b4 _ | exact kd_b5 _ | exact kd_b6 _) (by omega) rfl rfl (Nat.le_of_ble_eq_true rfl) rfl ?_
      refine ct_X0_addWord hk hBk hh.1 hh.2.1 (by omega) hsn hh.2.2.1 hh.2.2.2 hse.2.1 hcs.2.2.1 (by omega) (sn_R hC hM) ?_
      have hC2 := CB_word hC hM (by omega) (show D 38 (cur D hd) < 6 by omega) h0 h1
      generalize hJ : up (up (up I (57 + 7 * kb + 4) ((hd * 3 + (D 36 hd - 1)) * 6 + D 38 (cur D hd)) v) (57 + 7 * kb + 3) (hd * 3 + (D 36 hd - 1)) (D 38 (cur D hd) + 1)) (57 + 7 * kb) 5 (I (57 + 7 * kb) 5 + 1) = J at hC2 ⊢
      generalize hK : up (up L (57 + 7 * kb + 5) (hd * 3 + (D 36 hd - 1)) (L (57 + 7 * kb + 5) (hd * 3 + (D 36 hd - 1)) ||| onlyW v)) (57 + 7 * kb + 6) (hd * 3 + (D 36 hd - 1)) (L (57 + 7 * kb + 6) (hd * 3 + (D 36 hd - 1)) ||| onlyW v) = K at hC2 ⊢
      have hFJ : FrD kb I J := by rw [← hJ]; exact ((FrD.rf.wr (by unfold dO; omega)).wr (by unfold dO; omega)).wr (by unfold dO; omega)
      have hFK : FrDL kb L K := by rw [← hK]; exact (FrDL.rf.wr (by omega)).wr (by omega)
      have j3 : ∀ z, J 3 z = I 3 z := fun z => by rw [← hJ]; simp (disch := omega) only [up_same, up_o, up_k]
      clear hJ hK
      show Wp _ _ _ _ _ _ _
      refine Wp.aload_n rfl dX5_takeWord_55 ?_
      refine Wp.bipush rfl dX5_takeWord_56 ?_
      refine Wp.callV (As := [_]) (ls0 := [_, _]) (bd := (0, 0)) (bd' := (0, 0)) dX5_takeWord_58 kmX5_expect lkX5_49 (by decide) (by decide) (Nat.le_of_ble_eq_true rfl) (by first | rfl | exact kd_b0 _ | exact kd_b1 _ | exact kd_b2 _ | exact kd_b3 _ | exact kd_b4 _ | exact kd_b5 _ | exact kd_b6 _) (by omega) rfl rfl (Nat.le_of_ble_eq_true rfl) rfl ?_
      refine ct_X5_expect hn ?_
      show Wp _ _ _ (_ :: _) _ _ _
      refine Wp.ireturn dX5_takeWord_61 rfl ?_
      rw [if_neg (fun q => c25 (hany.mpr q)), if_neg (by omega)] at hS
      have h40 : addW D (cur D hd) v 40 (6 * cur (addW D (cur D hd) v) hd + (addW D (cur D hd) v 38 (cur (addW D (cur D hd) v) hd) - 1)) = 0 := by
        have hcu : cur (addW D (cur D hd) v) hd = cur D hd := by unfold cur; rw [addW_o (o := 36) (by decide) (by decide) (by decide)]
        rw [hcu, addW_38h, show D 38 (cur D hd) + 1 - 1 = D 38 (cur D hd) by omega, addW_40h]
      refine hq _ K 0 (ro_s (hFJ.wr (by unfold dO; omega)) hFK ?_ hS ⟨MI_word hM hnx h0 h1 (fun q => c25 (hany.mpr q)) (show ¬ 6 ≤ D 38 (cur D hd) by omega), fun _ => h40, CB_cg (fun o z _ _ => up_o _ _ _ _ (by omega)) (fun _ _ _ _ => rfl) hC2, up_same _ _ _ _, ?_, ?_⟩)
      · rw [up_k _ _ _ _ (by decide)]; exact j3 3
      · rw [up_k _ _ _ _ (by decide)]; exact j3 1
      · rw [up_k _ _ _ _ (by decide), j3]; exact h2
    · refine Wp.iconst dX5_takeWord_44 ?_
      refine Wp.ireturn dX5_takeWord_45 rfl ?_
      first | (exfalso; omega) | (rw [if_neg (fun q => c25 (hany.mpr q)), if_pos (by omega)] at hS; exact hq I L 5 (ro_f FrD.rf FrDL.rf rfl hS (by omega) (by omega)))
  · refine Wp.iconst dX5_takeWord_28 ?_
    refine Wp.ireturn dX5_takeWord_29 rfl ?_
    first | (exfalso; omega) | (rw [if_pos (hany.mp c25)] at hS; exact hq I L 4 (ro_f FrD.rf FrDL.rf rfl hS (by omega) (by omega)))
end

