/-! ===== the class: promises 2, 4, 6 to 8, 20 to 24 ===== -/
theorem and255 (x : BitVec 64) : andI x.toInt 255 = ((x.toNat % 256 : Nat) : Int) := by
  have e : BitVec.ofInt 32 x.toInt = x.setWidth 32 := by
    apply BitVec.eq_of_toNat_eq
    rw [BitVec.toNat_ofInt, BitVec.toNat_setWidth]
    have h := BitVec.toInt_eq_toNat_cond x
    have h2 := x.isLt
    split at h <;> omega
  show (BitVec.ofInt 32 x.toInt &&& BitVec.ofInt 32 255).toInt = _
  rw [e]
  have h3 : (x.setWidth 32 &&& BitVec.ofInt 32 255).toNat = x.toNat % 256 := by
    rw [BitVec.toNat_and, BitVec.toNat_setWidth, show (BitVec.ofInt 32 255).toNat = 2 ^ 8 - 1 from rfl, Nat.and_two_pow_sub_one_eq_mod]
    omega
  rw [BitVec.toInt_eq_toNat_cond, h3, if_pos (by omega)]
theorem byt_u (b : BitVec 64) (k : Nat) : andI (b >>> (8 * k)).toInt 255 = byt b k := by
  rw [and255]
  unfold byt
  rw [BitVec.toNat_and, show (255#64 : BitVec 64).toNat = 2 ^ 8 - 1 from rfl, Nat.and_two_pow_sub_one_eq_mod]
section
variable {I J : Nat → Int → Int} {L K : Nat → Int → BitVec 64} {R : Nat → Int → Option Nat} {n k : Nat} {m : Mm} {Q : Option AV → Mm → Prop}
theorem ct_X2_judgeSide {a w b v : Int} (hS : ShR I L R n) (ha : inR a) (hb : inR b) (h0 : 0 ≤ w) (h1 : w < 60) (hv0 : 0 ≤ v) (hv1 : v < 60) (hq : Q (some (vi (hsS I 255 a w b v))) (I, L, R, n)) : Wp mX2_judgeSide 0 [some (vr (some 4)), some (vi a), some (vi w), some (vi b), some (vi v)] [] (I, L, R, n) (0, 0) Q := by
  have hn := hS.1
  have hW := hS.2.2.1
  have hN1 := hW.2.1
  have hE := ent_lat hW (lk := 255) (a := a) (b := b) h0
  have hB := lat_B I hW.1 255 a w b
  unfold hsS at hq
  refine Wp.aload_n rfl dX2_judgeSide_0 ?_
  refine Wp.iload_n rfl dX2_judgeSide_1 ?_
  refine Wp.iload_n rfl dX2_judgeSide_2 ?_
  refine Wp.iload_n rfl dX2_judgeSide_3 ?_
  refine Wp.callV (As := [_, _, _]) (ls0 := [_, _, _, _, _, _, _]) (bd := (0, 0)) (bd' := (0, 0)) dX2_judgeSide_4 kmX8_latest lkX2_38 (by decide) (by decide) (Nat.le_of_ble_eq_true rfl) (by first | rfl | exact kd_b0 _ | exact kd_b1 _ | exact kd_b2 _ | exact kd_b3 _ | exact kd_b4 _ | exact kd_b5 _ | exact kd_b6 _) (by omega) rfl rfl (Nat.le_of_ble_eq_true rfl) rfl ?_
  refine ct_X8_latest hS (by omega) (by omega) (by omega) (by omega) ?_
  show Wp _ _ _ (_ :: _) _ _ _
  refine Wp.iconst dX2_judgeSide_7 ?_
  refine Wp.icmp_ne (tgt := 13) dX2_judgeSide_8 (by decide) (by first | omega | exact bI_R _ | exact cmp_R _ _ | assumption) (by first | omega | exact bI_R _ | exact cmp_R _ _ | assumption) (fun c8 => ?_) (fun c8 => ?_)
  · refine Wp.aload_n rfl dX2_judgeSide_13 ?_
    refine Wp.iload_n rfl dX2_judgeSide_14 ?_
    refine Wp.iload_n rfl dX2_judgeSide_15 ?_
    refine Wp.iload_n rfl dX2_judgeSide_16 ?_
    refine Wp.callV (As := [_, _, _]) (ls0 := [_, _, _, _, _]) (bd := (0, 0)) (bd' := (0, 0)) dX2_judgeSide_17 kmX8_given lkX2_44 (by decide) (by decide) (Nat.le_of_ble_eq_true rfl) (by first | rfl | exact kd_b0 _ | exact kd_b1 _ | exact kd_b2 _ | exact kd_b3 _ | exact kd_b4 _ | exact kd_b5 _ | exact kd_b6 _) (by omega) rfl rfl (Nat.le_of_ble_eq_true rfl) rfl ?_
    refine ct_X8_given hS (by omega) (by omega) (by omega) (by omega) ?_
    show Wp _ _ _ (_ :: _) _ _ _
    refine Wp.iload rfl dX2_judgeSide_20 ?_
    refine Wp.callS (As := [_, _]) (ls0 := [_, _, _]) (bd := (0, 0)) (bd' := (0, 0)) dX2_judgeSide_22 kmX11_has lkX2_48 (by decide) (by decide) (Nat.le_of_ble_eq_true rfl) rfl rfl (Nat.le_of_ble_eq_true rfl) rfl ?_
    refine ct_X11_has (by omega) ?_
    show Wp _ _ _ (_ :: _) _ _ _
    refine Wp.if_eqB (tgt := 32) dX2_judgeSide_25 (by decide) (fun c25 => ?_) (fun c25 => ?_)
    · refine Wp.iconst dX2_judgeSide_32 ?_
      refine Wp.ireturn dX2_judgeSide_33 rfl ?_
      first | (exfalso; omega) | (first | exact qI hq (by rw [if_pos (by omega)]) | exact qI hq (by rw [if_neg (by omega), if_pos c25.2.2]) | exact qI hq (by rw [if_neg (by omega), if_neg (fun q => c25 ⟨hv0, hv1, q⟩)]))
    · refine Wp.iconst dX2_judgeSide_28 ?_
      refine Wp.goto (tgt := 33) dX2_judgeSide_29 (by decide) ?_
      refine Wp.ireturn dX2_judgeSide_33 rfl ?_
      first | (exfalso; omega) | (first | exact qI hq (by rw [if_pos (by omega)]) | exact qI hq (by rw [if_neg (by omega), if_pos c25.2.2]) | exact qI hq (by rw [if_neg (by omega), if_neg (fun q => c25 ⟨hv0, hv1, q⟩)]))
  · refine Wp.iconst dX2_judgeSide_11 ?_
    refine Wp.ireturn dX2_judgeSide_12 rfl ?_
    first | (exfalso; omega) | (first | exact qI hq (by rw [if_pos (by omega)]) | exact qI hq (by rw [if_neg (by omega), if_pos c25.2.2]) | exact qI hq (by rw [if_neg (by omega), if_neg (fun q => c25 ⟨hv0, hv1, q⟩)]))
theorem ct_X2_judge {i : Int} (hS : ShR I L R n) (hK : AkW (I 8) (I 9) (I 10) (I 11) (I 7 4)) (h0 : 0 ≤ i) (h1 : i < I 7 4) (hq : Q (some (vi (frO I 255 (I 8 i) (I 9 i) (I 10 i) (I 11 i)))) (I, L, R, n)) : Wp mX2_judge 0 [some (vr (some 7)), some (vi i), some (vr (some 4)), none, none] [] (I, L, R, n) (0, 0) Q := by
  have hn := hS.1
  have hFx := hS.2.1
  have k1 := hK.2.1
  have hk := hK.2.2 i.toNat (by omega)
  rw [show ((i.toNat : Nat) : Int) = i by omega] at hk
  have hb1 := hsS_B I 255 (I 8 i) (I 9 i) (I 10 i) (I 11 i)
  have hb2 := hsS_B I 255 (I 10 i) (I 11 i) (I 8 i) (I 9 i)
  unfold frO at hq
  refine Wp.iload_n rfl dX2_judge_0 ?_
  refine Wp.if_lt (tgt := 18) dX2_judge_1 (by decide) (by first | omega | exact bI_R _ | exact cmp_R _ _ | assumption) (fun c1 => ?_) (fun c1 => ?_)
  · refine Wp.iconst dX2_judge_18 ?_
    refine Wp.ireturn dX2_judge_19 rfl ?_
    first | (exfalso; omega) | (exact hq)
  · refine Wp.iload_n rfl dX2_judge_4 ?_
    refine Wp.aload_n rfl dX2_judge_5 ?_
    refine Wp.gi (kz := 4) rfl dX2_judge_6 fkX2_24 (by first | rfl | exact kd_b0 _ | exact kd_b1 _ | exact kd_b2 _ | exact kd_b3 _ | exact kd_b4 _ | exact kd_b5 _ | exact kd_b6 _) (by omega) ?_
    refine Wp.icmp_ge (tgt := 18) dX2_judge_9 (by decide) (by first | omega | exact bI_R _ | exact cmp_R _ _ | assumption) (by first | omega | exact bI_R _ | exact cmp_R _ _ | assumption) (fun c9 => ?_) (fun c9 => ?_)
    · refine Wp.iconst dX2_judge_18 ?_
      refine Wp.ireturn dX2_judge_19 rfl ?_
      first | (exfalso; omega) | (exact hq)
    · refine Wp.iload_n rfl dX2_judge_12 ?_
      refine Wp.bipush rfl dX2_judge_13 ?_
      refine Wp.icmp_lt (tgt := 20) dX2_judge_15 (by decide) (by first | omega | exact bI_R _ | exact cmp_R _ _ | assumption) (by first | omega | exact bI_R _ | exact cmp_R _ _ | assumption) (fun c15 => ?_) (fun c15 => ?_)
      · refine Wp.aload_n rfl dX2_judge_20 ?_
        refine Wp.aload_n rfl dX2_judge_21 ?_
        refine Wp.gr (kz := 0) rfl dX2_judge_22 fkX2_9 (by first | rfl | exact kd_b0 _ | exact kd_b1 _ | exact kd_b2 _ | exact kd_b3 _ | exact kd_b4 _ | exact kd_b5 _ | exact kd_b6 _) (by omega) (by first | exact hFx _ 0 _ rfl | assumption | exact hBk.1 | exact hBk.2.1 | exact hBk.2.2.1 | exact hBk.2.2.2.1 | exact hBk.2.2.2.2.1 | exact hBk.2.2.2.2.2) ?_
        refine Wp.iload_n rfl dX2_judge_25 ?_
        refine Wp.iaload dX2_judge_26 (by first | rfl | exact kd_b0 _ | exact kd_b1 _ | exact kd_b2 _ | exact kd_b3 _ | exact kd_b4 _ | exact kd_b5 _ | exact kd_b6 _) (by omega) (by omega) (by omega) ?_
        refine Wp.aload_n rfl dX2_judge_27 ?_
        refine Wp.gr (kz := 1) rfl dX2_judge_28 fkX2_15 (by first | rfl | exact kd_b0 _ | exact kd_b1 _ | exact kd_b2 _ | exact kd_b3 _ | exact kd_b4 _ | exact kd_b5 _ | exact kd_b6 _) (by omega) (by first | exact hFx _ 1 _ rfl | assumption | exact hBk.1 | exact hBk.2.1 | exact hBk.2.2.1 | exact hBk.2.2.2.1 | exact hBk.2.2.2.2.1 | exact hBk.2.2.2.2.2) ?_
        refine Wp.iload_n rfl dX2_judge_31 ?_
        refine Wp.iaload dX2_judge_32 (by first | rfl | exact kd_b0 _ | exact kd_b1 _ | exact kd_b2 _ | exact kd_b3 _ | exact kd_b4 _ | exact kd_b5 _ | exact kd_b6 _) (by omega) (by omega) (by omega) ?_
        refine Wp.aload_n rfl dX2_judge_33 ?_
        refine Wp.gr (kz := 2) rfl dX2_judge_34 fkX2_18 (by first | rfl | exact kd_b0 _ | exact kd_b1 _ | exact kd_b2 _ | exact kd_b3 _ | exact kd_b4 _ | exact kd_b5 _ | exact kd_b6 _) (by omega) (by first | exact hFx _ 2 _ rfl | assumption | exact hBk.1 | exact hBk.2.1 | exact hBk.2.2.1 | exact hBk.2.2.2.1 | exact hBk.2.2.2.2.1 | exact hBk.2.2.2.2.2) ?_
        refine Wp.iload_n rfl dX2_judge_37 ?_
        refine Wp.iaload dX2_judge_38 (by first | rfl | exact kd_b0 _ | exact kd_b1 _ | exact kd_b2 _ | exact kd_b3 _ | exact kd_b4 _ | exact kd_b5 _ | exact kd_b6 _) (by omega) (by omega) (by omega) ?_
        refine Wp.aload_n rfl dX2_judge_39 ?_
        refine Wp.gr (kz := 3) rfl dX2_judge_40 fkX2_21 (by first | rfl | exact kd_b0 _ | exact kd_b1 _ | exact kd_b2 _ | exact kd_b3 _ | exact kd_b4 _ | exact kd_b5 _ | exact kd_b6 _) (by omega) (by first | exact hFx _ 3 _ rfl | assumption | exact hBk.1 | exact hBk.2.1 | exact hBk.2.2.1 | exact hBk.2.2.2.1 | exact hBk.2.2.2.2.1 | exact hBk.2.2.2.2.2) ?_
        refine Wp.iload_n rfl dX2_judge_43 ?_
        refine Wp.iaload dX2_judge_44 (by first | rfl | exact kd_b0 _ | exact kd_b1 _ | exact kd_b2 _ | exact kd_b3 _ | exact kd_b4 _ | exact kd_b5 _ | exact kd_b6 _) (by omega) (by omega) (by omega) ?_
        refine Wp.callS (As := [_, _, _, _, _]) (ls0 := [_, _, _, _, _]) (bd := (0, 0)) (bd' := (0, 0)) dX2_judge_45 kmX2_judgeSide lkX2_28 (by decide) (by decide) (Nat.le_of_ble_eq_true rfl) rfl rfl (Nat.le_of_ble_eq_true rfl) rfl ?_
        refine ct_X2_judgeSide hS (by omega) (by omega) (by omega) (by omega) (by omega) (by omega) ?_
        show Wp _ _ _ (_ :: _) _ _ _
        refine Wp.istore_n (ls' := [_, _, _, _, _]) dX2_judge_48 (by decide) rfl ?_
        refine Wp.aload_n rfl dX2_judge_49 ?_
        refine Wp.aload_n rfl dX2_judge_50 ?_
        refine Wp.gr (kz := 2) rfl dX2_judge_51 fkX2_18 (by first | rfl | exact kd_b0 _ | exact kd_b1 _ | exact kd_b2 _ | exact kd_b3 _ | exact kd_b4 _ | exact kd_b5 _ | exact kd_b6 _) (by omega) (by first | exact hFx _ 2 _ rfl | assumption | exact hBk.1 | exact hBk.2.1 | exact hBk.2.2.1 | exact hBk.2.2.2.1 | exact hBk.2.2.2.2.1 | exact hBk.2.2.2.2.2) ?_
        refine Wp.iload_n rfl dX2_judge_54 ?_
        refine Wp.iaload dX2_judge_55 (by first | rfl | exact kd_b0 _ | exact kd_b1 _ | exact kd_b2 _ | exact kd_b3 _ | exact kd_b4 _ | exact kd_b5 _ | exact kd_b6 _) (by omega) (by omega) (by omega) ?_
        refine Wp.aload_n rfl dX2_judge_56 ?_
        refine Wp.gr (kz := 3) rfl dX2_judge_57 fkX2_21 (by first | rfl | exact kd_b0 _ | exact kd_b1 _ | exact kd_b2 _ | exact kd_b3 _ | exact kd_b4 _ | exact kd_b5 _ | exact kd_b6 _) (by omega) (by first | exact hFx _ 3 _ rfl | assumption | exact hBk.1 | exact hBk.2.1 | exact hBk.2.2.1 | exact hBk.2.2.2.1 | exact hBk.2.2.2.2.1 | exact hBk.2.2.2.2.2) ?_
        refine Wp.iload_n rfl dX2_judge_60 ?_
        refine Wp.iaload dX2_judge_61 (by first | rfl | exact kd_b0 _ | exact kd_b1 _ | exact kd_b2 _ | exact kd_b3 _ | exact kd_b4 _ | exact kd_b5 _ | exact kd_b6 _) (by omega) (by omega) (by omega) ?_
        refine Wp.aload_n rfl dX2_judge_62 ?_
        refine Wp.gr (kz := 0) rfl dX2_judge_63 fkX2_9 (by first | rfl | exact kd_b0 _ | exact kd_b1 _ | exact kd_b2 _ | exact kd_b3 _ | exact kd_b4 _ | exact kd_b5 _ | exact kd_b6 _) (by omega) (by first | exact hFx _ 0 _ rfl | assumption | exact hBk.1 | exact hBk.2.1 | exact hBk.2.2.1 | exact hBk.2.2.2.1 | exact hBk.2.2.2.2.1 | exact hBk.2.2.2.2.2) ?_
        refine Wp.iload_n rfl dX2_judge_66 ?_
        refine Wp.iaload dX2_judge_67 (by first | rfl | exact kd_b0 _ | exact kd_b1 _ | exact kd_b2 _ | exact kd_b3 _ | exact kd_b4 _ | exact kd_b5 _ | exact kd_b6 _) (by omega) (by omega) (by omega) ?_
        refine Wp.aload_n rfl dX2_judge_68 ?_
        refine Wp.gr (kz := 1) rfl dX2_judge_69 fkX2_15 (by first | rfl | exact kd_b0 _ | exact kd_b1 _ | exact kd_b2 _ | exact kd_b3 _ | exact kd_b4 _ | exact kd_b5 _ | exact kd_b6 _) (by omega) (by first | exact hFx _ 1 _ rfl | assumption | exact hBk.1 | exact hBk.2.1 | exact hBk.2.2.1 | exact hBk.2.2.2.1 | exact hBk.2.2.2.2.1 | exact hBk.2.2.2.2.2) ?_
        refine Wp.iload_n rfl dX2_judge_72 ?_
        refine Wp.iaload dX2_judge_73 (by first | rfl | exact kd_b0 _ | exact kd_b1 _ | exact kd_b2 _ | exact kd_b3 _ | exact kd_b4 _ | exact kd_b5 _ | exact kd_b6 _) (by omega) (by omega) (by omega) ?_
        refine Wp.callS (As := [_, _, _, _, _]) (ls0 := [_, _, _, _, _]) (bd := (0, 0)) (bd' := (0, 0)) dX2_judge_74 kmX2_judgeSide lkX2_28 (by decide) (by decide) (Nat.le_of_ble_eq_true rfl) rfl rfl (Nat.le_of_ble_eq_true rfl) rfl ?_
        refine ct_X2_judgeSide hS (by omega) (by omega) (by omega) (by omega) (by omega) (by omega) ?_
        show Wp _ _ _ (_ :: _) _ _ _
        refine Wp.istore (ls' := [_, _, _, _, _]) dX2_judge_77 (by decide) rfl ?_
        refine Wp.iload_n rfl dX2_judge_79 ?_
        refine Wp.iload rfl dX2_judge_80 ?_
        refine Wp.mM true dX2_judge_82 lkX2_32 ka_math (by decide) (Nat.le_of_ble_eq_true rfl) (by omega) (by omega) ?_
        refine Wp.ireturn dX2_judge_85 rfl ?_
        first | (exfalso; omega) | (exact hq)
      · refine Wp.iconst dX2_judge_18 ?_
        refine Wp.ireturn dX2_judge_19 rfl ?_
        first | (exfalso; omega) | (exact hq)
theorem ct_X11_friends {i : Int} (hS : ShR I L R n) (hK : AkW (I 8) (I 9) (I 10) (I 11) (I 7 4)) (hi : inR i) (hq : Q (some (vi (aFriends I 255 (I 8) (I 9) (I 10) (I 11) (I 7 4) i))) (I, L, R, n)) : Wp mX11_friends 0 [some (vr (some 0)), some (vi i), none, none] [] (I, L, R, n) (0, 0) Q := by
  have hn := hS.1
  have hFx := hS.2.1
  have k0 := hK.1
  have k1 := hK.2.1
  unfold aFriends at hq
  have lp : ∀ (hi1 : i = -1) , ∀ (tt k : Nat) (z : Int) (x : Int), k + tt = (I 7 4).toNat → z = k → x = frN I 255 (I 8) (I 9) (I 10) (I 11) k → Wp mX11_friends 42 [some (vr (some 0)), some (vi i), some (vi x), some (vi z)] [] (I, L, R, n) (0, 0) Q := by
    intro hi1
    intro tt
    induction tt with
    | zero =>
      intro k z x hkt hz e0
      obtain rfl : k = (I 7 4).toNat := by omega
      refine Wp.iload_n rfl dX11_friends_42 ?_
      refine Wp.aload_n rfl dX11_friends_43 ?_
      refine Wp.gr (kz := 4) rfl dX11_friends_44 fkX11_40 (by first | rfl | exact kd_b0 _ | exact kd_b1 _ | exact kd_b2 _ | exact kd_b3 _ | exact kd_b4 _ | exact kd_b5 _ | exact kd_b6 _) (by omega) (by first | exact hFx _ 4 _ rfl | assumption | exact hBk.1 | exact hBk.2.1 | exact hBk.2.2.1 | exact hBk.2.2.2.1 | exact hBk.2.2.2.2.1 | exact hBk.2.2.2.2.2) ?_
      refine Wp.gi (kz := 4) rfl dX11_friends_47 fkX11_159 (by first | rfl | exact kd_b0 _ | exact kd_b1 _ | exact kd_b2 _ | exact kd_b3 _ | exact kd_b4 _ | exact kd_b5 _ | exact kd_b6 _) (by omega) ?_
      refine Wp.icmp_ge (tgt := 78) dX11_friends_50 (by decide) (by first | omega | exact bI_R _ | exact cmp_R _ _ | assumption) (by first | omega | exact bI_R _ | exact cmp_R _ _ | assumption) (fun c50 => ?_) (fun c50 => ?_)
      · refine Wp.iload_n rfl dX11_friends_78 ?_
        refine Wp.ireturn dX11_friends_79 rfl ?_
        first | (exfalso; omega) | (rw [if_pos (by omega), if_pos hi1] at hq; exact qI hq e0)
      · exfalso; omega
    | succ tt ih =>
      intro k z x hkt hz e0
      subst hz
      subst e0
      have hfB := frO_B I 255 (I 8 k) (I 9 k) (I 10 k) (I 11 k)
      refine Wp.iload_n rfl dX11_friends_42 ?_
      refine Wp.aload_n rfl dX11_friends_43 ?_
      refine Wp.gr (kz := 4) rfl dX11_friends_44 fkX11_40 (by first | rfl | exact kd_b0 _ | exact kd_b1 _ | exact kd_b2 _ | exact kd_b3 _ | exact kd_b4 _ | exact kd_b5 _ | exact kd_b6 _) (by omega) (by first | exact hFx _ 4 _ rfl | assumption | exact hBk.1 | exact hBk.2.1 | exact hBk.2.2.1 | exact hBk.2.2.2.1 | exact hBk.2.2.2.2.1 | exact hBk.2.2.2.2.2) ?_
      refine Wp.gi (kz := 4) rfl dX11_friends_47 fkX11_159 (by first | rfl | exact kd_b0 _ | exact kd_b1 _ | exact kd_b2 _ | exact kd_b3 _ | exact kd_b4 _ | exact kd_b5 _ | exact kd_b6 _) (by omega) ?_
      refine Wp.icmp_ge (tgt := 78) dX11_friends_50 (by decide) (by first | omega | exact bI_R _ | exact cmp_R _ _ | assumption) (by first | omega | exact bI_R _ | exact cmp_R _ _ | assumption) (fun c50 => ?_) (fun c50 => ?_)
      · exfalso; omega
      · refine Wp.aload_n rfl dX11_friends_53 ?_
        refine Wp.gr (kz := 4) rfl dX11_friends_54 fkX11_40 (by first | rfl | exact kd_b0 _ | exact kd_b1 _ | exact kd_b2 _ | exact kd_b3 _ | exact kd_b4 _ | exact kd_b5 _ | exact kd_b6 _) (by omega) (by first | exact hFx _ 4 _ rfl | assumption | exact hBk.1 | exact hBk.2.1 | exact hBk.2.2.1 | exact hBk.2.2.2.1 | exact hBk.2.2.2.2.1 | exact hBk.2.2.2.2.2) ?_
        refine Wp.iload_n rfl dX11_friends_57 ?_
        refine Wp.aload_n rfl dX11_friends_58 ?_
        refine Wp.gr (kz := 2) rfl dX11_friends_59 fkX11_26 (by first | rfl | exact kd_b0 _ | exact kd_b1 _ | exact kd_b2 _ | exact kd_b3 _ | exact kd_b4 _ | exact kd_b5 _ | exact kd_b6 _) (by omega) (by first | exact hFx _ 2 _ rfl | assumption | exact hBk.1 | exact hBk.2.1 | exact hBk.2.2.1 | exact hBk.2.2.2.1 | exact hBk.2.2.2.2.1 | exact hBk.2.2.2.2.2) ?_
        refine Wp.callV (As := [_, _]) (ls0 := [_, _, _, _, _]) (bd := (0, 0)) (bd' := (0, 0)) dX11_friends_62 kmX2_judge lkX11_265 (by decide) (by decide) (Nat.le_of_ble_eq_true rfl) (by first | rfl | exact kd_b0 _ | exact kd_b1 _ | exact kd_b2 _ | exact kd_b3 _ | exact kd_b4 _ | exact kd_b5 _ | exact kd_b6 _) (by omega) rfl rfl (Nat.le_of_ble_eq_true rfl) rfl ?_
        refine ct_X2_judge hS hK (by omega) (by omega) ?_
        show Wp _ _ _ (_ :: _) _ _ _
        refine Wp.iconst dX11_friends_65 ?_
        refine Wp.icmp_ne (tgt := 72) dX11_friends_66 (by decide) (by first | omega | exact bI_R _ | exact cmp_R _ _ | assumption) (by first | omega | exact bI_R _ | exact cmp_R _ _ | assumption) (fun c66 => ?_) (fun c66 => ?_)
        · refine Wp.iinc (ls' := [_, _, _, _]) rfl dX11_friends_72 (by decide) rfl ?_
          refine Wp.goto (tgt := 42) dX11_friends_75 (by decide) ?_
          first | exact ih (k + 1) _ _ (by omega) (by omega) (frN_t c66) | exact ih (k + 1) _ _ (by omega) (by omega) ((Int.add_zero _).symm.trans (frN_f c66)) | (exfalso; omega)
        · refine Wp.iinc (ls' := [_, _, _, _]) rfl dX11_friends_69 (by decide) rfl ?_
          refine Wp.iinc (ls' := [_, _, _, _]) rfl dX11_friends_72 (by decide) rfl ?_
          refine Wp.goto (tgt := 42) dX11_friends_75 (by decide) ?_
          first | exact ih (k + 1) _ _ (by omega) (by omega) (frN_t c66) | exact ih (k + 1) _ _ (by omega) (by omega) ((Int.add_zero _).symm.trans (frN_f c66)) | (exfalso; omega)
  refine Wp.iload_n rfl dX11_friends_0 ?_
  refine Wp.iconst dX11_friends_1 ?_
  refine Wp.icmp_lt (tgt := 16) dX11_friends_2 (by decide) (by first | omega | exact bI_R _ | exact cmp_R _ _ | assumption) (by first | omega | exact bI_R _ | exact cmp_R _ _ | assumption) (fun c2 => ?_) (fun c2 => ?_)
  · refine Wp.sipush rfl dX11_friends_16 ?_
    refine Wp.ireturn dX11_friends_19 rfl ?_
    first | (exfalso; omega) | (exact qI hq (by (repeat' split) <;> first | (exfalso; omega) | rfl))
  · refine Wp.iload_n rfl dX11_friends_5 ?_
    refine Wp.aload_n rfl dX11_friends_6 ?_
    refine Wp.gr (kz := 4) rfl dX11_friends_7 fkX11_40 (by first | rfl | exact kd_b0 _ | exact kd_b1 _ | exact kd_b2 _ | exact kd_b3 _ | exact kd_b4 _ | exact kd_b5 _ | exact kd_b6 _) (by omega) (by first | exact hFx _ 4 _ rfl | assumption | exact hBk.1 | exact hBk.2.1 | exact hBk.2.2.1 | exact hBk.2.2.2.1 | exact hBk.2.2.2.2.1 | exact hBk.2.2.2.2.2) ?_
    refine Wp.gi (kz := 4) rfl dX11_friends_10 fkX11_159 (by first | rfl | exact kd_b0 _ | exact kd_b1 _ | exact kd_b2 _ | exact kd_b3 _ | exact kd_b4 _ | exact kd_b5 _ | exact kd_b6 _) (by omega) ?_
    refine Wp.icmp_lt (tgt := 20) dX11_friends_13 (by decide) (by first | omega | exact bI_R _ | exact cmp_R _ _ | assumption) (by first | omega | exact bI_R _ | exact cmp_R _ _ | assumption) (fun c13 => ?_) (fun c13 => ?_)
    · refine Wp.iload_n rfl dX11_friends_20 ?_
      refine Wp.iconst dX11_friends_21 ?_
      refine Wp.icmp_eq (tgt := 38) dX11_friends_22 (by decide) (by first | omega | exact bI_R _ | exact cmp_R _ _ | assumption) (by first | omega | exact bI_R _ | exact cmp_R _ _ | assumption) (fun c22 => ?_) (fun c22 => ?_)
      · refine Wp.iconst dX11_friends_38 ?_
        refine Wp.istore_n (ls' := [_, _, _, _]) dX11_friends_39 (by decide) rfl ?_
        refine Wp.iconst dX11_friends_40 ?_
        refine Wp.istore_n (ls' := [_, _, _, _]) dX11_friends_41 (by decide) rfl ?_
        exact lp (by omega) (I 7 4).toNat 0 _ _ (by omega) (by omega) rfl
      · refine Wp.aload_n rfl dX11_friends_25 ?_
        refine Wp.gr (kz := 4) rfl dX11_friends_26 fkX11_40 (by first | rfl | exact kd_b0 _ | exact kd_b1 _ | exact kd_b2 _ | exact kd_b3 _ | exact kd_b4 _ | exact kd_b5 _ | exact kd_b6 _) (by omega) (by first | exact hFx _ 4 _ rfl | assumption | exact hBk.1 | exact hBk.2.1 | exact hBk.2.2.1 | exact hBk.2.2.2.1 | exact hBk.2.2.2.2.1 | exact hBk.2.2.2.2.2) ?_
        refine Wp.iload_n rfl dX11_friends_29 ?_
        refine Wp.aload_n rfl dX11_friends_30 ?_
        refine Wp.gr (kz := 2) rfl dX11_friends_31 fkX11_26 (by first | rfl | exact kd_b0 _ | exact kd_b1 _ | exact kd_b2 _ | exact kd_b3 _ | exact kd_b4 _ | exact kd_b5 _ | exact kd_b6 _) (by omega) (by first | exact hFx _ 2 _ rfl | assumption | exact hBk.1 | exact hBk.2.1 | exact hBk.2.2.1 | exact hBk.2.2.2.1 | exact hBk.2.2.2.2.1 | exact hBk.2.2.2.2.2) ?_
        refine Wp.callV (As := [_, _]) (ls0 := [_, _, _, _, _]) (bd := (0, 0)) (bd' := (0, 0)) dX11_friends_34 kmX2_judge lkX11_265 (by decide) (by decide) (Nat.le_of_ble_eq_true rfl) (by first | rfl | exact kd_b0 _ | exact kd_b1 _ | exact kd_b2 _ | exact kd_b3 _ | exact kd_b4 _ | exact kd_b5 _ | exact kd_b6 _) (by omega) rfl rfl (Nat.le_of_ble_eq_true rfl) rfl ?_
        refine ct_X2_judge hS hK (by omega) (by omega) ?_
        show Wp _ _ _ (_ :: _) _ _ _
        refine Wp.ireturn dX11_friends_37 rfl ?_
        first | (exfalso; omega) | (exact qI hq (by (repeat' split) <;> first | (exfalso; omega) | rfl))
    · refine Wp.sipush rfl dX11_friends_16 ?_
      refine Wp.ireturn dX11_friends_19 rfl ?_
      first | (exfalso; omega) | (exact qI hq (by (repeat' split) <;> first | (exfalso; omega) | rfl))
set_option maxHeartbeats 1000000 in
theorem ct_X2_holds {a w b v : Int} (hn : 57 ≤ n) (hFx : Fx R) (hK : AkW (I 8) (I 9) (I 10) (I 11) (I 7 4)) (ha : inR a) (hw : inR w) (hb : inR b) (hv : inR v) (hq : Q (some (vi (bI (alk (I 8) (I 9) (I 10) (I 11) a w b v (I 7 4).toNat = true)))) (I, L, R, n)) : Wp mX2_holds 0 [some (vr (some 7)), some (vi a), some (vi w), some (vi b), some (vi v), none, none, none, none, none] [] (I, L, R, n) (0, 0) Q := by
  have k0 := hK.1
  have k1 := hK.2.1
  have lp : ∀ (tt k : Nat) (z : Int) (x6 : Option AV) (x7 : Option AV) (x8 : Option AV) (x9 : Option AV), k + tt = (I 7 4).toNat → z = k → alk (I 8) (I 9) (I 10) (I 11) a w b v k = false → Wp mX2_holds 3 [some (vr (some 7)), some (vi a), some (vi w), some (vi b), some (vi v), some (vi z), x6, x7, x8, x9] [] (I, L, R, n) (0, 0) Q := by
    intro tt
    induction tt with
    | zero =>
      intro k z x6 x7 x8 x9 hkt hz e0
      obtain rfl : k = (I 7 4).toNat := by omega
      refine Wp.iload rfl dX2_holds_3 ?_
      refine Wp.aload_n rfl dX2_holds_5 ?_
      refine Wp.gi (kz := 4) rfl dX2_holds_6 fkX2_24 (by first | rfl | exact kd_b0 _ | exact kd_b1 _ | exact kd_b2 _ | exact kd_b3 _ | exact kd_b4 _ | exact kd_b5 _ | exact kd_b6 _) (by omega) ?_
      refine Wp.icmp_ge (tgt := 165) dX2_holds_9 (by decide) (by first | omega | exact bI_R _ | exact cmp_R _ _ | assumption) (by first | omega | exact bI_R _ | exact cmp_R _ _ | assumption) (fun c9 => ?_) (fun c9 => ?_)
      · refine Wp.iconst dX2_holds_165 ?_
        refine Wp.zreturn dX2_holds_166 rfl (by first | omega | exact bI_01 _) ?_
        first | (exfalso; omega) | (exact qB_f hq (by rw [e0]; decide))
      · refine Wp.iload rfl dX2_holds_12 ?_
        refine Wp.bipush rfl dX2_holds_14 ?_
        refine Wp.icmp_ge (tgt := 165) dX2_holds_16 (by decide) (by first | omega | exact bI_R _ | exact cmp_R _ _ | assumption) (by first | omega | exact bI_R _ | exact cmp_R _ _ | assumption) (fun c16 => ?_) (fun c16 => ?_)
        · refine Wp.iconst dX2_holds_165 ?_
          refine Wp.zreturn dX2_holds_166 rfl (by first | omega | exact bI_01 _) ?_
          first | (exfalso; omega) | (exact qB_f hq (by rw [e0]; decide))
        · exfalso; omega
    | succ tt ih =>
      intro k z x6 x7 x8 x9 hkt hz e0
      subst hz
      have hk := hK.2.2 k (by omega)
      have h137 : ∀ y6 y7 y8 y9 : Int, (y6 = 1 ∧ I 8 k = a ∧ I 9 k = w ∨ y6 = 0 ∧ ¬ (I 8 k = a ∧ I 9 k = w)) → (y7 = 1 ∧ I 10 k = b ∧ I 11 k = v ∨ y7 = 0 ∧ ¬ (I 10 k = b ∧ I 11 k = v)) → (y8 = 1 ∧ I 8 k = b ∧ I 9 k = v ∨ y8 = 0 ∧ ¬ (I 8 k = b ∧ I 9 k = v)) → (y9 = 1 ∧ I 10 k = a ∧ I 11 k = w ∨ y9 = 0 ∧ ¬ (I 10 k = a ∧ I 11 k = w)) → Wp mX2_holds 137 [some (vr (some 7)), some (vi a), some (vi w), some (vi b), some (vi v), some (vi k), some (vi y6), some (vi y7), some (vi y8), some (vi y9)] [] (I, L, R, n) (0, 0) Q := by
        intro y6 y7 y8 y9 d6 d7 d8 d9
        refine Wp.iload rfl dX2_holds_137 ?_
        refine Wp.if_eq (tgt := 147) dX2_holds_139 (by decide) (by first | omega | exact bI_R _ | exact cmp_R _ _ | assumption) (fun c139 => ?_) (fun c139 => ?_)
        · refine Wp.iload rfl dX2_holds_147 ?_
          refine Wp.if_eq (tgt := 159) dX2_holds_149 (by decide) (by first | omega | exact bI_R _ | exact cmp_R _ _ | assumption) (fun c149 => ?_) (fun c149 => ?_)
          · refine Wp.iinc (ls' := [_, _, _, _, _, _, _, _, _, _]) rfl dX2_holds_159 (by decide) rfl ?_
            refine Wp.goto (tgt := 3) dX2_holds_162 (by decide) ?_
            exact ih (k + 1) _ _ _ _ _ (by omega) (by omega) (alk_f e0 (by omega))
          · refine Wp.iload rfl dX2_holds_152 ?_
            refine Wp.if_eq (tgt := 159) dX2_holds_154 (by decide) (by first | omega | exact bI_R _ | exact cmp_R _ _ | assumption) (fun c154 => ?_) (fun c154 => ?_)
            · refine Wp.iinc (ls' := [_, _, _, _, _, _, _, _, _, _]) rfl dX2_holds_159 (by decide) rfl ?_
              refine Wp.goto (tgt := 3) dX2_holds_162 (by decide) ?_
              exact ih (k + 1) _ _ _ _ _ (by omega) (by omega) (alk_f e0 (by omega))
            · refine Wp.iconst dX2_holds_157 ?_
              refine Wp.zreturn dX2_holds_158 rfl (by first | omega | exact bI_01 _) ?_
              first | (exfalso; omega) | (exact qB_t hq (alk_t (k := k) (by omega) (by omega)))
        · refine Wp.iload rfl dX2_holds_142 ?_
          refine Wp.if_ne (tgt := 157) dX2_holds_144 (by decide) (by first | omega | exact bI_R _ | exact cmp_R _ _ | assumption) (fun c144 => ?_) (fun c144 => ?_)
          · refine Wp.iconst dX2_holds_157 ?_
            refine Wp.zreturn dX2_holds_158 rfl (by first | omega | exact bI_01 _) ?_
            first | (exfalso; omega) | (exact qB_t hq (alk_t (k := k) (by omega) (by omega)))
          · refine Wp.iload rfl dX2_holds_147 ?_
            refine Wp.if_eq (tgt := 159) dX2_holds_149 (by decide) (by first | omega | exact bI_R _ | exact cmp_R _ _ | assumption) (fun c149 => ?_) (fun c149 => ?_)
            · refine Wp.iinc (ls' := [_, _, _, _, _, _, _, _, _, _]) rfl dX2_holds_159 (by decide) rfl ?_
              refine Wp.goto (tgt := 3) dX2_holds_162 (by decide) ?_
              exact ih (k + 1) _ _ _ _ _ (by omega) (by omega) (alk_f e0 (by omega))
            · refine Wp.iload rfl dX2_holds_152 ?_
              refine Wp.if_eq (tgt := 159) dX2_holds_154 (by decide) (by first | omega | exact bI_R _ | exact cmp_R _ _ | assumption) (fun c154 => ?_) (fun c154 => ?_)
              · refine Wp.iinc (ls' := [_, _, _, _, _, _, _, _, _, _]) rfl dX2_holds_159 (by decide) rfl ?_
                refine Wp.goto (tgt := 3) dX2_holds_162 (by decide) ?_
                exact ih (k + 1) _ _ _ _ _ (by omega) (by omega) (alk_f e0 (by omega))
              · refine Wp.iconst dX2_holds_157 ?_
                refine Wp.zreturn dX2_holds_158 rfl (by first | omega | exact bI_01 _) ?_
                first | (exfalso; omega) | (exact qB_t hq (alk_t (k := k) (by omega) (by omega)))
      have h108 : ∀ (y6 y7 y8 : Int) (x9 : Option AV), (y6 = 1 ∧ I 8 k = a ∧ I 9 k = w ∨ y6 = 0 ∧ ¬ (I 8 k = a ∧ I 9 k = w)) → (y7 = 1 ∧ I 10 k = b ∧ I 11 k = v ∨ y7 = 0 ∧ ¬ (I 10 k = b ∧ I 11 k = v)) → (y8 = 1 ∧ I 8 k = b ∧ I 9 k = v ∨ y8 = 0 ∧ ¬ (I 8 k = b ∧ I 9 k = v)) → Wp mX2_holds 108 [some (vr (some 7)), some (vi a), some (vi w), some (vi b), some (vi v), some (vi k), some (vi y6), some (vi y7), some (vi y8), x9] [] (I, L, R, n) (0, 0) Q := by
        intro y6 y7 y8 x9 d6 d7 d8
        refine Wp.aload_n rfl dX2_holds_108 ?_
        refine Wp.gr (kz := 2) rfl dX2_holds_109 fkX2_18 (by first | rfl | exact kd_b0 _ | exact kd_b1 _ | exact kd_b2 _ | exact kd_b3 _ | exact kd_b4 _ | exact kd_b5 _ | exact kd_b6 _) (by omega) (by first | exact hFx _ 2 _ rfl | assumption | exact hBk.1 | exact hBk.2.1 | exact hBk.2.2.1 | exact hBk.2.2.2.1 | exact hBk.2.2.2.2.1 | exact hBk.2.2.2.2.2) ?_
        refine Wp.iload rfl dX2_holds_112 ?_
        refine Wp.iaload dX2_holds_114 (by first | rfl | exact kd_b0 _ | exact kd_b1 _ | exact kd_b2 _ | exact kd_b3 _ | exact kd_b4 _ | exact kd_b5 _ | exact kd_b6 _) (by omega) (by omega) (by omega) ?_
        refine Wp.iload_n rfl dX2_holds_115 ?_
        refine Wp.icmp_ne (tgt := 134) dX2_holds_116 (by decide) (by first | omega | exact bI_R _ | exact cmp_R _ _ | assumption) (by first | omega | exact bI_R _ | exact cmp_R _ _ | assumption) (fun c116 => ?_) (fun c116 => ?_)
        · refine Wp.iconst dX2_holds_134 ?_
          refine Wp.istore (ls' := [_, _, _, _, _, _, _, _, _, _]) dX2_holds_135 (by decide) rfl ?_
          exact h137 _ _ _ _ d6 d7 d8 (by omega)
        · refine Wp.aload_n rfl dX2_holds_119 ?_
          refine Wp.gr (kz := 3) rfl dX2_holds_120 fkX2_21 (by first | rfl | exact kd_b0 _ | exact kd_b1 _ | exact kd_b2 _ | exact kd_b3 _ | exact kd_b4 _ | exact kd_b5 _ | exact kd_b6 _) (by omega) (by first | exact hFx _ 3 _ rfl | assumption | exact hBk.1 | exact hBk.2.1 | exact hBk.2.2.1 | exact hBk.2.2.2.1 | exact hBk.2.2.2.2.1 | exact hBk.2.2.2.2.2) ?_
          refine Wp.iload rfl dX2_holds_123 ?_
          refine Wp.iaload dX2_holds_125 (by first | rfl | exact kd_b0 _ | exact kd_b1 _ | exact kd_b2 _ | exact kd_b3 _ | exact kd_b4 _ | exact kd_b5 _ | exact kd_b6 _) (by omega) (by omega) (by omega) ?_
          refine Wp.iload_n rfl dX2_holds_126 ?_
          refine Wp.icmp_ne (tgt := 134) dX2_holds_127 (by decide) (by first | omega | exact bI_R _ | exact cmp_R _ _ | assumption) (by first | omega | exact bI_R _ | exact cmp_R _ _ | assumption) (fun c127 => ?_) (fun c127 => ?_)
          · refine Wp.iconst dX2_holds_134 ?_
            refine Wp.istore (ls' := [_, _, _, _, _, _, _, _, _, _]) dX2_holds_135 (by decide) rfl ?_
            exact h137 _ _ _ _ d6 d7 d8 (by omega)
          · refine Wp.iconst dX2_holds_130 ?_
            refine Wp.goto (tgt := 135) dX2_holds_131 (by decide) ?_
            refine Wp.istore (ls' := [_, _, _, _, _, _, _, _, _, _]) dX2_holds_135 (by decide) rfl ?_
            exact h137 _ _ _ _ d6 d7 d8 (by omega)
      have h78 : ∀ (y6 y7 : Int) (x8 x9 : Option AV), (y6 = 1 ∧ I 8 k = a ∧ I 9 k = w ∨ y6 = 0 ∧ ¬ (I 8 k = a ∧ I 9 k = w)) → (y7 = 1 ∧ I 10 k = b ∧ I 11 k = v ∨ y7 = 0 ∧ ¬ (I 10 k = b ∧ I 11 k = v)) → Wp mX2_holds 78 [some (vr (some 7)), some (vi a), some (vi w), some (vi b), some (vi v), some (vi k), some (vi y6), some (vi y7), x8, x9] [] (I, L, R, n) (0, 0) Q := by
        intro y6 y7 x8 x9 d6 d7
        refine Wp.aload_n rfl dX2_holds_78 ?_
        refine Wp.gr (kz := 0) rfl dX2_holds_79 fkX2_9 (by first | rfl | exact kd_b0 _ | exact kd_b1 _ | exact kd_b2 _ | exact kd_b3 _ | exact kd_b4 _ | exact kd_b5 _ | exact kd_b6 _) (by omega) (by first | exact hFx _ 0 _ rfl | assumption | exact hBk.1 | exact hBk.2.1 | exact hBk.2.2.1 | exact hBk.2.2.2.1 | exact hBk.2.2.2.2.1 | exact hBk.2.2.2.2.2) ?_
        refine Wp.iload rfl dX2_holds_82 ?_
        refine Wp.iaload dX2_holds_84 (by first | rfl | exact kd_b0 _ | exact kd_b1 _ | exact kd_b2 _ | exact kd_b3 _ | exact kd_b4 _ | exact kd_b5 _ | exact kd_b6 _) (by omega) (by omega) (by omega) ?_
        refine Wp.iload_n rfl dX2_holds_85 ?_
        refine Wp.icmp_ne (tgt := 105) dX2_holds_86 (by decide) (by first | omega | exact bI_R _ | exact cmp_R _ _ | assumption) (by first | omega | exact bI_R _ | exact cmp_R _ _ | assumption) (fun c86 => ?_) (fun c86 => ?_)
        · refine Wp.iconst dX2_holds_105 ?_
          refine Wp.istore (ls' := [_, _, _, _, _, _, _, _, _, _]) dX2_holds_106 (by decide) rfl ?_
          exact h108 _ _ _ _ d6 d7 (by omega)
        · refine Wp.aload_n rfl dX2_holds_89 ?_
          refine Wp.gr (kz := 1) rfl dX2_holds_90 fkX2_15 (by first | rfl | exact kd_b0 _ | exact kd_b1 _ | exact kd_b2 _ | exact kd_b3 _ | exact kd_b4 _ | exact kd_b5 _ | exact kd_b6 _) (by omega) (by first | exact hFx _ 1 _ rfl | assumption | exact hBk.1 | exact hBk.2.1 | exact hBk.2.2.1 | exact hBk.2.2.2.1 | exact hBk.2.2.2.2.1 | exact hBk.2.2.2.2.2) ?_
          refine Wp.iload rfl dX2_holds_93 ?_
          refine Wp.iaload dX2_holds_95 (by first | rfl | exact kd_b0 _ | exact kd_b1 _ | exact kd_b2 _ | exact kd_b3 _ | exact kd_b4 _ | exact kd_b5 _ | exact kd_b6 _) (by omega) (by omega) (by omega) ?_
          refine Wp.iload rfl dX2_holds_96 ?_
          refine Wp.icmp_ne (tgt := 105) dX2_holds_98 (by decide) (by first | omega | exact bI_R _ | exact cmp_R _ _ | assumption) (by first | omega | exact bI_R _ | exact cmp_R _ _ | assumption) (fun c98 => ?_) (fun c98 => ?_)
          · refine Wp.iconst dX2_holds_105 ?_
            refine Wp.istore (ls' := [_, _, _, _, _, _, _, _, _, _]) dX2_holds_106 (by decide) rfl ?_
            exact h108 _ _ _ _ d6 d7 (by omega)
          · refine Wp.iconst dX2_holds_101 ?_
            refine Wp.goto (tgt := 106) dX2_holds_102 (by decide) ?_
            refine Wp.istore (ls' := [_, _, _, _, _, _, _, _, _, _]) dX2_holds_106 (by decide) rfl ?_
            exact h108 _ _ _ _ d6 d7 (by omega)
      have h48 : ∀ (y6 : Int) (x7 x8 x9 : Option AV), (y6 = 1 ∧ I 8 k = a ∧ I 9 k = w ∨ y6 = 0 ∧ ¬ (I 8 k = a ∧ I 9 k = w)) → Wp mX2_holds 48 [some (vr (some 7)), some (vi a), some (vi w), some (vi b), some (vi v), some (vi k), some (vi y6), x7, x8, x9] [] (I, L, R, n) (0, 0) Q := by
        intro y6 x7 x8 x9 d6
        refine Wp.aload_n rfl dX2_holds_48 ?_
        refine Wp.gr (kz := 2) rfl dX2_holds_49 fkX2_18 (by first | rfl | exact kd_b0 _ | exact kd_b1 _ | exact kd_b2 _ | exact kd_b3 _ | exact kd_b4 _ | exact kd_b5 _ | exact kd_b6 _) (by omega) (by first | exact hFx _ 2 _ rfl | assumption | exact hBk.1 | exact hBk.2.1 | exact hBk.2.2.1 | exact hBk.2.2.2.1 | exact hBk.2.2.2.2.1 | exact hBk.2.2.2.2.2) ?_
        refine Wp.iload rfl dX2_holds_52 ?_
        refine Wp.iaload dX2_holds_54 (by first | rfl | exact kd_b0 _ | exact kd_b1 _ | exact kd_b2 _ | exact kd_b3 _ | exact kd_b4 _ | exact kd_b5 _ | exact kd_b6 _) (by omega) (by omega) (by omega) ?_
        refine Wp.iload_n rfl dX2_holds_55 ?_
        refine Wp.icmp_ne (tgt := 75) dX2_holds_56 (by decide) (by first | omega | exact bI_R _ | exact cmp_R _ _ | assumption) (by first | omega | exact bI_R _ | exact cmp_R _ _ | assumption) (fun c56 => ?_) (fun c56 => ?_)
        · refine Wp.iconst dX2_holds_75 ?_
          refine Wp.istore (ls' := [_, _, _, _, _, _, _, _, _, _]) dX2_holds_76 (by decide) rfl ?_
          exact h78 _ _ _ _ d6 (by omega)
        · refine Wp.aload_n rfl dX2_holds_59 ?_
          refine Wp.gr (kz := 3) rfl dX2_holds_60 fkX2_21 (by first | rfl | exact kd_b0 _ | exact kd_b1 _ | exact kd_b2 _ | exact kd_b3 _ | exact kd_b4 _ | exact kd_b5 _ | exact kd_b6 _) (by omega) (by first | exact hFx _ 3 _ rfl | assumption | exact hBk.1 | exact hBk.2.1 | exact hBk.2.2.1 | exact hBk.2.2.2.1 | exact hBk.2.2.2.2.1 | exact hBk.2.2.2.2.2) ?_
          refine Wp.iload rfl dX2_holds_63 ?_
          refine Wp.iaload dX2_holds_65 (by first | rfl | exact kd_b0 _ | exact kd_b1 _ | exact kd_b2 _ | exact kd_b3 _ | exact kd_b4 _ | exact kd_b5 _ | exact kd_b6 _) (by omega) (by omega) (by omega) ?_
          refine Wp.iload rfl dX2_holds_66 ?_
          refine Wp.icmp_ne (tgt := 75) dX2_holds_68 (by decide) (by first | omega | exact bI_R _ | exact cmp_R _ _ | assumption) (by first | omega | exact bI_R _ | exact cmp_R _ _ | assumption) (fun c68 => ?_) (fun c68 => ?_)
          · refine Wp.iconst dX2_holds_75 ?_
            refine Wp.istore (ls' := [_, _, _, _, _, _, _, _, _, _]) dX2_holds_76 (by decide) rfl ?_
            exact h78 _ _ _ _ d6 (by omega)
          · refine Wp.iconst dX2_holds_71 ?_
            refine Wp.goto (tgt := 76) dX2_holds_72 (by decide) ?_
            refine Wp.istore (ls' := [_, _, _, _, _, _, _, _, _, _]) dX2_holds_76 (by decide) rfl ?_
            exact h78 _ _ _ _ d6 (by omega)
      refine Wp.iload rfl dX2_holds_3 ?_
      refine Wp.aload_n rfl dX2_holds_5 ?_
      refine Wp.gi (kz := 4) rfl dX2_holds_6 fkX2_24 (by first | rfl | exact kd_b0 _ | exact kd_b1 _ | exact kd_b2 _ | exact kd_b3 _ | exact kd_b4 _ | exact kd_b5 _ | exact kd_b6 _) (by omega) ?_
      refine Wp.icmp_ge (tgt := 165) dX2_holds_9 (by decide) (by first | omega | exact bI_R _ | exact cmp_R _ _ | assumption) (by first | omega | exact bI_R _ | exact cmp_R _ _ | assumption) (fun c9 => ?_) (fun c9 => ?_)
      · exfalso; omega
      · refine Wp.iload rfl dX2_holds_12 ?_
        refine Wp.bipush rfl dX2_holds_14 ?_
        refine Wp.icmp_ge (tgt := 165) dX2_holds_16 (by decide) (by first | omega | exact bI_R _ | exact cmp_R _ _ | assumption) (by first | omega | exact bI_R _ | exact cmp_R _ _ | assumption) (fun c16 => ?_) (fun c16 => ?_)
        · exfalso; omega
        · refine Wp.aload_n rfl dX2_holds_19 ?_
          refine Wp.gr (kz := 0) rfl dX2_holds_20 fkX2_9 (by first | rfl | exact kd_b0 _ | exact kd_b1 _ | exact kd_b2 _ | exact kd_b3 _ | exact kd_b4 _ | exact kd_b5 _ | exact kd_b6 _) (by omega) (by first | exact hFx _ 0 _ rfl | assumption | exact hBk.1 | exact hBk.2.1 | exact hBk.2.2.1 | exact hBk.2.2.2.1 | exact hBk.2.2.2.2.1 | exact hBk.2.2.2.2.2) ?_
          refine Wp.iload rfl dX2_holds_23 ?_
          refine Wp.iaload dX2_holds_25 (by first | rfl | exact kd_b0 _ | exact kd_b1 _ | exact kd_b2 _ | exact kd_b3 _ | exact kd_b4 _ | exact kd_b5 _ | exact kd_b6 _) (by omega) (by omega) (by omega) ?_
          refine Wp.iload_n rfl dX2_holds_26 ?_
          refine Wp.icmp_ne (tgt := 45) dX2_holds_27 (by decide) (by first | omega | exact bI_R _ | exact cmp_R _ _ | assumption) (by first | omega | exact bI_R _ | exact cmp_R _ _ | assumption) (fun c27 => ?_) (fun c27 => ?_)
          · refine Wp.iconst dX2_holds_45 ?_
            refine Wp.istore (ls' := [_, _, _, _, _, _, _, _, _, _]) dX2_holds_46 (by decide) rfl ?_
            exact h48 _ _ _ _ (by omega)
          · refine Wp.aload_n rfl dX2_holds_30 ?_
            refine Wp.gr (kz := 1) rfl dX2_holds_31 fkX2_15 (by first | rfl | exact kd_b0 _ | exact kd_b1 _ | exact kd_b2 _ | exact kd_b3 _ | exact kd_b4 _ | exact kd_b5 _ | exact kd_b6 _) (by omega) (by first | exact hFx _ 1 _ rfl | assumption | exact hBk.1 | exact hBk.2.1 | exact hBk.2.2.1 | exact hBk.2.2.2.1 | exact hBk.2.2.2.2.1 | exact hBk.2.2.2.2.2) ?_
            refine Wp.iload rfl dX2_holds_34 ?_
            refine Wp.iaload dX2_holds_36 (by first | rfl | exact kd_b0 _ | exact kd_b1 _ | exact kd_b2 _ | exact kd_b3 _ | exact kd_b4 _ | exact kd_b5 _ | exact kd_b6 _) (by omega) (by omega) (by omega) ?_
            refine Wp.iload_n rfl dX2_holds_37 ?_
            refine Wp.icmp_ne (tgt := 45) dX2_holds_38 (by decide) (by first | omega | exact bI_R _ | exact cmp_R _ _ | assumption) (by first | omega | exact bI_R _ | exact cmp_R _ _ | assumption) (fun c38 => ?_) (fun c38 => ?_)
            · refine Wp.iconst dX2_holds_45 ?_
              refine Wp.istore (ls' := [_, _, _, _, _, _, _, _, _, _]) dX2_holds_46 (by decide) rfl ?_
              exact h48 _ _ _ _ (by omega)
            · refine Wp.iconst dX2_holds_41 ?_
              refine Wp.goto (tgt := 46) dX2_holds_42 (by decide) ?_
              refine Wp.istore (ls' := [_, _, _, _, _, _, _, _, _, _]) dX2_holds_46 (by decide) rfl ?_
              exact h48 _ _ _ _ (by omega)
  refine Wp.iconst dX2_holds_0 ?_
  refine Wp.istore (ls' := [_, _, _, _, _, _, _, _, _, _]) dX2_holds_1 (by decide) rfl ?_
  exact lp (I 7 4).toNat 0 _ _ _ _ _ (by omega) (by omega) rfl
theorem ct_X11_alike {a w b v : Int} (hn : 57 ≤ n) (hFx : Fx R) (ha : inR a) (hw : inR w) (hb : inR b) (hv : inR v) (hK : AkW (I 8) (I 9) (I 10) (I 11) (I 7 4)) (hq : Q (some (vi (aAlike (I 8) (I 9) (I 10) (I 11) (I 7 4) a w b v))) (if okAlike (I 8) (I 9) (I 10) (I 11) (I 7 4) a w b v then up (up (up (up (up I 8 (I 7 4) a) 9 (I 7 4) w) 10 (I 7 4) b) 11 (I 7 4) v) 7 4 (I 7 4 + 1) else I, L, R, n)) : Wp mX11_alike 0 [some (vr (some 0)), some (vi a), some (vi w), some (vi b), some (vi v)] [] (I, L, R, n) (0, 0) Q := by
  have k0 := hK.1
  have k1 := hK.2.1
  unfold aAlike okAlike at hq
  refine Wp.iload_n rfl dX11_alike_0 ?_
  refine Wp.callS (As := [_]) (ls0 := [_]) (bd := (0, 0)) (bd' := (0, 0)) dX11_alike_1 kmX11_isTongue lkX11_94 (by decide) (by decide) (Nat.le_of_ble_eq_true rfl) rfl rfl (Nat.le_of_ble_eq_true rfl) rfl ?_
  refine ct_X11_isTongue (by omega) ?_
  show Wp _ _ _ (_ :: _) _ _ _
  refine Wp.if_eqB (tgt := 29) dX11_alike_4 (by decide) (fun c4 => ?_) (fun c4 => ?_)
  · refine Wp.sipush rfl dX11_alike_29 ?_
    refine Wp.ireturn dX11_alike_32 rfl ?_
    first | (exfalso; omega) | (rw [if_neg (by omega), if_neg (fun q => absurd q.1 (by omega))] at hq; exact hq)
  · refine Wp.iload_n rfl dX11_alike_7 ?_
    refine Wp.callS (As := [_]) (ls0 := [_]) (bd := (0, 0)) (bd' := (0, 0)) dX11_alike_8 kmX11_isWord lkX11_162 (by decide) (by decide) (Nat.le_of_ble_eq_true rfl) rfl rfl (Nat.le_of_ble_eq_true rfl) rfl ?_
    refine ct_X11_isWord (by omega) ?_
    show Wp _ _ _ (_ :: _) _ _ _
    refine Wp.if_eqB (tgt := 29) dX11_alike_11 (by decide) (fun c11 => ?_) (fun c11 => ?_)
    · refine Wp.sipush rfl dX11_alike_29 ?_
      refine Wp.ireturn dX11_alike_32 rfl ?_
      first | (exfalso; omega) | (rw [if_neg (by omega), if_neg (fun q => absurd q.1 (by omega))] at hq; exact hq)
    · refine Wp.iload_n rfl dX11_alike_14 ?_
      refine Wp.callS (As := [_]) (ls0 := [_]) (bd := (0, 0)) (bd' := (0, 0)) dX11_alike_15 kmX11_isTongue lkX11_94 (by decide) (by decide) (Nat.le_of_ble_eq_true rfl) rfl rfl (Nat.le_of_ble_eq_true rfl) rfl ?_
      refine ct_X11_isTongue (by omega) ?_
      show Wp _ _ _ (_ :: _) _ _ _
      refine Wp.if_eqB (tgt := 29) dX11_alike_18 (by decide) (fun c18 => ?_) (fun c18 => ?_)
      · refine Wp.sipush rfl dX11_alike_29 ?_
        refine Wp.ireturn dX11_alike_32 rfl ?_
        first | (exfalso; omega) | (rw [if_neg (by omega), if_neg (fun q => absurd q.1 (by omega))] at hq; exact hq)
      · refine Wp.iload rfl dX11_alike_21 ?_
        refine Wp.callS (As := [_]) (ls0 := [_]) (bd := (0, 0)) (bd' := (0, 0)) dX11_alike_23 kmX11_isWord lkX11_162 (by decide) (by decide) (Nat.le_of_ble_eq_true rfl) rfl rfl (Nat.le_of_ble_eq_true rfl) rfl ?_
        refine ct_X11_isWord (by omega) ?_
        show Wp _ _ _ (_ :: _) _ _ _
        refine Wp.if_neB (tgt := 33) dX11_alike_26 (by decide) (fun c26 => ?_) (fun c26 => ?_)
        · refine Wp.iload_n rfl dX11_alike_33 ?_
          refine Wp.iload_n rfl dX11_alike_34 ?_
          refine Wp.icmp_ne (tgt := 42) dX11_alike_35 (by decide) (by first | omega | exact bI_R _ | exact cmp_R _ _ | assumption) (by first | omega | exact bI_R _ | exact cmp_R _ _ | assumption) (fun c35 => ?_) (fun c35 => ?_)
          · refine Wp.aload_n rfl dX11_alike_42 ?_
            refine Wp.gr (kz := 4) rfl dX11_alike_43 fkX11_40 (by first | rfl | exact kd_b0 _ | exact kd_b1 _ | exact kd_b2 _ | exact kd_b3 _ | exact kd_b4 _ | exact kd_b5 _ | exact kd_b6 _) (by omega) (by first | exact hFx _ 4 _ rfl | assumption | exact hBk.1 | exact hBk.2.1 | exact hBk.2.2.1 | exact hBk.2.2.2.1 | exact hBk.2.2.2.2.1 | exact hBk.2.2.2.2.2) ?_
            refine Wp.iload_n rfl dX11_alike_46 ?_
            refine Wp.iload_n rfl dX11_alike_47 ?_
            refine Wp.iload_n rfl dX11_alike_48 ?_
            refine Wp.iload rfl dX11_alike_49 ?_
            refine Wp.callV (As := [_, _, _, _]) (ls0 := [_, _, _, _, _, _, _, _, _, _]) (bd := (0, 0)) (bd' := (0, 0)) dX11_alike_51 kmX2_holds lkX11_257 (by decide) (by decide) (Nat.le_of_ble_eq_true rfl) (by first | rfl | exact kd_b0 _ | exact kd_b1 _ | exact kd_b2 _ | exact kd_b3 _ | exact kd_b4 _ | exact kd_b5 _ | exact kd_b6 _) (by omega) rfl rfl (Nat.le_of_ble_eq_true rfl) rfl ?_
            refine ct_X2_holds hn hFx hK (by omega) (by omega) (by omega) (by omega) ?_
            show Wp _ _ _ (_ :: _) _ _ _
            refine Wp.if_eqB (tgt := 61) dX11_alike_54 (by decide) (fun c54 => ?_) (fun c54 => ?_)
            · refine Wp.aload_n rfl dX11_alike_61 ?_
              refine Wp.gr (kz := 4) rfl dX11_alike_62 fkX11_40 (by first | rfl | exact kd_b0 _ | exact kd_b1 _ | exact kd_b2 _ | exact kd_b3 _ | exact kd_b4 _ | exact kd_b5 _ | exact kd_b6 _) (by omega) (by first | exact hFx _ 4 _ rfl | assumption | exact hBk.1 | exact hBk.2.1 | exact hBk.2.2.1 | exact hBk.2.2.2.1 | exact hBk.2.2.2.2.1 | exact hBk.2.2.2.2.2) ?_
              refine Wp.gi (kz := 4) rfl dX11_alike_65 fkX11_159 (by first | rfl | exact kd_b0 _ | exact kd_b1 _ | exact kd_b2 _ | exact kd_b3 _ | exact kd_b4 _ | exact kd_b5 _ | exact kd_b6 _) (by omega) ?_
              refine Wp.bipush rfl dX11_alike_68 ?_
              refine Wp.icmp_lt (tgt := 77) dX11_alike_70 (by decide) (by first | omega | exact bI_R _ | exact cmp_R _ _ | assumption) (by first | omega | exact bI_R _ | exact cmp_R _ _ | assumption) (fun c70 => ?_) (fun c70 => ?_)
              · refine Wp.aload_n rfl dX11_alike_77 ?_
                refine Wp.gr (kz := 4) rfl dX11_alike_78 fkX11_40 (by first | rfl | exact kd_b0 _ | exact kd_b1 _ | exact kd_b2 _ | exact kd_b3 _ | exact kd_b4 _ | exact kd_b5 _ | exact kd_b6 _) (by omega) (by first | exact hFx _ 4 _ rfl | assumption | exact hBk.1 | exact hBk.2.1 | exact hBk.2.2.1 | exact hBk.2.2.2.1 | exact hBk.2.2.2.2.1 | exact hBk.2.2.2.2.2) ?_
                refine Wp.iload_n rfl dX11_alike_81 ?_
                refine Wp.iload_n rfl dX11_alike_82 ?_
                refine Wp.iload_n rfl dX11_alike_83 ?_
                refine Wp.iload rfl dX11_alike_84 ?_
                refine Wp.callV (As := [_, _, _, _]) (ls0 := [_, _, _, _, _]) (bd := (0, 0)) (bd' := (0, 0)) dX11_alike_86 kmX2_add lkX11_261 (by decide) (by decide) (Nat.le_of_ble_eq_true rfl) (by first | rfl | exact kd_b0 _ | exact kd_b1 _ | exact kd_b2 _ | exact kd_b3 _ | exact kd_b4 _ | exact kd_b5 _ | exact kd_b6 _) (by omega) rfl rfl (Nat.le_of_ble_eq_true rfl) rfl ?_
                refine ct_X2_add hn hFx (by omega) (by omega) ?_
                show Wp _ _ _ (_ :: _) _ _ _
                refine Wp.ireturn dX11_alike_89 rfl ?_
                first | (exfalso; omega) | (rw [if_pos (by omega), if_neg (by omega), if_neg c54, if_neg (by omega), if_pos ⟨by omega, ⟨by omega, c54⟩, by omega⟩] at hq; exact hq)
              · refine Wp.sipush rfl dX11_alike_73 ?_
                refine Wp.ireturn dX11_alike_76 rfl ?_
                first | (exfalso; omega) | (rw [if_pos (by omega), if_neg (by omega), if_neg c54, if_pos (by omega), if_neg (fun q => absurd q.2.2 (by omega))] at hq; exact hq)
            · refine Wp.sipush rfl dX11_alike_57 ?_
              refine Wp.ireturn dX11_alike_60 rfl ?_
              first | (exfalso; omega) | (rw [if_pos (by omega), if_neg (by omega), if_pos c54, if_neg (fun q => q.2.1.2 c54)] at hq; exact hq)
          · refine Wp.sipush rfl dX11_alike_38 ?_
            refine Wp.ireturn dX11_alike_41 rfl ?_
            first | (exfalso; omega) | (rw [if_pos (by omega), if_pos (by omega), if_neg (fun q => absurd q.2.1.1 (by omega))] at hq; exact hq)
        · refine Wp.sipush rfl dX11_alike_29 ?_
          refine Wp.ireturn dX11_alike_32 rfl ?_
          first | (exfalso; omega) | (rw [if_neg (by omega), if_neg (fun q => absurd q.1 (by omega))] at hq; exact hq)
theorem ct_X11_fault (hn : 57 ≤ n) (hq : Q (some (vi (I 0 10))) (I, L, R, n)) : Wp mX11_fault 0 [some (vr (some 0))] [] (I, L, R, n) (0, 0) Q := by
  refine Wp.aload_n rfl dX11_fault_0 ?_
  refine Wp.gi (kz := 10) rfl dX11_fault_1 fkX11_79 (by first | rfl | exact kd_b0 _ | exact kd_b1 _ | exact kd_b2 _ | exact kd_b3 _ | exact kd_b4 _ | exact kd_b5 _ | exact kd_b6 _) (by omega) ?_
  refine Wp.ireturn dX11_fault_4 rfl ?_
  first | exact hq | (exfalso; omega) | exact qI hq (by omega)
theorem ct_X11_now {d : Int} (hn : 57 ≤ n) (hFx : Fx R) (hd : inR d) (hq : Q (some (vi (aNow (I 4 3) d))) (if 0 ≤ d ∧ d ≤ 999 then up I 4 3 d else I, L, R, n)) : Wp mX11_now 0 [some (vr (some 0)), some (vi d), none] [] (I, L, R, n) (0, 0) Q := by
  refine Wp.iload_n rfl dX11_now_0 ?_
  refine Wp.callS (As := [_]) (ls0 := [_]) (bd := (0, 0)) (bd' := (0, 0)) dX11_now_1 kmX11_isDay lkX11_97 (by decide) (by decide) (Nat.le_of_ble_eq_true rfl) rfl rfl (Nat.le_of_ble_eq_true rfl) rfl ?_
  refine ct_X11_isDay (by omega) ?_
  show Wp _ _ _ (_ :: _) _ _ _
  refine Wp.if_neB (tgt := 11) dX11_now_4 (by decide) (fun c4 => ?_) (fun c4 => ?_)
  · refine Wp.aload_n rfl dX11_now_11 ?_
    refine Wp.gr (kz := 2) rfl dX11_now_12 fkX11_26 (by first | rfl | exact kd_b0 _ | exact kd_b1 _ | exact kd_b2 _ | exact kd_b3 _ | exact kd_b4 _ | exact kd_b5 _ | exact kd_b6 _) (by omega) (by first | exact hFx _ 2 _ rfl | assumption | exact hBk.1 | exact hBk.2.1 | exact hBk.2.2.1 | exact hBk.2.2.2.1 | exact hBk.2.2.2.2.1 | exact hBk.2.2.2.2.2) ?_
    refine Wp.gi (kz := 3) rfl dX11_now_15 fkX11_152 (by first | rfl | exact kd_b0 _ | exact kd_b1 _ | exact kd_b2 _ | exact kd_b3 _ | exact kd_b4 _ | exact kd_b5 _ | exact kd_b6 _) (by omega) ?_
    refine Wp.istore_n (ls' := [_, _, _]) dX11_now_18 (by decide) rfl ?_
    refine Wp.aload_n rfl dX11_now_19 ?_
    refine Wp.gr (kz := 2) rfl dX11_now_20 fkX11_26 (by first | rfl | exact kd_b0 _ | exact kd_b1 _ | exact kd_b2 _ | exact kd_b3 _ | exact kd_b4 _ | exact kd_b5 _ | exact kd_b6 _) (by omega) (by first | exact hFx _ 2 _ rfl | assumption | exact hBk.1 | exact hBk.2.1 | exact hBk.2.2.1 | exact hBk.2.2.2.1 | exact hBk.2.2.2.2.1 | exact hBk.2.2.2.2.2) ?_
    refine Wp.iload_n rfl dX11_now_23 ?_
    refine Wp.pi (kz := 3) rfl dX11_now_24 fkX11_152 (Or.inl rfl) (Or.inl rfl) (by first | rfl | exact kd_b0 _ | exact kd_b1 _ | exact kd_b2 _ | exact kd_b3 _ | exact kd_b4 _ | exact kd_b5 _ | exact kd_b6 _) (by omega) ?_
    refine Wp.iload_n rfl dX11_now_27 ?_
    refine Wp.ireturn dX11_now_28 rfl ?_
    first | (exfalso; omega) | (exact qIM hq (by unfold aNow; split <;> first | (exfalso; omega) | rfl) (by split <;> first | (exfalso; omega) | rfl))
  · refine Wp.sipush rfl dX11_now_7 ?_
    refine Wp.ireturn dX11_now_10 rfl ?_
    first | (exfalso; omega) | (exact qIM hq (by unfold aNow; split <;> first | (exfalso; omega) | rfl) (by split <;> first | (exfalso; omega) | rfl))
theorem ct_X11_taste {d : Int} (hn : 57 ≤ n) (hFx : Fx R) (hd : d = 0 ∨ d = 1) (hA : I 4 4 = 0 ∨ I 4 4 = 1) (hq : Q (some (vi (I 4 4))) (up I 4 4 d, L, R, n)) : Wp mX11_taste 0 [some (vr (some 0)), some (vi d), none] [] (I, L, R, n) (0, 0) Q := by
  refine Wp.aload_n rfl dX11_taste_0 ?_
  refine Wp.gr (kz := 2) rfl dX11_taste_1 fkX11_26 (by first | rfl | exact kd_b0 _ | exact kd_b1 _ | exact kd_b2 _ | exact kd_b3 _ | exact kd_b4 _ | exact kd_b5 _ | exact kd_b6 _) (by omega) (by first | exact hFx _ 2 _ rfl | assumption | exact hBk.1 | exact hBk.2.1 | exact hBk.2.2.1 | exact hBk.2.2.2.1 | exact hBk.2.2.2.2.1 | exact hBk.2.2.2.2.2) ?_
  refine Wp.gi (kz := 4) rfl dX11_taste_4 fkX11_155 (by first | rfl | exact kd_b0 _ | exact kd_b1 _ | exact kd_b2 _ | exact kd_b3 _ | exact kd_b4 _ | exact kd_b5 _ | exact kd_b6 _) (by omega) ?_
  refine Wp.if_eq (tgt := 14) dX11_taste_7 (by decide) (by first | omega | exact bI_R _ | exact cmp_R _ _ | assumption) (fun c7 => ?_) (fun c7 => ?_)
  · refine Wp.iconst dX11_taste_14 ?_
    refine Wp.istore_n (ls' := [_, _, _]) dX11_taste_15 (by decide) rfl ?_
    refine Wp.aload_n rfl dX11_taste_16 ?_
    refine Wp.gr (kz := 2) rfl dX11_taste_17 fkX11_26 (by first | rfl | exact kd_b0 _ | exact kd_b1 _ | exact kd_b2 _ | exact kd_b3 _ | exact kd_b4 _ | exact kd_b5 _ | exact kd_b6 _) (by omega) (by first | exact hFx _ 2 _ rfl | assumption | exact hBk.1 | exact hBk.2.1 | exact hBk.2.2.1 | exact hBk.2.2.2.1 | exact hBk.2.2.2.2.1 | exact hBk.2.2.2.2.2) ?_
    refine Wp.iload_n rfl dX11_taste_20 ?_
    refine Wp.pi (kz := 4) rfl dX11_taste_21 fkX11_155 (Or.inl rfl) (Or.inr (by omega)) (by first | rfl | exact kd_b0 _ | exact kd_b1 _ | exact kd_b2 _ | exact kd_b3 _ | exact kd_b4 _ | exact kd_b5 _ | exact kd_b6 _) (by omega) ?_
    refine Wp.iload_n rfl dX11_taste_24 ?_
    refine Wp.ireturn dX11_taste_25 rfl ?_
    first | (exfalso; omega) | (exact qIM hq (by omega) rfl)
  · refine Wp.iconst dX11_taste_10 ?_
    refine Wp.goto (tgt := 15) dX11_taste_11 (by decide) ?_
    refine Wp.istore_n (ls' := [_, _, _]) dX11_taste_15 (by decide) rfl ?_
    refine Wp.aload_n rfl dX11_taste_16 ?_
    refine Wp.gr (kz := 2) rfl dX11_taste_17 fkX11_26 (by first | rfl | exact kd_b0 _ | exact kd_b1 _ | exact kd_b2 _ | exact kd_b3 _ | exact kd_b4 _ | exact kd_b5 _ | exact kd_b6 _) (by omega) (by first | exact hFx _ 2 _ rfl | assumption | exact hBk.1 | exact hBk.2.1 | exact hBk.2.2.1 | exact hBk.2.2.2.1 | exact hBk.2.2.2.2.1 | exact hBk.2.2.2.2.2) ?_
    refine Wp.iload_n rfl dX11_taste_20 ?_
    refine Wp.pi (kz := 4) rfl dX11_taste_21 fkX11_155 (Or.inl rfl) (Or.inr (by omega)) (by first | rfl | exact kd_b0 _ | exact kd_b1 _ | exact kd_b2 _ | exact kd_b3 _ | exact kd_b4 _ | exact kd_b5 _ | exact kd_b6 _) (by omega) ?_
    refine Wp.iload_n rfl dX11_taste_24 ?_
    refine Wp.ireturn dX11_taste_25 rfl ?_
    first | (exfalso; omega) | (exact qIM hq (by omega) rfl)
theorem ct_X11_count {what : Int} (hn : 57 ≤ n) (hFx : Fx R) (hw : inR what) (hq : Q (some (vi (aCount (I 4 2) (I 1 1) (I 7 4) (I 12 4) (I 17 2) what))) (I, L, R, n)) : Wp mX11_count 0 [some (vr (some 0)), some (vi what)] [] (I, L, R, n) (0, 0) Q := by
  refine Wp.iload_n rfl dX11_count_0 ?_
  rcases (show what < 0 ∨ 4 < what ∨ what = 0 ∨ what = 1 ∨ what = 2 ∨ what = 3 ∨ what = 4 by omega) with c1 | c1 | c1 | c1 | c1 | c1 | c1
  · refine Wp.tableOut (tgt := 76) dX11_count_1 (by first | omega | exact bI_R _ | exact cmp_R _ _ | assumption) (by omega) (by decide) ?_
    refine Wp.sipush rfl dX11_count_76 ?_
    refine Wp.ireturn dX11_count_79 rfl ?_
    first | (exfalso; omega) | (exact qI hq (by unfold aCount; (repeat' split) <;> first | (exfalso; omega) | rfl))
  · refine Wp.tableOut (tgt := 76) dX11_count_1 (by first | omega | exact bI_R _ | exact cmp_R _ _ | assumption) (by omega) (by decide) ?_
    refine Wp.sipush rfl dX11_count_76 ?_
    refine Wp.ireturn dX11_count_79 rfl ?_
    first | (exfalso; omega) | (exact qI hq (by unfold aCount; (repeat' split) <;> first | (exfalso; omega) | rfl))
  · subst c1
    refine Wp.tableIn (tgt := 36) dX11_count_1 (by omega) (by decide) (by decide) rfl (by decide) ?_
    refine Wp.aload_n rfl dX11_count_36 ?_
    refine Wp.gr (kz := 2) rfl dX11_count_37 fkX11_26 (by first | rfl | exact kd_b0 _ | exact kd_b1 _ | exact kd_b2 _ | exact kd_b3 _ | exact kd_b4 _ | exact kd_b5 _ | exact kd_b6 _) (by omega) (by first | exact hFx _ 2 _ rfl | assumption | exact hBk.1 | exact hBk.2.1 | exact hBk.2.2.1 | exact hBk.2.2.2.1 | exact hBk.2.2.2.2.1 | exact hBk.2.2.2.2.2) ?_
    refine Wp.gi (kz := 2) rfl dX11_count_40 fkX11_100 (by first | rfl | exact kd_b0 _ | exact kd_b1 _ | exact kd_b2 _ | exact kd_b3 _ | exact kd_b4 _ | exact kd_b5 _ | exact kd_b6 _) (by omega) ?_
    refine Wp.ireturn dX11_count_43 rfl ?_
    first | (exfalso; omega) | (exact qI hq (by unfold aCount; (repeat' split) <;> first | (exfalso; omega) | rfl))
  · subst c1
    refine Wp.tableIn (tgt := 44) dX11_count_1 (by omega) (by decide) (by decide) rfl (by decide) ?_
    refine Wp.aload_n rfl dX11_count_44 ?_
    refine Wp.gr (kz := 0) rfl dX11_count_45 fkX11_12 (by first | rfl | exact kd_b0 _ | exact kd_b1 _ | exact kd_b2 _ | exact kd_b3 _ | exact kd_b4 _ | exact kd_b5 _ | exact kd_b6 _) (by omega) (by first | exact hFx _ 0 _ rfl | assumption | exact hBk.1 | exact hBk.2.1 | exact hBk.2.2.1 | exact hBk.2.2.2.1 | exact hBk.2.2.2.2.1 | exact hBk.2.2.2.2.2) ?_
    refine Wp.gi (kz := 1) rfl dX11_count_48 fkX11_91 (by first | rfl | exact kd_b0 _ | exact kd_b1 _ | exact kd_b2 _ | exact kd_b3 _ | exact kd_b4 _ | exact kd_b5 _ | exact kd_b6 _) (by omega) ?_
    refine Wp.ireturn dX11_count_51 rfl ?_
    first | (exfalso; omega) | (exact qI hq (by unfold aCount; (repeat' split) <;> first | (exfalso; omega) | rfl))
  · subst c1
    refine Wp.tableIn (tgt := 52) dX11_count_1 (by omega) (by decide) (by decide) rfl (by decide) ?_
    refine Wp.aload_n rfl dX11_count_52 ?_
    refine Wp.gr (kz := 4) rfl dX11_count_53 fkX11_40 (by first | rfl | exact kd_b0 _ | exact kd_b1 _ | exact kd_b2 _ | exact kd_b3 _ | exact kd_b4 _ | exact kd_b5 _ | exact kd_b6 _) (by omega) (by first | exact hFx _ 4 _ rfl | assumption | exact hBk.1 | exact hBk.2.1 | exact hBk.2.2.1 | exact hBk.2.2.2.1 | exact hBk.2.2.2.2.1 | exact hBk.2.2.2.2.2) ?_
    refine Wp.gi (kz := 4) rfl dX11_count_56 fkX11_159 (by first | rfl | exact kd_b0 _ | exact kd_b1 _ | exact kd_b2 _ | exact kd_b3 _ | exact kd_b4 _ | exact kd_b5 _ | exact kd_b6 _) (by omega) ?_
    refine Wp.ireturn dX11_count_59 rfl ?_
    first | (exfalso; omega) | (exact qI hq (by unfold aCount; (repeat' split) <;> first | (exfalso; omega) | rfl))
  · subst c1
    refine Wp.tableIn (tgt := 60) dX11_count_1 (by omega) (by decide) (by decide) rfl (by decide) ?_
    refine Wp.aload_n rfl dX11_count_60 ?_
    refine Wp.gr (kz := 5) rfl dX11_count_61 fkX11_47 (by first | rfl | exact kd_b0 _ | exact kd_b1 _ | exact kd_b2 _ | exact kd_b3 _ | exact kd_b4 _ | exact kd_b5 _ | exact kd_b6 _) (by omega) (by first | exact hFx _ 5 _ rfl | assumption | exact hBk.1 | exact hBk.2.1 | exact hBk.2.2.1 | exact hBk.2.2.2.1 | exact hBk.2.2.2.2.1 | exact hBk.2.2.2.2.2) ?_
    refine Wp.gi (kz := 4) rfl dX11_count_64 fkX11_160 (by first | rfl | exact kd_b0 _ | exact kd_b1 _ | exact kd_b2 _ | exact kd_b3 _ | exact kd_b4 _ | exact kd_b5 _ | exact kd_b6 _) (by omega) ?_
    refine Wp.ireturn dX11_count_67 rfl ?_
    first | (exfalso; omega) | (exact qI hq (by unfold aCount; (repeat' split) <;> first | (exfalso; omega) | rfl))
  · subst c1
    refine Wp.tableIn (tgt := 68) dX11_count_1 (by omega) (by decide) (by decide) rfl (by decide) ?_
    refine Wp.aload_n rfl dX11_count_68 ?_
    refine Wp.gr (kz := 6) rfl dX11_count_69 fkX11_54 (by first | rfl | exact kd_b0 _ | exact kd_b1 _ | exact kd_b2 _ | exact kd_b3 _ | exact kd_b4 _ | exact kd_b5 _ | exact kd_b6 _) (by omega) (by first | exact hFx _ 6 _ rfl | assumption | exact hBk.1 | exact hBk.2.1 | exact hBk.2.2.1 | exact hBk.2.2.2.1 | exact hBk.2.2.2.2.1 | exact hBk.2.2.2.2.2) ?_
    refine Wp.gi (kz := 2) rfl dX11_count_72 fkX11_161 (by first | rfl | exact kd_b0 _ | exact kd_b1 _ | exact kd_b2 _ | exact kd_b3 _ | exact kd_b4 _ | exact kd_b5 _ | exact kd_b6 _) (by omega) ?_
    refine Wp.ireturn dX11_count_75 rfl ?_
    first | (exfalso; omega) | (exact qI hq (by unfold aCount; (repeat' split) <;> first | (exfalso; omega) | rfl))
theorem ct_X11_clear (hn : 57 ≤ n) (hFx : Fx R) (hq : Q (some (vi (I 17 2))) (up I 17 2 0, L, R, n)) : Wp mX11_clear 0 [some (vr (some 0)), none] [] (I, L, R, n) (0, 0) Q := by
  refine Wp.aload_n rfl dX11_clear_0 ?_
  refine Wp.gr (kz := 6) rfl dX11_clear_1 fkX11_54 (by first | rfl | exact kd_b0 _ | exact kd_b1 _ | exact kd_b2 _ | exact kd_b3 _ | exact kd_b4 _ | exact kd_b5 _ | exact kd_b6 _) (by omega) (by first | exact hFx _ 6 _ rfl | assumption | exact hBk.1 | exact hBk.2.1 | exact hBk.2.2.1 | exact hBk.2.2.2.1 | exact hBk.2.2.2.2.1 | exact hBk.2.2.2.2.2) ?_
  refine Wp.gi (kz := 2) rfl dX11_clear_4 fkX11_161 (by first | rfl | exact kd_b0 _ | exact kd_b1 _ | exact kd_b2 _ | exact kd_b3 _ | exact kd_b4 _ | exact kd_b5 _ | exact kd_b6 _) (by omega) ?_
  refine Wp.istore_n (ls' := [_, _]) dX11_clear_7 (by decide) rfl ?_
  refine Wp.aload_n rfl dX11_clear_8 ?_
  refine Wp.gr (kz := 6) rfl dX11_clear_9 fkX11_54 (by first | rfl | exact kd_b0 _ | exact kd_b1 _ | exact kd_b2 _ | exact kd_b3 _ | exact kd_b4 _ | exact kd_b5 _ | exact kd_b6 _) (by omega) (by first | exact hFx _ 6 _ rfl | assumption | exact hBk.1 | exact hBk.2.1 | exact hBk.2.2.1 | exact hBk.2.2.2.1 | exact hBk.2.2.2.2.1 | exact hBk.2.2.2.2.2) ?_
  refine Wp.iconst dX11_clear_12 ?_
  refine Wp.pi (kz := 2) rfl dX11_clear_13 fkX11_161 (Or.inl rfl) (Or.inl rfl) (by first | rfl | exact kd_b0 _ | exact kd_b1 _ | exact kd_b2 _ | exact kd_b3 _ | exact kd_b4 _ | exact kd_b5 _ | exact kd_b6 _) (by omega) ?_
  refine Wp.iload_n rfl dX11_clear_16 ?_
  refine Wp.ireturn dX11_clear_17 rfl ?_
  first | exact hq | (exfalso; omega) | exact qI hq (by omega)
theorem ct_X11_pair {a x y s : Int} (hn : 57 ≤ n) (hFx : Fx R) (ha : inR a) (hx : inR x) (hy : inR y) (hs : inR s) (h0 : 0 ≤ I 12 4) (h1 : I 12 4 ≤ 40) (hq : Q (some (vi (aPair (I 12 4) a x y s))) (if okPair (I 12 4) a x y s then up (up (up (up (up I 13 (I 12 4) a) 14 (I 12 4) x) 15 (I 12 4) y) 16 (I 12 4) s) 12 4 (I 12 4 + 1) else I, L, R, n)) : Wp mX11_pair 0 [some (vr (some 0)), some (vi a), some (vi x), some (vi y), some (vi s)] [] (I, L, R, n) (0, 0) Q := by
  refine Wp.iload_n rfl dX11_pair_0 ?_
  refine Wp.callS (As := [_]) (ls0 := [_]) (bd := (0, 0)) (bd' := (0, 0)) dX11_pair_1 kmX11_isTongue lkX11_94 (by decide) (by decide) (Nat.le_of_ble_eq_true rfl) rfl rfl (Nat.le_of_ble_eq_true rfl) rfl ?_
  refine ct_X11_isTongue (by omega) ?_
  show Wp _ _ _ (_ :: _) _ _ _
  refine Wp.if_eqB (tgt := 21) dX11_pair_4 (by decide) (fun c4 => ?_) (fun c4 => ?_)
  · refine Wp.sipush rfl dX11_pair_21 ?_
    refine Wp.ireturn dX11_pair_24 rfl ?_
    first | (exfalso; omega) | (exact qIM hq (by unfold aPair; (repeat' split) <;> first | (exfalso; omega) | rfl | omega) (by split <;> first | (exfalso; omega) | rfl))
  · refine Wp.iload_n rfl dX11_pair_7 ?_
    refine Wp.callS (As := [_]) (ls0 := [_]) (bd := (0, 0)) (bd' := (0, 0)) dX11_pair_8 kmX11_isWord lkX11_162 (by decide) (by decide) (Nat.le_of_ble_eq_true rfl) rfl rfl (Nat.le_of_ble_eq_true rfl) rfl ?_
    refine ct_X11_isWord (by omega) ?_
    show Wp _ _ _ (_ :: _) _ _ _
    refine Wp.if_eqB (tgt := 21) dX11_pair_11 (by decide) (fun c11 => ?_) (fun c11 => ?_)
    · refine Wp.sipush rfl dX11_pair_21 ?_
      refine Wp.ireturn dX11_pair_24 rfl ?_
      first | (exfalso; omega) | (exact qIM hq (by unfold aPair; (repeat' split) <;> first | (exfalso; omega) | rfl | omega) (by split <;> first | (exfalso; omega) | rfl))
    · refine Wp.iload_n rfl dX11_pair_14 ?_
      refine Wp.callS (As := [_]) (ls0 := [_]) (bd := (0, 0)) (bd' := (0, 0)) dX11_pair_15 kmX11_isWord lkX11_162 (by decide) (by decide) (Nat.le_of_ble_eq_true rfl) rfl rfl (Nat.le_of_ble_eq_true rfl) rfl ?_
      refine ct_X11_isWord (by omega) ?_
      show Wp _ _ _ (_ :: _) _ _ _
      refine Wp.if_neB (tgt := 25) dX11_pair_18 (by decide) (fun c18 => ?_) (fun c18 => ?_)
      · refine Wp.iload rfl dX11_pair_25 ?_
        refine Wp.iconst dX11_pair_27 ?_
        refine Wp.icmp_lt (tgt := 38) dX11_pair_28 (by decide) (by first | omega | exact bI_R _ | exact cmp_R _ _ | assumption) (by first | omega | exact bI_R _ | exact cmp_R _ _ | assumption) (fun c28 => ?_) (fun c28 => ?_)
        · refine Wp.sipush rfl dX11_pair_38 ?_
          refine Wp.ireturn dX11_pair_41 rfl ?_
          first | (exfalso; omega) | (exact qIM hq (by unfold aPair; (repeat' split) <;> first | (exfalso; omega) | rfl | omega) (by split <;> first | (exfalso; omega) | rfl))
        · refine Wp.iload rfl dX11_pair_31 ?_
          refine Wp.bipush rfl dX11_pair_33 ?_
          refine Wp.icmp_le (tgt := 42) dX11_pair_35 (by decide) (by first | omega | exact bI_R _ | exact cmp_R _ _ | assumption) (by first | omega | exact bI_R _ | exact cmp_R _ _ | assumption) (fun c35 => ?_) (fun c35 => ?_)
          · refine Wp.aload_n rfl dX11_pair_42 ?_
            refine Wp.gr (kz := 5) rfl dX11_pair_43 fkX11_47 (by first | rfl | exact kd_b0 _ | exact kd_b1 _ | exact kd_b2 _ | exact kd_b3 _ | exact kd_b4 _ | exact kd_b5 _ | exact kd_b6 _) (by omega) (by first | exact hFx _ 5 _ rfl | assumption | exact hBk.1 | exact hBk.2.1 | exact hBk.2.2.1 | exact hBk.2.2.2.1 | exact hBk.2.2.2.2.1 | exact hBk.2.2.2.2.2) ?_
            refine Wp.gi (kz := 4) rfl dX11_pair_46 fkX11_160 (by first | rfl | exact kd_b0 _ | exact kd_b1 _ | exact kd_b2 _ | exact kd_b3 _ | exact kd_b4 _ | exact kd_b5 _ | exact kd_b6 _) (by omega) ?_
            refine Wp.bipush rfl dX11_pair_49 ?_
            refine Wp.icmp_lt (tgt := 58) dX11_pair_51 (by decide) (by first | omega | exact bI_R _ | exact cmp_R _ _ | assumption) (by first | omega | exact bI_R _ | exact cmp_R _ _ | assumption) (fun c51 => ?_) (fun c51 => ?_)
            · refine Wp.aload_n rfl dX11_pair_58 ?_
              refine Wp.gr (kz := 5) rfl dX11_pair_59 fkX11_47 (by first | rfl | exact kd_b0 _ | exact kd_b1 _ | exact kd_b2 _ | exact kd_b3 _ | exact kd_b4 _ | exact kd_b5 _ | exact kd_b6 _) (by omega) (by first | exact hFx _ 5 _ rfl | assumption | exact hBk.1 | exact hBk.2.1 | exact hBk.2.2.1 | exact hBk.2.2.2.1 | exact hBk.2.2.2.2.1 | exact hBk.2.2.2.2.2) ?_
              refine Wp.iload_n rfl dX11_pair_62 ?_
              refine Wp.iload_n rfl dX11_pair_63 ?_
              refine Wp.iload_n rfl dX11_pair_64 ?_
              refine Wp.iload rfl dX11_pair_65 ?_
              refine Wp.callV (As := [_, _, _, _]) (ls0 := [_, _, _, _, _]) (bd := (0, 0)) (bd' := (0, 0)) dX11_pair_67 kmX4_add lkX11_269 (by decide) (by decide) (Nat.le_of_ble_eq_true rfl) (by first | rfl | exact kd_b0 _ | exact kd_b1 _ | exact kd_b2 _ | exact kd_b3 _ | exact kd_b4 _ | exact kd_b5 _ | exact kd_b6 _) (by omega) rfl rfl (Nat.le_of_ble_eq_true rfl) rfl ?_
              refine ct_X4_add hn hFx (by omega) (by omega) ?_
              show Wp _ _ _ (_ :: _) _ _ _
              refine Wp.ireturn dX11_pair_70 rfl ?_
              first | (exfalso; omega) | (exact qIM hq (by unfold aPair; (repeat' split) <;> first | (exfalso; omega) | rfl | omega) (by split <;> first | (exfalso; omega) | rfl))
            · refine Wp.sipush rfl dX11_pair_54 ?_
              refine Wp.ireturn dX11_pair_57 rfl ?_
              first | (exfalso; omega) | (exact qIM hq (by unfold aPair; (repeat' split) <;> first | (exfalso; omega) | rfl | omega) (by split <;> first | (exfalso; omega) | rfl))
          · refine Wp.sipush rfl dX11_pair_38 ?_
            refine Wp.ireturn dX11_pair_41 rfl ?_
            first | (exfalso; omega) | (exact qIM hq (by unfold aPair; (repeat' split) <;> first | (exfalso; omega) | rfl | omega) (by split <;> first | (exfalso; omega) | rfl))
      · refine Wp.sipush rfl dX11_pair_21 ?_
        refine Wp.ireturn dX11_pair_24 rfl ?_
        first | (exfalso; omega) | (exact qIM hq (by unfold aPair; (repeat' split) <;> first | (exfalso; omega) | rfl | omega) (by split <;> first | (exfalso; omega) | rfl))
theorem ct_X11_say {a w : Int} (hn : 57 ≤ n) (hFx : Fx R) (ha : inR a) (hw : inR w) (h0 : 0 ≤ I 17 2) (h1 : I 17 2 ≤ 10) (h2 : inR (I 17 1)) (hq : Q (some (vi (aSay (I 17 2) (I 17 1) a w))) (if okSay (I 17 2) (I 17 1) a w then up (up (up I 17 1 a) 18 (I 17 2) w) 17 2 (I 17 2 + 1) else I, L, R, n)) : Wp mX11_say 0 [some (vr (some 0)), some (vi a), some (vi w)] [] (I, L, R, n) (0, 0) Q := by
  refine Wp.iload_n rfl dX11_say_0 ?_
  refine Wp.callS (As := [_]) (ls0 := [_]) (bd := (0, 0)) (bd' := (0, 0)) dX11_say_1 kmX11_isTongue lkX11_94 (by decide) (by decide) (Nat.le_of_ble_eq_true rfl) rfl rfl (Nat.le_of_ble_eq_true rfl) rfl ?_
  refine ct_X11_isTongue (by omega) ?_
  show Wp _ _ _ (_ :: _) _ _ _
  refine Wp.if_eqB (tgt := 14) dX11_say_4 (by decide) (fun c4 => ?_) (fun c4 => ?_)
  · refine Wp.sipush rfl dX11_say_14 ?_
    refine Wp.ireturn dX11_say_17 rfl ?_
    first | (exfalso; omega) | (exact qIM hq (by unfold aSay; (repeat' split) <;> first | (exfalso; omega) | rfl | omega) (by split <;> first | (exfalso; omega) | rfl))
  · refine Wp.iload_n rfl dX11_say_7 ?_
    refine Wp.callS (As := [_]) (ls0 := [_]) (bd := (0, 0)) (bd' := (0, 0)) dX11_say_8 kmX11_isWord lkX11_162 (by decide) (by decide) (Nat.le_of_ble_eq_true rfl) rfl rfl (Nat.le_of_ble_eq_true rfl) rfl ?_
    refine ct_X11_isWord (by omega) ?_
    show Wp _ _ _ (_ :: _) _ _ _
    refine Wp.if_neB (tgt := 18) dX11_say_11 (by decide) (fun c11 => ?_) (fun c11 => ?_)
    · refine Wp.aload_n rfl dX11_say_18 ?_
      refine Wp.gr (kz := 6) rfl dX11_say_19 fkX11_54 (by first | rfl | exact kd_b0 _ | exact kd_b1 _ | exact kd_b2 _ | exact kd_b3 _ | exact kd_b4 _ | exact kd_b5 _ | exact kd_b6 _) (by omega) (by first | exact hFx _ 6 _ rfl | assumption | exact hBk.1 | exact hBk.2.1 | exact hBk.2.2.1 | exact hBk.2.2.2.1 | exact hBk.2.2.2.2.1 | exact hBk.2.2.2.2.2) ?_
      refine Wp.gi (kz := 2) rfl dX11_say_22 fkX11_161 (by first | rfl | exact kd_b0 _ | exact kd_b1 _ | exact kd_b2 _ | exact kd_b3 _ | exact kd_b4 _ | exact kd_b5 _ | exact kd_b6 _) (by omega) ?_
      refine Wp.if_le (tgt := 43) dX11_say_25 (by decide) (by first | omega | exact bI_R _ | exact cmp_R _ _ | assumption) (fun c25 => ?_) (fun c25 => ?_)
      · refine Wp.aload_n rfl dX11_say_43 ?_
        refine Wp.gr (kz := 6) rfl dX11_say_44 fkX11_54 (by first | rfl | exact kd_b0 _ | exact kd_b1 _ | exact kd_b2 _ | exact kd_b3 _ | exact kd_b4 _ | exact kd_b5 _ | exact kd_b6 _) (by omega) (by first | exact hFx _ 6 _ rfl | assumption | exact hBk.1 | exact hBk.2.1 | exact hBk.2.2.1 | exact hBk.2.2.2.1 | exact hBk.2.2.2.2.1 | exact hBk.2.2.2.2.2) ?_
        refine Wp.gi (kz := 2) rfl dX11_say_47 fkX11_161 (by first | rfl | exact kd_b0 _ | exact kd_b1 _ | exact kd_b2 _ | exact kd_b3 _ | exact kd_b4 _ | exact kd_b5 _ | exact kd_b6 _) (by omega) ?_
        refine Wp.bipush rfl dX11_say_50 ?_
        refine Wp.icmp_lt (tgt := 59) dX11_say_52 (by decide) (by first | omega | exact bI_R _ | exact cmp_R _ _ | assumption) (by first | omega | exact bI_R _ | exact cmp_R _ _ | assumption) (fun c52 => ?_) (fun c52 => ?_)
        · refine Wp.aload_n rfl dX11_say_59 ?_
          refine Wp.gr (kz := 6) rfl dX11_say_60 fkX11_54 (by first | rfl | exact kd_b0 _ | exact kd_b1 _ | exact kd_b2 _ | exact kd_b3 _ | exact kd_b4 _ | exact kd_b5 _ | exact kd_b6 _) (by omega) (by first | exact hFx _ 6 _ rfl | assumption | exact hBk.1 | exact hBk.2.1 | exact hBk.2.2.1 | exact hBk.2.2.2.1 | exact hBk.2.2.2.2.1 | exact hBk.2.2.2.2.2) ?_
          refine Wp.iload_n rfl dX11_say_63 ?_
          refine Wp.iload_n rfl dX11_say_64 ?_
          refine Wp.callV (As := [_, _]) (ls0 := [_, _, _]) (bd := (0, 0)) (bd' := (0, 0)) dX11_say_65 kmX7_add lkX11_273 (by decide) (by decide) (Nat.le_of_ble_eq_true rfl) (by first | rfl | exact kd_b0 _ | exact kd_b1 _ | exact kd_b2 _ | exact kd_b3 _ | exact kd_b4 _ | exact kd_b5 _ | exact kd_b6 _) (by omega) rfl rfl (Nat.le_of_ble_eq_true rfl) rfl ?_
          refine ct_X7_add hn hFx (by omega) (by omega) ?_
          show Wp _ _ _ (_ :: _) _ _ _
          refine Wp.ireturn dX11_say_68 rfl ?_
          first | (exfalso; omega) | (exact qIM hq (by unfold aSay; (repeat' split) <;> first | (exfalso; omega) | rfl | omega) (by split <;> first | (exfalso; omega) | rfl))
        · refine Wp.sipush rfl dX11_say_55 ?_
          refine Wp.ireturn dX11_say_58 rfl ?_
          first | (exfalso; omega) | (exact qIM hq (by unfold aSay; (repeat' split) <;> first | (exfalso; omega) | rfl | omega) (by split <;> first | (exfalso; omega) | rfl))
      · refine Wp.aload_n rfl dX11_say_28 ?_
        refine Wp.gr (kz := 6) rfl dX11_say_29 fkX11_54 (by first | rfl | exact kd_b0 _ | exact kd_b1 _ | exact kd_b2 _ | exact kd_b3 _ | exact kd_b4 _ | exact kd_b5 _ | exact kd_b6 _) (by omega) (by first | exact hFx _ 6 _ rfl | assumption | exact hBk.1 | exact hBk.2.1 | exact hBk.2.2.1 | exact hBk.2.2.2.1 | exact hBk.2.2.2.2.1 | exact hBk.2.2.2.2.2) ?_
        refine Wp.gi (kz := 1) rfl dX11_say_32 fkX11_270 (by first | rfl | exact kd_b0 _ | exact kd_b1 _ | exact kd_b2 _ | exact kd_b3 _ | exact kd_b4 _ | exact kd_b5 _ | exact kd_b6 _) (by omega) ?_
        refine Wp.iload_n rfl dX11_say_35 ?_
        refine Wp.icmp_eq (tgt := 43) dX11_say_36 (by decide) (by first | omega | exact bI_R _ | exact cmp_R _ _ | assumption) (by first | omega | exact bI_R _ | exact cmp_R _ _ | assumption) (fun c36 => ?_) (fun c36 => ?_)
        · refine Wp.aload_n rfl dX11_say_43 ?_
          refine Wp.gr (kz := 6) rfl dX11_say_44 fkX11_54 (by first | rfl | exact kd_b0 _ | exact kd_b1 _ | exact kd_b2 _ | exact kd_b3 _ | exact kd_b4 _ | exact kd_b5 _ | exact kd_b6 _) (by omega) (by first | exact hFx _ 6 _ rfl | assumption | exact hBk.1 | exact hBk.2.1 | exact hBk.2.2.1 | exact hBk.2.2.2.1 | exact hBk.2.2.2.2.1 | exact hBk.2.2.2.2.2) ?_
          refine Wp.gi (kz := 2) rfl dX11_say_47 fkX11_161 (by first | rfl | exact kd_b0 _ | exact kd_b1 _ | exact kd_b2 _ | exact kd_b3 _ | exact kd_b4 _ | exact kd_b5 _ | exact kd_b6 _) (by omega) ?_
          refine Wp.bipush rfl dX11_say_50 ?_
          refine Wp.icmp_lt (tgt := 59) dX11_say_52 (by decide) (by first | omega | exact bI_R _ | exact cmp_R _ _ | assumption) (by first | omega | exact bI_R _ | exact cmp_R _ _ | assumption) (fun c52 => ?_) (fun c52 => ?_)
          · refine Wp.aload_n rfl dX11_say_59 ?_
            refine Wp.gr (kz := 6) rfl dX11_say_60 fkX11_54 (by first | rfl | exact kd_b0 _ | exact kd_b1 _ | exact kd_b2 _ | exact kd_b3 _ | exact kd_b4 _ | exact kd_b5 _ | exact kd_b6 _) (by omega) (by first | exact hFx _ 6 _ rfl | assumption | exact hBk.1 | exact hBk.2.1 | exact hBk.2.2.1 | exact hBk.2.2.2.1 | exact hBk.2.2.2.2.1 | exact hBk.2.2.2.2.2) ?_
            refine Wp.iload_n rfl dX11_say_63 ?_
            refine Wp.iload_n rfl dX11_say_64 ?_
            refine Wp.callV (As := [_, _]) (ls0 := [_, _, _]) (bd := (0, 0)) (bd' := (0, 0)) dX11_say_65 kmX7_add lkX11_273 (by decide) (by decide) (Nat.le_of_ble_eq_true rfl) (by first | rfl | exact kd_b0 _ | exact kd_b1 _ | exact kd_b2 _ | exact kd_b3 _ | exact kd_b4 _ | exact kd_b5 _ | exact kd_b6 _) (by omega) rfl rfl (Nat.le_of_ble_eq_true rfl) rfl ?_
            refine ct_X7_add hn hFx (by omega) (by omega) ?_
            show Wp _ _ _ (_ :: _) _ _ _
            refine Wp.ireturn dX11_say_68 rfl ?_
            first | (exfalso; omega) | (exact qIM hq (by unfold aSay; (repeat' split) <;> first | (exfalso; omega) | rfl | omega) (by split <;> first | (exfalso; omega) | rfl))
          · refine Wp.sipush rfl dX11_say_55 ?_
            refine Wp.ireturn dX11_say_58 rfl ?_
            first | (exfalso; omega) | (exact qIM hq (by unfold aSay; (repeat' split) <;> first | (exfalso; omega) | rfl | omega) (by split <;> first | (exfalso; omega) | rfl))
        · refine Wp.sipush rfl dX11_say_39 ?_
          refine Wp.ireturn dX11_say_42 rfl ?_
          first | (exfalso; omega) | (exact qIM hq (by unfold aSay; (repeat' split) <;> first | (exfalso; omega) | rfl | omega) (by split <;> first | (exfalso; omega) | rfl))
    · refine Wp.sipush rfl dX11_say_14 ?_
      refine Wp.ireturn dX11_say_17 rfl ?_
      first | (exfalso; omega) | (exact qIM hq (by unfold aSay; (repeat' split) <;> first | (exfalso; omega) | rfl | omega) (by split <;> first | (exfalso; omega) | rfl))
theorem ct_X11_feed {nn : Int} {b : BitVec 64} (hn : 57 ≤ n) (hFx : Fx R) (hnn : inR nn) (h0 : 0 ≤ I 1 1) (h1 : I 1 1 ≤ 240) (hq : Q (some (vi (aFeed (I 1 1) nn))) (if okFeed (I 1 1) nn then fed I 2 1 1 b nn nn else I, L, R, n)) : Wp mX11_feed 0 [some (vr (some 0)), some (vi nn), some (vl b), none, none] [] (I, L, R, n) (0, 0) Q := by
  have loop : okFeed (I 1 1) nn → ∀ (tt j : Nat) (z : Int), (j : Int) + tt = nn → z = nn - 1 - j → Wp mX11_feed 35 [some (vr (some 0)), some (vi nn), some (vl b), none, some (vi z)] [] (fed I 2 1 1 b nn j, L, R, n) (0, 0) Q := by
    intro hok tt
    induction tt with
    | zero =>
      intro j z hj hz
      have hjn : (j : Int) = nn := by omega
      refine Wp.iload rfl dX11_feed_35 ?_
      refine Wp.if_lt (tgt := 65) dX11_feed_37 (by decide) (by first | omega | exact bI_R _ | exact cmp_R _ _ | assumption) (fun c37 => ?_) (fun c37 => ?_)
      · refine Wp.aload_n rfl dX11_feed_65 ?_
        refine Wp.gr (kz := 0) rfl dX11_feed_66 fkX11_12 (by first | rfl | exact kd_b0 _ | exact kd_b1 _ | exact kd_b2 _ | exact kd_b3 _ | exact kd_b4 _ | exact kd_b5 _ | exact kd_b6 _) (by omega) (by first | exact hFx _ 0 _ rfl | assumption | exact hBk.1 | exact hBk.2.1 | exact hBk.2.2.1 | exact hBk.2.2.2.1 | exact hBk.2.2.2.2.1 | exact hBk.2.2.2.2.2) ?_
        refine Wp.gi (kz := 1) rfl dX11_feed_69 fkX11_91 (by first | rfl | exact kd_b0 _ | exact kd_b1 _ | exact kd_b2 _ | exact kd_b3 _ | exact kd_b4 _ | exact kd_b5 _ | exact kd_b6 _) (by omega) ?_
        rw [fed_c]
        refine Wp.ireturn dX11_feed_72 rfl ?_
        first | (exfalso; omega) | (exact qIM hq (by unfold aFeed; rw [if_pos (by omega), if_pos (by omega)]; omega) (by rw [if_pos hok, hjn]))
      · exfalso; omega
    | succ tt ih =>
      intro j z hj hz
      have hc := fed_c I 2 1 1 b nn j
      refine Wp.iload rfl dX11_feed_35 ?_
      refine Wp.if_lt (tgt := 65) dX11_feed_37 (by decide) (by first | omega | exact bI_R _ | exact cmp_R _ _ | assumption) (fun c37 => ?_) (fun c37 => ?_)
      · exfalso; omega
      · refine Wp.aload_n rfl dX11_feed_40 ?_
        refine Wp.gr (kz := 0) rfl dX11_feed_41 fkX11_12 (by first | rfl | exact kd_b0 _ | exact kd_b1 _ | exact kd_b2 _ | exact kd_b3 _ | exact kd_b4 _ | exact kd_b5 _ | exact kd_b6 _) (by omega) (by first | exact hFx _ 0 _ rfl | assumption | exact hBk.1 | exact hBk.2.1 | exact hBk.2.2.1 | exact hBk.2.2.2.1 | exact hBk.2.2.2.2.1 | exact hBk.2.2.2.2.2) ?_
        refine Wp.lload_n rfl dX11_feed_44 ?_
        refine Wp.bipush rfl dX11_feed_45 ?_
        refine Wp.iload rfl dX11_feed_47 ?_
        refine Wp.imul dX11_feed_49 ?_
        refine Wp.lushr (by omega) (by omega) dX11_feed_50 ?_
        refine Wp.l2i dX11_feed_51 ?_
        rw [show (8 * z).toNat = 8 * (nn - 1 - (j : Int)).toNat by omega]
        refine Wp.sipush rfl dX11_feed_52 ?_
        refine Wp.iand dX11_feed_55 ?_
        rw [byt_u]
        refine Wp.callV (As := [_]) (ls0 := [_, _]) (bd := (0, 0)) (bd' := (0, 0)) dX11_feed_56 kmX9_push lkX11_87 (by decide) (by decide) (Nat.le_of_ble_eq_true rfl) (by first | rfl | exact kd_b0 _ | exact kd_b1 _ | exact kd_b2 _ | exact kd_b3 _ | exact kd_b4 _ | exact kd_b5 _ | exact kd_b6 _) (by omega) rfl rfl (Nat.le_of_ble_eq_true rfl) rfl ?_
        refine ct_X9_push hn hFx (by omega) (by omega) ?_
        rw [hc]
        show Wp _ _ _ _ _ _ _
        refine Wp.iinc (ls' := [_, _, _, _, _]) rfl dX11_feed_59 (by decide) rfl ?_
        refine Wp.goto (tgt := 35) dX11_feed_62 (by decide) ?_
        rw [fed_s I 2 1 1 b nn j (by omega) (by decide)]; exact ih (j + 1) _ (by omega) (by omega)
  refine Wp.iload_n rfl dX11_feed_0 ?_
  refine Wp.iconst dX11_feed_1 ?_
  refine Wp.icmp_lt (tgt := 11) dX11_feed_2 (by decide) (by first | omega | exact bI_R _ | exact cmp_R _ _ | assumption) (by first | omega | exact bI_R _ | exact cmp_R _ _ | assumption) (fun c2 => ?_) (fun c2 => ?_)
  · refine Wp.sipush rfl dX11_feed_11 ?_
    refine Wp.ireturn dX11_feed_14 rfl ?_
    first | (exfalso; omega) | (exact qIM hq (by unfold aFeed; (repeat' split) <;> first | (exfalso; omega) | rfl | omega) (by split <;> first | (exfalso; omega) | rfl))
  · refine Wp.iload_n rfl dX11_feed_5 ?_
    refine Wp.bipush rfl dX11_feed_6 ?_
    refine Wp.icmp_le (tgt := 15) dX11_feed_8 (by decide) (by first | omega | exact bI_R _ | exact cmp_R _ _ | assumption) (by first | omega | exact bI_R _ | exact cmp_R _ _ | assumption) (fun c8 => ?_) (fun c8 => ?_)
    · refine Wp.aload_n rfl dX11_feed_15 ?_
      refine Wp.gr (kz := 0) rfl dX11_feed_16 fkX11_12 (by first | rfl | exact kd_b0 _ | exact kd_b1 _ | exact kd_b2 _ | exact kd_b3 _ | exact kd_b4 _ | exact kd_b5 _ | exact kd_b6 _) (by omega) (by first | exact hFx _ 0 _ rfl | assumption | exact hBk.1 | exact hBk.2.1 | exact hBk.2.2.1 | exact hBk.2.2.2.1 | exact hBk.2.2.2.2.1 | exact hBk.2.2.2.2.2) ?_
      refine Wp.iload_n rfl dX11_feed_19 ?_
      refine Wp.callV (As := [_]) (ls0 := [_, _]) (bd := (0, 0)) (bd' := (0, 0)) dX11_feed_20 kmX9_hasRoom lkX11_83 (by decide) (by decide) (Nat.le_of_ble_eq_true rfl) (by first | rfl | exact kd_b0 _ | exact kd_b1 _ | exact kd_b2 _ | exact kd_b3 _ | exact kd_b4 _ | exact kd_b5 _ | exact kd_b6 _) (by omega) rfl rfl (Nat.le_of_ble_eq_true rfl) rfl ?_
      refine ct_X9_hasRoom hn (by omega) ?_
      show Wp _ _ _ (_ :: _) _ _ _
      refine Wp.if_neB (tgt := 30) dX11_feed_23 (by decide) (fun c23 => ?_) (fun c23 => ?_)
      · refine Wp.iload_n rfl dX11_feed_30 ?_
        refine Wp.iconst dX11_feed_31 ?_
        refine Wp.isub dX11_feed_32 ?_
        refine Wp.istore (ls' := [_, _, _, _, _]) dX11_feed_33 (by decide) rfl ?_
        have hlp := loop ⟨by omega, by omega, by omega⟩ nn.toNat 0 (nn - 1) (by omega) (by omega)
        rw [show ((0 : Nat) : Int) = 0 from rfl, fed_0] at hlp
        exact hlp
      · refine Wp.sipush rfl dX11_feed_26 ?_
        refine Wp.ireturn dX11_feed_29 rfl ?_
        first | (exfalso; omega) | (exact qIM hq (by unfold aFeed; (repeat' split) <;> first | (exfalso; omega) | rfl | omega) (by split <;> first | (exfalso; omega) | rfl))
    · refine Wp.sipush rfl dX11_feed_11 ?_
      refine Wp.ireturn dX11_feed_14 rfl ?_
      first | (exfalso; omega) | (exact qIM hq (by unfold aFeed; (repeat' split) <;> first | (exfalso; omega) | rfl | omega) (by split <;> first | (exfalso; omega) | rfl))
end

