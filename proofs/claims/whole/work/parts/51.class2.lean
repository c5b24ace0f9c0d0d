/-! ===== the class: promises 5, 9 to 13, 15 ===== -/
theorem and_only {x : BitVec 64} {t : Nat} (ht : t < 64) : x &&& 1#64 <<< t = 0#64 ↔ x.getLsbD t = false := by
  constructor
  · intro h
    have h2 := congrArg (fun y => y.getLsbD t) h
    simp only [BitVec.getLsbD_and, shl1_bit t t ht, BitVec.getLsbD_zero, decide_true, Bool.and_true] at h2
    exact h2
  · intro h
    apply BitVec.eq_of_getLsbD_eq
    intro i hi
    rw [BitVec.getLsbD_and, shl1_bit t i ht, BitVec.getLsbD_zero]
    by_cases hit : i = t
    · subst hit; rw [h]; rfl
    · simp [hit]
theorem onlyW_t {w : Int} (h0 : 0 ≤ w) (h1 : w < 60) : onlyW w = 1#64 <<< w.toNat := if_pos ⟨h0, h1⟩
section
variable {I : Nat → Int → Int} {L : Nat → Int → BitVec 64} {R : Nat → Int → Option Nat} {n k : Nat} {m : Mm} {Q : Option AV → Mm → Prop}
theorem gb_gs (lk a b : Int) {t : Int} (h0 : 0 ≤ t) (h1 : t < 60) : ∀ k : Nat, k ≤ 60 → gsN I lk a ALLW b (onlyW t) k = gbN I lk a b t k
  | 0, _ => rfl
  | k + 1, hk => by
    simp only [gsN, gbN]
    rw [gb_gs lk a b h0 h1 k (by omega), onlyW_t h0 h1, ALLW_bit]
    congr 1
    have hz := and_only (x := gv I lk a k b) (t := t.toNat) (by omega)
    by_cases h : (gv I lk a k b).getLsbD t.toNat = true
    · rw [if_pos h, if_pos]
      refine ⟨by simp; omega, fun q => ?_⟩
      rw [hz, h] at q; cases q
    · rw [if_neg h, if_neg]
      · simp
      · rintro ⟨_, q⟩
        exact q (hz.mpr (by simpa using h))
theorem ct_X11_gives {a w b : Int} (hS : ShR I L R n) (ha : inR a) (hw : inR w) (hb : inR b) (hq : Q (some (vl (aGives I 255 a w b))) (I, L, R, n)) : Wp mX11_gives 0 [some (vr (some 0)), some (vi a), some (vi w), some (vi b)] [] (I, L, R, n) (0, 0) Q := by
  have hn := hS.1
  have hFx := hS.2.1
  refine Wp.iload_n rfl dX11_gives_0 ?_
  refine Wp.callS (As := [_]) (ls0 := [_]) (bd := (0, 0)) (bd' := (0, 0)) dX11_gives_1 kmX11_isTongue lkX11_94 (by decide) (by decide) (Nat.le_of_ble_eq_true rfl) rfl rfl (Nat.le_of_ble_eq_true rfl) rfl ?_
  refine ct_X11_isTongue (by omega) ?_
  show Wp _ _ _ (_ :: _) _ _ _
  refine Wp.if_eqB (tgt := 21) dX11_gives_4 (by decide) (fun c4 => ?_) (fun c4 => ?_)
  · refine Wp.ldc2_w (b := 18446744073709550615#64) ckX11_181 rfl dX11_gives_21 ?_
    refine Wp.lreturn dX11_gives_24 rfl ?_
    first | (exfalso; omega) | (exact qL hq (by unfold aGives; split <;> first | rfl | (exfalso; omega)))
  · refine Wp.iload_n rfl dX11_gives_7 ?_
    refine Wp.callS (As := [_]) (ls0 := [_]) (bd := (0, 0)) (bd' := (0, 0)) dX11_gives_8 kmX11_isWord lkX11_162 (by decide) (by decide) (Nat.le_of_ble_eq_true rfl) rfl rfl (Nat.le_of_ble_eq_true rfl) rfl ?_
    refine ct_X11_isWord (by omega) ?_
    show Wp _ _ _ (_ :: _) _ _ _
    refine Wp.if_eqB (tgt := 21) dX11_gives_11 (by decide) (fun c11 => ?_) (fun c11 => ?_)
    · refine Wp.ldc2_w (b := 18446744073709550615#64) ckX11_181 rfl dX11_gives_21 ?_
      refine Wp.lreturn dX11_gives_24 rfl ?_
      first | (exfalso; omega) | (exact qL hq (by unfold aGives; split <;> first | rfl | (exfalso; omega)))
    · refine Wp.iload_n rfl dX11_gives_14 ?_
      refine Wp.callS (As := [_]) (ls0 := [_]) (bd := (0, 0)) (bd' := (0, 0)) dX11_gives_15 kmX11_isTongue lkX11_94 (by decide) (by decide) (Nat.le_of_ble_eq_true rfl) rfl rfl (Nat.le_of_ble_eq_true rfl) rfl ?_
      refine ct_X11_isTongue (by omega) ?_
      show Wp _ _ _ (_ :: _) _ _ _
      refine Wp.if_neB (tgt := 25) dX11_gives_18 (by decide) (fun c18 => ?_) (fun c18 => ?_)
      · refine Wp.aload_n rfl dX11_gives_25 ?_
        refine Wp.gr (kz := 2) rfl dX11_gives_26 fkX11_26 (by first | rfl | exact kd_b0 _ | exact kd_b1 _ | exact kd_b2 _ | exact kd_b3 _ | exact kd_b4 _ | exact kd_b5 _ | exact kd_b6 _) (by omega) (by first | exact hFx _ 2 _ rfl | assumption | exact hBk.1 | exact hBk.2.1 | exact hBk.2.2.1 | exact hBk.2.2.2.1 | exact hBk.2.2.2.2.1 | exact hBk.2.2.2.2.2) ?_
        refine Wp.iload_n rfl dX11_gives_29 ?_
        refine Wp.iload_n rfl dX11_gives_30 ?_
        refine Wp.iload_n rfl dX11_gives_31 ?_
        refine Wp.callV (As := [_, _, _]) (ls0 := [_, _, _, _, _]) (bd := (0, 0)) (bd' := (0, 0)) dX11_gives_32 kmX8_given lkX11_183 (by decide) (by decide) (Nat.le_of_ble_eq_true rfl) (by first | rfl | exact kd_b0 _ | exact kd_b1 _ | exact kd_b2 _ | exact kd_b3 _ | exact kd_b4 _ | exact kd_b5 _ | exact kd_b6 _) (by omega) rfl rfl (Nat.le_of_ble_eq_true rfl) rfl ?_
        refine ct_X8_given hS (by omega) (by omega) (by omega) (by omega) ?_
        show Wp _ _ _ (_ :: _) _ _ _
        refine Wp.lreturn dX11_gives_35 rfl ?_
        first | (exfalso; omega) | (exact qL hq (by unfold aGives; split <;> first | rfl | (exfalso; omega)))
      · refine Wp.ldc2_w (b := 18446744073709550615#64) ckX11_181 rfl dX11_gives_21 ?_
        refine Wp.lreturn dX11_gives_24 rfl ?_
        first | (exfalso; omega) | (exact qL hq (by unfold aGives; split <;> first | rfl | (exfalso; omega)))
theorem ct_X11_givenBy {a b t : Int} (hS : ShR I L R n) (ha : inR a) (hb : inR b) (ht : inR t) (hq : Q (some (vl (aGivenBy I 255 a b t))) (I, L, R, n)) : Wp mX11_givenBy 0 [some (vr (some 0)), some (vi a), some (vi b), some (vi t)] [] (I, L, R, n) (0, 0) Q := by
  have hn := hS.1
  have hFx := hS.2.1
  refine Wp.iload_n rfl dX11_givenBy_0 ?_
  refine Wp.callS (As := [_]) (ls0 := [_]) (bd := (0, 0)) (bd' := (0, 0)) dX11_givenBy_1 kmX11_isTongue lkX11_94 (by decide) (by decide) (Nat.le_of_ble_eq_true rfl) rfl rfl (Nat.le_of_ble_eq_true rfl) rfl ?_
  refine ct_X11_isTongue (by omega) ?_
  show Wp _ _ _ (_ :: _) _ _ _
  refine Wp.if_eqB (tgt := 21) dX11_givenBy_4 (by decide) (fun c4 => ?_) (fun c4 => ?_)
  · refine Wp.ldc2_w (b := 18446744073709550615#64) ckX11_181 rfl dX11_givenBy_21 ?_
    refine Wp.lreturn dX11_givenBy_24 rfl ?_
    first | (exfalso; omega) | (exact qL hq (by unfold aGivenBy; split <;> first | rfl | (exfalso; omega) | exact gb_gs 255 a b (by omega) (by omega) 60 (by omega)))
  · refine Wp.iload_n rfl dX11_givenBy_7 ?_
    refine Wp.callS (As := [_]) (ls0 := [_]) (bd := (0, 0)) (bd' := (0, 0)) dX11_givenBy_8 kmX11_isTongue lkX11_94 (by decide) (by decide) (Nat.le_of_ble_eq_true rfl) rfl rfl (Nat.le_of_ble_eq_true rfl) rfl ?_
    refine ct_X11_isTongue (by omega) ?_
    show Wp _ _ _ (_ :: _) _ _ _
    refine Wp.if_eqB (tgt := 21) dX11_givenBy_11 (by decide) (fun c11 => ?_) (fun c11 => ?_)
    · refine Wp.ldc2_w (b := 18446744073709550615#64) ckX11_181 rfl dX11_givenBy_21 ?_
      refine Wp.lreturn dX11_givenBy_24 rfl ?_
      first | (exfalso; omega) | (exact qL hq (by unfold aGivenBy; split <;> first | rfl | (exfalso; omega) | exact gb_gs 255 a b (by omega) (by omega) 60 (by omega)))
    · refine Wp.iload_n rfl dX11_givenBy_14 ?_
      refine Wp.callS (As := [_]) (ls0 := [_]) (bd := (0, 0)) (bd' := (0, 0)) dX11_givenBy_15 kmX11_isWord lkX11_162 (by decide) (by decide) (Nat.le_of_ble_eq_true rfl) rfl rfl (Nat.le_of_ble_eq_true rfl) rfl ?_
      refine ct_X11_isWord (by omega) ?_
      show Wp _ _ _ (_ :: _) _ _ _
      refine Wp.if_neB (tgt := 25) dX11_givenBy_18 (by decide) (fun c18 => ?_) (fun c18 => ?_)
      · refine Wp.aload_n rfl dX11_givenBy_25 ?_
        refine Wp.gr (kz := 2) rfl dX11_givenBy_26 fkX11_26 (by first | rfl | exact kd_b0 _ | exact kd_b1 _ | exact kd_b2 _ | exact kd_b3 _ | exact kd_b4 _ | exact kd_b5 _ | exact kd_b6 _) (by omega) (by first | exact hFx _ 2 _ rfl | assumption | exact hBk.1 | exact hBk.2.1 | exact hBk.2.2.1 | exact hBk.2.2.2.1 | exact hBk.2.2.2.2.1 | exact hBk.2.2.2.2.2) ?_
        refine Wp.iload_n rfl dX11_givenBy_29 ?_
        refine Wp.ldc2_w (b := 1152921504606846975#64) ckX11_187 rfl dX11_givenBy_30 ?_
        refine Wp.iload_n rfl dX11_givenBy_33 ?_
        refine Wp.iload_n rfl dX11_givenBy_34 ?_
        refine Wp.callS (As := [_]) (ls0 := [_]) (bd := (0, 0)) (bd' := (0, 0)) dX11_givenBy_35 kmX11_only lkX11_189 (by decide) (by decide) (Nat.le_of_ble_eq_true rfl) rfl rfl (Nat.le_of_ble_eq_true rfl) rfl ?_
        refine ct_X11_only (by omega) ?_
        show Wp _ _ _ (_ :: _) _ _ _
        refine Wp.callV (As := [_, _, _, _]) (ls0 := [_, _, _, _, _, _, _, _, _, _]) (bd := (0, 0)) (bd' := (0, 0)) dX11_givenBy_38 kmX8_givers lkX11_193 (by decide) (by decide) (Nat.le_of_ble_eq_true rfl) (by first | rfl | exact kd_b0 _ | exact kd_b1 _ | exact kd_b2 _ | exact kd_b3 _ | exact kd_b4 _ | exact kd_b5 _ | exact kd_b6 _) (by omega) rfl rfl (Nat.le_of_ble_eq_true rfl) rfl ?_
        refine ct_X8_givers hS (by omega) (by omega) ?_
        show Wp _ _ _ (_ :: _) _ _ _
        refine Wp.lreturn dX11_givenBy_41 rfl ?_
        first | (exfalso; omega) | (exact qL hq (by unfold aGivenBy; split <;> first | rfl | (exfalso; omega) | exact gb_gs 255 a b (by omega) (by omega) 60 (by omega)))
      · refine Wp.ldc2_w (b := 18446744073709550615#64) ckX11_181 rfl dX11_givenBy_21 ?_
        refine Wp.lreturn dX11_givenBy_24 rfl ?_
        first | (exfalso; omega) | (exact qL hq (by unfold aGivenBy; split <;> first | rfl | (exfalso; omega) | exact gb_gs 255 a b (by omega) (by omega) 60 (by omega)))
theorem ct_X11_thereAndBack {a w b : Int} (hS : ShR I L R n) (ha : inR a) (h0 : 0 ≤ w) (h1 : w < 60) (hb : inR b) (hq : Q (some (vl (tb I 255 a w b))) (I, L, R, n)) : Wp mX11_thereAndBack 0 [some (vr (some 0)), some (vi a), some (vi w), some (vi b)] [] (I, L, R, n) (0, 0) Q := by
  have hn := hS.1
  have hFx := hS.2.1
  refine Wp.aload_n rfl dX11_thereAndBack_0 ?_
  refine Wp.gr (kz := 2) rfl dX11_thereAndBack_1 fkX11_26 (by first | rfl | exact kd_b0 _ | exact kd_b1 _ | exact kd_b2 _ | exact kd_b3 _ | exact kd_b4 _ | exact kd_b5 _ | exact kd_b6 _) (by omega) (by first | exact hFx _ 2 _ rfl | assumption | exact hBk.1 | exact hBk.2.1 | exact hBk.2.2.1 | exact hBk.2.2.2.1 | exact hBk.2.2.2.2.1 | exact hBk.2.2.2.2.2) ?_
  refine Wp.iload_n rfl dX11_thereAndBack_4 ?_
  refine Wp.aload_n rfl dX11_thereAndBack_5 ?_
  refine Wp.gr (kz := 2) rfl dX11_thereAndBack_6 fkX11_26 (by first | rfl | exact kd_b0 _ | exact kd_b1 _ | exact kd_b2 _ | exact kd_b3 _ | exact kd_b4 _ | exact kd_b5 _ | exact kd_b6 _) (by omega) (by first | exact hFx _ 2 _ rfl | assumption | exact hBk.1 | exact hBk.2.1 | exact hBk.2.2.1 | exact hBk.2.2.2.1 | exact hBk.2.2.2.2.1 | exact hBk.2.2.2.2.2) ?_
  refine Wp.iload_n rfl dX11_thereAndBack_9 ?_
  refine Wp.iload_n rfl dX11_thereAndBack_10 ?_
  refine Wp.iload_n rfl dX11_thereAndBack_11 ?_
  refine Wp.callV (As := [_, _, _]) (ls0 := [_, _, _, _, _]) (bd := (0, 0)) (bd' := (0, 0)) dX11_thereAndBack_12 kmX8_given lkX11_183 (by decide) (by decide) (Nat.le_of_ble_eq_true rfl) (by first | rfl | exact kd_b0 _ | exact kd_b1 _ | exact kd_b2 _ | exact kd_b3 _ | exact kd_b4 _ | exact kd_b5 _ | exact kd_b6 _) (by omega) rfl rfl (Nat.le_of_ble_eq_true rfl) rfl ?_
  refine ct_X8_given hS (by omega) (by omega) (by omega) (by omega) ?_
  show Wp _ _ _ (_ :: _) _ _ _
  refine Wp.iload_n rfl dX11_thereAndBack_15 ?_
  refine Wp.callV (As := [_, _, _]) (ls0 := [_, _, _, _, _, _, _, _]) (bd := (0, 0)) (bd' := (0, 0)) dX11_thereAndBack_16 kmX8_givenByAll lkX11_215 (by decide) (by decide) (Nat.le_of_ble_eq_true rfl) (by first | rfl | exact kd_b0 _ | exact kd_b1 _ | exact kd_b2 _ | exact kd_b3 _ | exact kd_b4 _ | exact kd_b5 _ | exact kd_b6 _) (by omega) rfl rfl (Nat.le_of_ble_eq_true rfl) rfl ?_
  refine ct_X8_givenByAll hS (by omega) (by omega) ?_
  show Wp _ _ _ (_ :: _) _ _ _
  refine Wp.lreturn dX11_thereAndBack_19 rfl ?_
  first | exact hq | (exfalso; omega)
theorem ct_X11_returns {a w b : Int} (hS : ShR I L R n) (ha : inR a) (hw : inR w) (hb : inR b) (hq : Q (some (vi (aReturns I 255 a w b))) (I, L, R, n)) : Wp mX11_returns 0 [some (vr (some 0)), some (vi a), some (vi w), some (vi b)] [] (I, L, R, n) (0, 0) Q := by
  have hn := hS.1
  refine Wp.iload_n rfl dX11_returns_0 ?_
  refine Wp.callS (As := [_]) (ls0 := [_]) (bd := (0, 0)) (bd' := (0, 0)) dX11_returns_1 kmX11_isTongue lkX11_94 (by decide) (by decide) (Nat.le_of_ble_eq_true rfl) rfl rfl (Nat.le_of_ble_eq_true rfl) rfl ?_
  refine ct_X11_isTongue (by omega) ?_
  show Wp _ _ _ (_ :: _) _ _ _
  refine Wp.if_eqB (tgt := 21) dX11_returns_4 (by decide) (fun c4 => ?_) (fun c4 => ?_)
  · refine Wp.sipush rfl dX11_returns_21 ?_
    refine Wp.ireturn dX11_returns_24 rfl ?_
    first | (exfalso; omega) | (exact qI hq (by unfold aReturns; (repeat' split) <;> first | rfl | (exfalso; omega) | (exfalso; rename_i q; exact q c45.2.2) | (exfalso; rename_i q; exact c45 ⟨by omega, by omega, q⟩)))
  · refine Wp.iload_n rfl dX11_returns_7 ?_
    refine Wp.callS (As := [_]) (ls0 := [_]) (bd := (0, 0)) (bd' := (0, 0)) dX11_returns_8 kmX11_isWord lkX11_162 (by decide) (by decide) (Nat.le_of_ble_eq_true rfl) rfl rfl (Nat.le_of_ble_eq_true rfl) rfl ?_
    refine ct_X11_isWord (by omega) ?_
    show Wp _ _ _ (_ :: _) _ _ _
    refine Wp.if_eqB (tgt := 21) dX11_returns_11 (by decide) (fun c11 => ?_) (fun c11 => ?_)
    · refine Wp.sipush rfl dX11_returns_21 ?_
      refine Wp.ireturn dX11_returns_24 rfl ?_
      first | (exfalso; omega) | (exact qI hq (by unfold aReturns; (repeat' split) <;> first | rfl | (exfalso; omega) | (exfalso; rename_i q; exact q c45.2.2) | (exfalso; rename_i q; exact c45 ⟨by omega, by omega, q⟩)))
    · refine Wp.iload_n rfl dX11_returns_14 ?_
      refine Wp.callS (As := [_]) (ls0 := [_]) (bd := (0, 0)) (bd' := (0, 0)) dX11_returns_15 kmX11_isTongue lkX11_94 (by decide) (by decide) (Nat.le_of_ble_eq_true rfl) rfl rfl (Nat.le_of_ble_eq_true rfl) rfl ?_
      refine ct_X11_isTongue (by omega) ?_
      show Wp _ _ _ (_ :: _) _ _ _
      refine Wp.if_neB (tgt := 25) dX11_returns_18 (by decide) (fun c18 => ?_) (fun c18 => ?_)
      · refine Wp.iload_n rfl dX11_returns_25 ?_
        refine Wp.iload_n rfl dX11_returns_26 ?_
        refine Wp.icmp_ne (tgt := 34) dX11_returns_27 (by decide) (by first | omega | exact bI_R _ | exact cmp_R _ _ | assumption) (by first | omega | exact bI_R _ | exact cmp_R _ _ | assumption) (fun c27 => ?_) (fun c27 => ?_)
        · refine Wp.aload_n rfl dX11_returns_34 ?_
          refine Wp.iload_n rfl dX11_returns_35 ?_
          refine Wp.iload_n rfl dX11_returns_36 ?_
          refine Wp.iload_n rfl dX11_returns_37 ?_
          refine Wp.callV (As := [_, _, _]) (ls0 := [_, _, _, _]) (bd := (0, 0)) (bd' := (0, 0)) dX11_returns_38 kmX11_thereAndBack lkX11_197 (by decide) (by decide) (Nat.le_of_ble_eq_true rfl) (by first | rfl | exact kd_b0 _ | exact kd_b1 _ | exact kd_b2 _ | exact kd_b3 _ | exact kd_b4 _ | exact kd_b5 _ | exact kd_b6 _) (by omega) rfl rfl (Nat.le_of_ble_eq_true rfl) rfl ?_
          refine ct_X11_thereAndBack hS (by omega) (by omega) (by omega) (by omega) ?_
          show Wp _ _ _ (_ :: _) _ _ _
          refine Wp.iload_n rfl dX11_returns_41 ?_
          refine Wp.callS (As := [_, _]) (ls0 := [_, _, _]) (bd := (0, 0)) (bd' := (0, 0)) dX11_returns_42 kmX11_has lkX11_200 (by decide) (by decide) (Nat.le_of_ble_eq_true rfl) rfl rfl (Nat.le_of_ble_eq_true rfl) rfl ?_
          refine ct_X11_has (by omega) ?_
          show Wp _ _ _ (_ :: _) _ _ _
          refine Wp.if_eqB (tgt := 52) dX11_returns_45 (by decide) (fun c45 => ?_) (fun c45 => ?_)
          · refine Wp.iconst dX11_returns_52 ?_
            refine Wp.ireturn dX11_returns_53 rfl ?_
            first | (exfalso; omega) | (exact qI hq (by unfold aReturns; (repeat' split) <;> first | rfl | (exfalso; omega) | (exfalso; rename_i q; exact q c45.2.2) | (exfalso; rename_i q; exact c45 ⟨by omega, by omega, q⟩)))
          · refine Wp.iconst dX11_returns_48 ?_
            refine Wp.goto (tgt := 53) dX11_returns_49 (by decide) ?_
            refine Wp.ireturn dX11_returns_53 rfl ?_
            first | (exfalso; omega) | (exact qI hq (by unfold aReturns; (repeat' split) <;> first | rfl | (exfalso; omega) | (exfalso; rename_i q; exact q c45.2.2) | (exfalso; rename_i q; exact c45 ⟨by omega, by omega, q⟩)))
        · refine Wp.sipush rfl dX11_returns_30 ?_
          refine Wp.ireturn dX11_returns_33 rfl ?_
          first | (exfalso; omega) | (exact qI hq (by unfold aReturns; (repeat' split) <;> first | rfl | (exfalso; omega) | (exfalso; rename_i q; exact q c45.2.2) | (exfalso; rename_i q; exact c45 ⟨by omega, by omega, q⟩)))
      · refine Wp.sipush rfl dX11_returns_21 ?_
        refine Wp.ireturn dX11_returns_24 rfl ?_
        first | (exfalso; omega) | (exact qI hq (by unfold aReturns; (repeat' split) <;> first | rfl | (exfalso; omega) | (exfalso; rename_i q; exact q c45.2.2) | (exfalso; rename_i q; exact c45 ⟨by omega, by omega, q⟩)))
theorem ct_X11_back {a w b : Int} (hS : ShR I L R n) (ha : inR a) (hw : inR w) (hb : inR b) (hq : Q (some (vl (aBack I 255 a w b))) (I, L, R, n)) : Wp mX11_back 0 [some (vr (some 0)), some (vi a), some (vi w), some (vi b)] [] (I, L, R, n) (0, 0) Q := by
  have hn := hS.1
  refine Wp.iload_n rfl dX11_back_0 ?_
  refine Wp.callS (As := [_]) (ls0 := [_]) (bd := (0, 0)) (bd' := (0, 0)) dX11_back_1 kmX11_isTongue lkX11_94 (by decide) (by decide) (Nat.le_of_ble_eq_true rfl) rfl rfl (Nat.le_of_ble_eq_true rfl) rfl ?_
  refine ct_X11_isTongue (by omega) ?_
  show Wp _ _ _ (_ :: _) _ _ _
  refine Wp.if_eqB (tgt := 21) dX11_back_4 (by decide) (fun c4 => ?_) (fun c4 => ?_)
  · refine Wp.ldc2_w (b := 18446744073709550615#64) ckX11_181 rfl dX11_back_21 ?_
    refine Wp.lreturn dX11_back_24 rfl ?_
    first | (exfalso; omega) | (exact qL hq (by unfold aBack; (repeat' split) <;> first | rfl | (exfalso; omega) | (rw [onlyW_t (by omega) (by omega)]; done)))
  · refine Wp.iload_n rfl dX11_back_7 ?_
    refine Wp.callS (As := [_]) (ls0 := [_]) (bd := (0, 0)) (bd' := (0, 0)) dX11_back_8 kmX11_isWord lkX11_162 (by decide) (by decide) (Nat.le_of_ble_eq_true rfl) rfl rfl (Nat.le_of_ble_eq_true rfl) rfl ?_
    refine ct_X11_isWord (by omega) ?_
    show Wp _ _ _ (_ :: _) _ _ _
    refine Wp.if_eqB (tgt := 21) dX11_back_11 (by decide) (fun c11 => ?_) (fun c11 => ?_)
    · refine Wp.ldc2_w (b := 18446744073709550615#64) ckX11_181 rfl dX11_back_21 ?_
      refine Wp.lreturn dX11_back_24 rfl ?_
      first | (exfalso; omega) | (exact qL hq (by unfold aBack; (repeat' split) <;> first | rfl | (exfalso; omega) | (rw [onlyW_t (by omega) (by omega)]; done)))
    · refine Wp.iload_n rfl dX11_back_14 ?_
      refine Wp.callS (As := [_]) (ls0 := [_]) (bd := (0, 0)) (bd' := (0, 0)) dX11_back_15 kmX11_isTongue lkX11_94 (by decide) (by decide) (Nat.le_of_ble_eq_true rfl) rfl rfl (Nat.le_of_ble_eq_true rfl) rfl ?_
      refine ct_X11_isTongue (by omega) ?_
      show Wp _ _ _ (_ :: _) _ _ _
      refine Wp.if_neB (tgt := 25) dX11_back_18 (by decide) (fun c18 => ?_) (fun c18 => ?_)
      · refine Wp.iload_n rfl dX11_back_25 ?_
        refine Wp.iload_n rfl dX11_back_26 ?_
        refine Wp.icmp_ne (tgt := 34) dX11_back_27 (by decide) (by first | omega | exact bI_R _ | exact cmp_R _ _ | assumption) (by first | omega | exact bI_R _ | exact cmp_R _ _ | assumption) (fun c27 => ?_) (fun c27 => ?_)
        · refine Wp.aload_n rfl dX11_back_34 ?_
          refine Wp.iload_n rfl dX11_back_35 ?_
          refine Wp.iload_n rfl dX11_back_36 ?_
          refine Wp.iload_n rfl dX11_back_37 ?_
          refine Wp.callV (As := [_, _, _]) (ls0 := [_, _, _, _]) (bd := (0, 0)) (bd' := (0, 0)) dX11_back_38 kmX11_thereAndBack lkX11_197 (by decide) (by decide) (Nat.le_of_ble_eq_true rfl) (by first | rfl | exact kd_b0 _ | exact kd_b1 _ | exact kd_b2 _ | exact kd_b3 _ | exact kd_b4 _ | exact kd_b5 _ | exact kd_b6 _) (by omega) rfl rfl (Nat.le_of_ble_eq_true rfl) rfl ?_
          refine ct_X11_thereAndBack hS (by omega) (by omega) (by omega) (by omega) ?_
          show Wp _ _ _ (_ :: _) _ _ _
          refine Wp.iload_n rfl dX11_back_41 ?_
          refine Wp.callS (As := [_]) (ls0 := [_]) (bd := (0, 0)) (bd' := (0, 0)) dX11_back_42 kmX11_only lkX11_189 (by decide) (by decide) (Nat.le_of_ble_eq_true rfl) rfl rfl (Nat.le_of_ble_eq_true rfl) rfl ?_
          refine ct_X11_only (by omega) ?_
          show Wp _ _ _ (_ :: _) _ _ _
          refine Wp.ldc2_w (b := 18446744073709551615#64) ckX11_206 rfl dX11_back_45 ?_
          refine Wp.lxor dX11_back_48 ?_
          refine Wp.land dX11_back_49 ?_
          refine Wp.lreturn dX11_back_50 rfl ?_
          first | (exfalso; omega) | (exact qL hq (by unfold aBack; (repeat' split) <;> first | rfl | (exfalso; omega) | (rw [onlyW_t (by omega) (by omega)]; done)))
        · refine Wp.ldc2_w (b := 18446744073709550614#64) ckX11_204 rfl dX11_back_30 ?_
          refine Wp.lreturn dX11_back_33 rfl ?_
          first | (exfalso; omega) | (exact qL hq (by unfold aBack; (repeat' split) <;> first | rfl | (exfalso; omega) | (rw [onlyW_t (by omega) (by omega)]; done)))
      · refine Wp.ldc2_w (b := 18446744073709550615#64) ckX11_181 rfl dX11_back_21 ?_
        refine Wp.lreturn dX11_back_24 rfl ?_
        first | (exfalso; omega) | (exact qL hq (by unfold aBack; (repeat' split) <;> first | rfl | (exfalso; omega) | (rw [onlyW_t (by omega) (by omega)]; done)))
theorem lpT_t' {a b w : Int} {k : Nat} (h0 : 0 ≤ w) (h1 : w < 60) (c : hasW (gv I 255 a w b) k) (he : 0 ≤ ent I 255 b k a) (d : ¬ hasW (gv I 255 b k a) w) : lpT I 255 a b w k + 1 = lpT I 255 a b w (k + 1) := by
  simp only [lpT]
  rw [if_pos ⟨c.2.2, he, fun q => d ⟨h0, h1, q⟩⟩]
theorem lpT_f' {a b w : Int} {k : Nat} (h : ¬ ((gv I 255 a w b).getLsbD k = true ∧ 0 ≤ ent I 255 b k a ∧ ¬ (gv I 255 b k a).getLsbD w.toNat = true)) : lpT I 255 a b w k = lpT I 255 a b w (k + 1) := by
  simp only [lpT]
  rw [if_neg h]; omega
theorem ct_X11_lopsidedOf {a w b : Int} (hS : ShR I L R n) (ha : inR a) (h0 : 0 ≤ w) (h1 : w < 60) (hb : inR b) (hq : Q (some (vi (lpT I 255 a b w 60))) (I, L, R, n)) : Wp mX11_lopsidedOf 0 [some (vr (some 0)), some (vi a), some (vi w), some (vi b), none, none, none, none, none] [] (I, L, R, n) (0, 0) Q := by
  have hn := hS.1
  have hW := hS.2.2.1
  have hFx := hS.2.1
  have hz : gv I 255 a w b = 0#64 → ∀ k : Nat, lpT I 255 a b w k = 0 := fun h k => by
    induction k with
    | zero => rfl
    | succ k ih => simp only [lpT]; rw [ih, if_neg (by rw [h]; simp)]; rfl
  have lp : ∀ (tt k : Nat) (z : Int) (x : Int) (x8 : Option AV), k + tt = 60 → z = k → x = lpT I 255 a b w k → Wp mX11_lopsidedOf 18 [some (vr (some 0)), some (vi a), some (vi w), some (vi b), some (vl (gv I 255 a w b)), none, some (vi x), some (vi z), x8] [] (I, L, R, n) (0, 0) Q := by
    intro tt
    induction tt with
    | zero =>
      intro k z x x8 hkt hz e0
      obtain rfl : k = 60 := by omega
      refine Wp.iload rfl dX11_lopsidedOf_18 ?_
      refine Wp.bipush rfl dX11_lopsidedOf_20 ?_
      refine Wp.icmp_ge (tgt := 96) dX11_lopsidedOf_22 (by decide) (by first | omega | exact bI_R _ | exact cmp_R _ _ | assumption) (by first | omega | exact bI_R _ | exact cmp_R _ _ | assumption) (fun c22 => ?_) (fun c22 => ?_)
      · refine Wp.iload rfl dX11_lopsidedOf_96 ?_
        refine Wp.ireturn dX11_lopsidedOf_98 rfl ?_
        first | (exfalso; omega) | (exact qI hq e0)
      · exfalso; omega
    | succ tt ih =>
      intro k z x x8 hkt hz e0
      subst hz
      subst e0
      have hE := ent_lat hW (lk := 255) (a := b) (w := k) (b := a) (by omega)
      have hL := lat_B I hW.1 255 b k a
      have hN1 := hW.2.1
      refine Wp.iload rfl dX11_lopsidedOf_18 ?_
      refine Wp.bipush rfl dX11_lopsidedOf_20 ?_
      refine Wp.icmp_ge (tgt := 96) dX11_lopsidedOf_22 (by decide) (by first | omega | exact bI_R _ | exact cmp_R _ _ | assumption) (by first | omega | exact bI_R _ | exact cmp_R _ _ | assumption) (fun c22 => ?_) (fun c22 => ?_)
      · first | (exfalso; omega) | exact Wp.iload rfl dX11_lopsidedOf_96 (Wp.ireturn dX11_lopsidedOf_98 rfl (qI hq ((hz c29 k).trans (hz c29 60).symm)))
      · refine Wp.lload rfl dX11_lopsidedOf_25 ?_
        refine Wp.lconst0 dX11_lopsidedOf_27 ?_
        refine Wp.lcmp dX11_lopsidedOf_28 ?_
        refine Wp.if_eqC (tgt := 96) dX11_lopsidedOf_29 (by decide) (fun c29 => ?_) (fun c29 => ?_)
        · first | (exfalso; omega) | exact Wp.iload rfl dX11_lopsidedOf_96 (Wp.ireturn dX11_lopsidedOf_98 rfl (qI hq ((hz c29 k).trans (hz c29 60).symm)))
        · refine Wp.lload rfl dX11_lopsidedOf_32 ?_
          refine Wp.iload rfl dX11_lopsidedOf_34 ?_
          refine Wp.callS (As := [_, _]) (ls0 := [_, _, _]) (bd := (0, 0)) (bd' := (0, 0)) dX11_lopsidedOf_36 kmX11_has lkX11_200 (by decide) (by decide) (Nat.le_of_ble_eq_true rfl) rfl rfl (Nat.le_of_ble_eq_true rfl) rfl ?_
          refine ct_X11_has (by omega) ?_
          show Wp _ _ _ (_ :: _) _ _ _
          refine Wp.if_eqB (tgt := 61) dX11_lopsidedOf_39 (by decide) (fun c39 => ?_) (fun c39 => ?_)
          · refine Wp.iconst dX11_lopsidedOf_61 ?_
            refine Wp.istore (ls' := [_, _, _, _, _, _, _, _, _]) dX11_lopsidedOf_62 (by decide) rfl ?_
            refine Wp.iload rfl dX11_lopsidedOf_64 ?_
            refine Wp.if_eq (tgt := 90) dX11_lopsidedOf_66 (by decide) (by first | omega | exact bI_R _ | exact cmp_R _ _ | assumption) (fun c66 => ?_) (fun c66 => ?_)
            · refine Wp.iinc (ls' := [_, _, _, _, _, _, _, _, _]) rfl dX11_lopsidedOf_90 (by decide) rfl ?_
              refine Wp.goto (tgt := 18) dX11_lopsidedOf_93 (by decide) ?_
              first | exact ih (k + 1) _ _ _ (by omega) (by omega) (lpT_t' h0 h1 c39 (by omega) c84) | exact ih (k + 1) _ _ _ (by omega) (by omega) (lpT_f' (fun q => q.2.2 c84.2.2)) | exact ih (k + 1) _ _ _ (by omega) (by omega) (lpT_f' (fun q => c39 ⟨by omega, by omega, q.1⟩)) | exact ih (k + 1) _ _ _ (by omega) (by omega) (lpT_f' (fun q => absurd q.2.1 (by omega))) | (exfalso; omega)
            · refine Wp.aload_n rfl dX11_lopsidedOf_69 ?_
              refine Wp.gr (kz := 2) rfl dX11_lopsidedOf_70 fkX11_26 (by first | rfl | exact kd_b0 _ | exact kd_b1 _ | exact kd_b2 _ | exact kd_b3 _ | exact kd_b4 _ | exact kd_b5 _ | exact kd_b6 _) (by omega) (by first | exact hFx _ 2 _ rfl | assumption | exact hBk.1 | exact hBk.2.1 | exact hBk.2.2.1 | exact hBk.2.2.2.1 | exact hBk.2.2.2.2.1 | exact hBk.2.2.2.2.2) ?_
              refine Wp.iload_n rfl dX11_lopsidedOf_73 ?_
              refine Wp.iload rfl dX11_lopsidedOf_74 ?_
              refine Wp.iload_n rfl dX11_lopsidedOf_76 ?_
              refine Wp.callV (As := [_, _, _]) (ls0 := [_, _, _, _, _]) (bd := (0, 0)) (bd' := (0, 0)) dX11_lopsidedOf_77 kmX8_given lkX11_183 (by decide) (by decide) (Nat.le_of_ble_eq_true rfl) (by first | rfl | exact kd_b0 _ | exact kd_b1 _ | exact kd_b2 _ | exact kd_b3 _ | exact kd_b4 _ | exact kd_b5 _ | exact kd_b6 _) (by omega) rfl rfl (Nat.le_of_ble_eq_true rfl) rfl ?_
              refine ct_X8_given hS (by omega) (by omega) (by omega) (by omega) ?_
              show Wp _ _ _ (_ :: _) _ _ _
              refine Wp.iload_n rfl dX11_lopsidedOf_80 ?_
              refine Wp.callS (As := [_, _]) (ls0 := [_, _, _]) (bd := (0, 0)) (bd' := (0, 0)) dX11_lopsidedOf_81 kmX11_has lkX11_200 (by decide) (by decide) (Nat.le_of_ble_eq_true rfl) rfl rfl (Nat.le_of_ble_eq_true rfl) rfl ?_
              refine ct_X11_has (by omega) ?_
              show Wp _ _ _ (_ :: _) _ _ _
              refine Wp.if_neB (tgt := 90) dX11_lopsidedOf_84 (by decide) (fun c84 => ?_) (fun c84 => ?_)
              · refine Wp.iinc (ls' := [_, _, _, _, _, _, _, _, _]) rfl dX11_lopsidedOf_90 (by decide) rfl ?_
                refine Wp.goto (tgt := 18) dX11_lopsidedOf_93 (by decide) ?_
                first | exact ih (k + 1) _ _ _ (by omega) (by omega) (lpT_t' h0 h1 c39 (by omega) c84) | exact ih (k + 1) _ _ _ (by omega) (by omega) (lpT_f' (fun q => q.2.2 c84.2.2)) | exact ih (k + 1) _ _ _ (by omega) (by omega) (lpT_f' (fun q => c39 ⟨by omega, by omega, q.1⟩)) | exact ih (k + 1) _ _ _ (by omega) (by omega) (lpT_f' (fun q => absurd q.2.1 (by omega))) | (exfalso; omega)
              · refine Wp.iinc (ls' := [_, _, _, _, _, _, _, _, _]) rfl dX11_lopsidedOf_87 (by decide) rfl ?_
                refine Wp.iinc (ls' := [_, _, _, _, _, _, _, _, _]) rfl dX11_lopsidedOf_90 (by decide) rfl ?_
                refine Wp.goto (tgt := 18) dX11_lopsidedOf_93 (by decide) ?_
                first | exact ih (k + 1) _ _ _ (by omega) (by omega) (lpT_t' h0 h1 c39 (by omega) c84) | exact ih (k + 1) _ _ _ (by omega) (by omega) (lpT_f' (fun q => q.2.2 c84.2.2)) | exact ih (k + 1) _ _ _ (by omega) (by omega) (lpT_f' (fun q => c39 ⟨by omega, by omega, q.1⟩)) | exact ih (k + 1) _ _ _ (by omega) (by omega) (lpT_f' (fun q => absurd q.2.1 (by omega))) | (exfalso; omega)
          · refine Wp.aload_n rfl dX11_lopsidedOf_42 ?_
            refine Wp.gr (kz := 2) rfl dX11_lopsidedOf_43 fkX11_26 (by first | rfl | exact kd_b0 _ | exact kd_b1 _ | exact kd_b2 _ | exact kd_b3 _ | exact kd_b4 _ | exact kd_b5 _ | exact kd_b6 _) (by omega) (by first | exact hFx _ 2 _ rfl | assumption | exact hBk.1 | exact hBk.2.1 | exact hBk.2.2.1 | exact hBk.2.2.2.1 | exact hBk.2.2.2.2.1 | exact hBk.2.2.2.2.2) ?_
            refine Wp.iload_n rfl dX11_lopsidedOf_46 ?_
            refine Wp.iload rfl dX11_lopsidedOf_47 ?_
            refine Wp.iload_n rfl dX11_lopsidedOf_49 ?_
            refine Wp.callV (As := [_, _, _]) (ls0 := [_, _, _, _, _, _, _]) (bd := (0, 0)) (bd' := (0, 0)) dX11_lopsidedOf_50 kmX8_latest lkX11_165 (by decide) (by decide) (Nat.le_of_ble_eq_true rfl) (by first | rfl | exact kd_b0 _ | exact kd_b1 _ | exact kd_b2 _ | exact kd_b3 _ | exact kd_b4 _ | exact kd_b5 _ | exact kd_b6 _) (by omega) rfl rfl (Nat.le_of_ble_eq_true rfl) rfl ?_
            refine ct_X8_latest hS (by omega) (by omega) (by omega) (by omega) ?_
            show Wp _ _ _ (_ :: _) _ _ _
            refine Wp.iconst dX11_lopsidedOf_53 ?_
            refine Wp.icmp_eq (tgt := 61) dX11_lopsidedOf_54 (by decide) (by first | omega | exact bI_R _ | exact cmp_R _ _ | assumption) (by first | omega | exact bI_R _ | exact cmp_R _ _ | assumption) (fun c54 => ?_) (fun c54 => ?_)
            · refine Wp.iconst dX11_lopsidedOf_61 ?_
              refine Wp.istore (ls' := [_, _, _, _, _, _, _, _, _]) dX11_lopsidedOf_62 (by decide) rfl ?_
              refine Wp.iload rfl dX11_lopsidedOf_64 ?_
              refine Wp.if_eq (tgt := 90) dX11_lopsidedOf_66 (by decide) (by first | omega | exact bI_R _ | exact cmp_R _ _ | assumption) (fun c66 => ?_) (fun c66 => ?_)
              · refine Wp.iinc (ls' := [_, _, _, _, _, _, _, _, _]) rfl dX11_lopsidedOf_90 (by decide) rfl ?_
                refine Wp.goto (tgt := 18) dX11_lopsidedOf_93 (by decide) ?_
                first | exact ih (k + 1) _ _ _ (by omega) (by omega) (lpT_t' h0 h1 c39 (by omega) c84) | exact ih (k + 1) _ _ _ (by omega) (by omega) (lpT_f' (fun q => q.2.2 c84.2.2)) | exact ih (k + 1) _ _ _ (by omega) (by omega) (lpT_f' (fun q => c39 ⟨by omega, by omega, q.1⟩)) | exact ih (k + 1) _ _ _ (by omega) (by omega) (lpT_f' (fun q => absurd q.2.1 (by omega))) | (exfalso; omega)
              · refine Wp.aload_n rfl dX11_lopsidedOf_69 ?_
                refine Wp.gr (kz := 2) rfl dX11_lopsidedOf_70 fkX11_26 (by first | rfl | exact kd_b0 _ | exact kd_b1 _ | exact kd_b2 _ | exact kd_b3 _ | exact kd_b4 _ | exact kd_b5 _ | exact kd_b6 _) (by omega) (by first | exact hFx _ 2 _ rfl | assumption | exact hBk.1 | exact hBk.2.1 | exact hBk.2.2.1 | exact hBk.2.2.2.1 | exact hBk.2.2.2.2.1 | exact hBk.2.2.2.2.2) ?_
                refine Wp.iload_n rfl dX11_lopsidedOf_73 ?_
                refine Wp.iload rfl dX11_lopsidedOf_74 ?_
                refine Wp.iload_n rfl dX11_lopsidedOf_76 ?_
                refine Wp.callV (As := [_, _, _]) (ls0 := [_, _, _, _, _]) (bd := (0, 0)) (bd' := (0, 0)) dX11_lopsidedOf_77 kmX8_given lkX11_183 (by decide) (by decide) (Nat.le_of_ble_eq_true rfl) (by first | rfl | exact kd_b0 _ | exact kd_b1 _ | exact kd_b2 _ | exact kd_b3 _ | exact kd_b4 _ | exact kd_b5 _ | exact kd_b6 _) (by omega) rfl rfl (Nat.le_of_ble_eq_true rfl) rfl ?_
                refine ct_X8_given hS (by omega) (by omega) (by omega) (by omega) ?_
                show Wp _ _ _ (_ :: _) _ _ _
                refine Wp.iload_n rfl dX11_lopsidedOf_80 ?_
                refine Wp.callS (As := [_, _]) (ls0 := [_, _, _]) (bd := (0, 0)) (bd' := (0, 0)) dX11_lopsidedOf_81 kmX11_has lkX11_200 (by decide) (by decide) (Nat.le_of_ble_eq_true rfl) rfl rfl (Nat.le_of_ble_eq_true rfl) rfl ?_
                refine ct_X11_has (by omega) ?_
                show Wp _ _ _ (_ :: _) _ _ _
                refine Wp.if_neB (tgt := 90) dX11_lopsidedOf_84 (by decide) (fun c84 => ?_) (fun c84 => ?_)
                · refine Wp.iinc (ls' := [_, _, _, _, _, _, _, _, _]) rfl dX11_lopsidedOf_90 (by decide) rfl ?_
                  refine Wp.goto (tgt := 18) dX11_lopsidedOf_93 (by decide) ?_
                  first | exact ih (k + 1) _ _ _ (by omega) (by omega) (lpT_t' h0 h1 c39 (by omega) c84) | exact ih (k + 1) _ _ _ (by omega) (by omega) (lpT_f' (fun q => q.2.2 c84.2.2)) | exact ih (k + 1) _ _ _ (by omega) (by omega) (lpT_f' (fun q => c39 ⟨by omega, by omega, q.1⟩)) | exact ih (k + 1) _ _ _ (by omega) (by omega) (lpT_f' (fun q => absurd q.2.1 (by omega))) | (exfalso; omega)
                · refine Wp.iinc (ls' := [_, _, _, _, _, _, _, _, _]) rfl dX11_lopsidedOf_87 (by decide) rfl ?_
                  refine Wp.iinc (ls' := [_, _, _, _, _, _, _, _, _]) rfl dX11_lopsidedOf_90 (by decide) rfl ?_
                  refine Wp.goto (tgt := 18) dX11_lopsidedOf_93 (by decide) ?_
                  first | exact ih (k + 1) _ _ _ (by omega) (by omega) (lpT_t' h0 h1 c39 (by omega) c84) | exact ih (k + 1) _ _ _ (by omega) (by omega) (lpT_f' (fun q => q.2.2 c84.2.2)) | exact ih (k + 1) _ _ _ (by omega) (by omega) (lpT_f' (fun q => c39 ⟨by omega, by omega, q.1⟩)) | exact ih (k + 1) _ _ _ (by omega) (by omega) (lpT_f' (fun q => absurd q.2.1 (by omega))) | (exfalso; omega)
            · refine Wp.iconst dX11_lopsidedOf_57 ?_
              refine Wp.goto (tgt := 62) dX11_lopsidedOf_58 (by decide) ?_
              refine Wp.istore (ls' := [_, _, _, _, _, _, _, _, _]) dX11_lopsidedOf_62 (by decide) rfl ?_
              refine Wp.iload rfl dX11_lopsidedOf_64 ?_
              refine Wp.if_eq (tgt := 90) dX11_lopsidedOf_66 (by decide) (by first | omega | exact bI_R _ | exact cmp_R _ _ | assumption) (fun c66 => ?_) (fun c66 => ?_)
              · refine Wp.iinc (ls' := [_, _, _, _, _, _, _, _, _]) rfl dX11_lopsidedOf_90 (by decide) rfl ?_
                refine Wp.goto (tgt := 18) dX11_lopsidedOf_93 (by decide) ?_
                first | exact ih (k + 1) _ _ _ (by omega) (by omega) (lpT_t' h0 h1 c39 (by omega) c84) | exact ih (k + 1) _ _ _ (by omega) (by omega) (lpT_f' (fun q => q.2.2 c84.2.2)) | exact ih (k + 1) _ _ _ (by omega) (by omega) (lpT_f' (fun q => c39 ⟨by omega, by omega, q.1⟩)) | exact ih (k + 1) _ _ _ (by omega) (by omega) (lpT_f' (fun q => absurd q.2.1 (by omega))) | (exfalso; omega)
              · refine Wp.aload_n rfl dX11_lopsidedOf_69 ?_
                refine Wp.gr (kz := 2) rfl dX11_lopsidedOf_70 fkX11_26 (by first | rfl | exact kd_b0 _ | exact kd_b1 _ | exact kd_b2 _ | exact kd_b3 _ | exact kd_b4 _ | exact kd_b5 _ | exact kd_b6 _) (by omega) (by first | exact hFx _ 2 _ rfl | assumption | exact hBk.1 | exact hBk.2.1 | exact hBk.2.2.1 | exact hBk.2.2.2.1 | exact hBk.2.2.2.2.1 | exact hBk.2.2.2.2.2) ?_
                refine Wp.iload_n rfl dX11_lopsidedOf_73 ?_
                refine Wp.iload rfl dX11_lopsidedOf_74 ?_
                refine Wp.iload_n rfl dX11_lopsidedOf_76 ?_
                refine Wp.callV (As := [_, _, _]) (ls0 := [_, _, _, _, _]) (bd := (0, 0)) (bd' := (0, 0)) dX11_lopsidedOf_77 kmX8_given lkX11_183 (by decide) (by decide) (Nat.le_of_ble_eq_true rfl) (by first | rfl | exact kd_b0 _ | exact kd_b1 _ | exact kd_b2 _ | exact kd_b3 _ | exact kd_b4 _ | exact kd_b5 _ | exact kd_b6 _) (by omega) rfl rfl (Nat.le_of_ble_eq_true rfl) rfl ?_
                refine ct_X8_given hS (by omega) (by omega) (by omega) (by omega) ?_
                show Wp _ _ _ (_ :: _) _ _ _
                refine Wp.iload_n rfl dX11_lopsidedOf_80 ?_
                refine Wp.callS (As := [_, _]) (ls0 := [_, _, _]) (bd := (0, 0)) (bd' := (0, 0)) dX11_lopsidedOf_81 kmX11_has lkX11_200 (by decide) (by decide) (Nat.le_of_ble_eq_true rfl) rfl rfl (Nat.le_of_ble_eq_true rfl) rfl ?_
                refine ct_X11_has (by omega) ?_
                show Wp _ _ _ (_ :: _) _ _ _
                refine Wp.if_neB (tgt := 90) dX11_lopsidedOf_84 (by decide) (fun c84 => ?_) (fun c84 => ?_)
                · refine Wp.iinc (ls' := [_, _, _, _, _, _, _, _, _]) rfl dX11_lopsidedOf_90 (by decide) rfl ?_
                  refine Wp.goto (tgt := 18) dX11_lopsidedOf_93 (by decide) ?_
                  first | exact ih (k + 1) _ _ _ (by omega) (by omega) (lpT_t' h0 h1 c39 (by omega) c84) | exact ih (k + 1) _ _ _ (by omega) (by omega) (lpT_f' (fun q => q.2.2 c84.2.2)) | exact ih (k + 1) _ _ _ (by omega) (by omega) (lpT_f' (fun q => c39 ⟨by omega, by omega, q.1⟩)) | exact ih (k + 1) _ _ _ (by omega) (by omega) (lpT_f' (fun q => absurd q.2.1 (by omega))) | (exfalso; omega)
                · refine Wp.iinc (ls' := [_, _, _, _, _, _, _, _, _]) rfl dX11_lopsidedOf_87 (by decide) rfl ?_
                  refine Wp.iinc (ls' := [_, _, _, _, _, _, _, _, _]) rfl dX11_lopsidedOf_90 (by decide) rfl ?_
                  refine Wp.goto (tgt := 18) dX11_lopsidedOf_93 (by decide) ?_
                  first | exact ih (k + 1) _ _ _ (by omega) (by omega) (lpT_t' h0 h1 c39 (by omega) c84) | exact ih (k + 1) _ _ _ (by omega) (by omega) (lpT_f' (fun q => q.2.2 c84.2.2)) | exact ih (k + 1) _ _ _ (by omega) (by omega) (lpT_f' (fun q => c39 ⟨by omega, by omega, q.1⟩)) | exact ih (k + 1) _ _ _ (by omega) (by omega) (lpT_f' (fun q => absurd q.2.1 (by omega))) | (exfalso; omega)
  refine Wp.aload_n rfl dX11_lopsidedOf_0 ?_
  refine Wp.gr (kz := 2) rfl dX11_lopsidedOf_1 fkX11_26 (by first | rfl | exact kd_b0 _ | exact kd_b1 _ | exact kd_b2 _ | exact kd_b3 _ | exact kd_b4 _ | exact kd_b5 _ | exact kd_b6 _) (by omega) (by first | exact hFx _ 2 _ rfl | assumption | exact hBk.1 | exact hBk.2.1 | exact hBk.2.2.1 | exact hBk.2.2.2.1 | exact hBk.2.2.2.2.1 | exact hBk.2.2.2.2.2) ?_
  refine Wp.iload_n rfl dX11_lopsidedOf_4 ?_
  refine Wp.iload_n rfl dX11_lopsidedOf_5 ?_
  refine Wp.iload_n rfl dX11_lopsidedOf_6 ?_
  refine Wp.callV (As := [_, _, _]) (ls0 := [_, _, _, _, _]) (bd := (0, 0)) (bd' := (0, 0)) dX11_lopsidedOf_7 kmX8_given lkX11_183 (by decide) (by decide) (Nat.le_of_ble_eq_true rfl) (by first | rfl | exact kd_b0 _ | exact kd_b1 _ | exact kd_b2 _ | exact kd_b3 _ | exact kd_b4 _ | exact kd_b5 _ | exact kd_b6 _) (by omega) rfl rfl (Nat.le_of_ble_eq_true rfl) rfl ?_
  refine ct_X8_given hS (by omega) (by omega) (by omega) (by omega) ?_
  show Wp _ _ _ (_ :: _) _ _ _
  refine Wp.lstore (ls' := [_, _, _, _, _, _, _, _, _]) dX11_lopsidedOf_10 (by decide) rfl ?_
  refine Wp.iconst dX11_lopsidedOf_12 ?_
  refine Wp.istore (ls' := [_, _, _, _, _, _, _, _, _]) dX11_lopsidedOf_13 (by decide) rfl ?_
  refine Wp.iconst dX11_lopsidedOf_15 ?_
  refine Wp.istore (ls' := [_, _, _, _, _, _, _, _, _]) dX11_lopsidedOf_16 (by decide) rfl ?_
  exact lp 60 0 _ _ _ (by omega) (by omega) rfl
theorem lpT_B (I : Nat → Int → Int) (lk a b w : Int) : ∀ k : Nat, 0 ≤ lpT I lk a b w k ∧ lpT I lk a b w k ≤ k
  | 0 => by simp [lpT]
  | k + 1 => by
    have h := lpT_B I lk a b w k
    simp only [lpT]; split <;> omega
theorem ct_X11_lopsided {a b : Int} (hS : ShR I L R n) (ha : inR a) (hb : inR b) (hq : Q (some (vi (aLop I 255 a b))) (I, L, R, n)) : Wp mX11_lopsided 0 [some (vr (some 0)), some (vi a), some (vi b), none, none] [] (I, L, R, n) (0, 0) Q := by
  have hn := hS.1
  unfold aLop at hq
  have lp : ∀ (hab : (tgP a ∧ tgP b) ∧ a ≠ b) , ∀ (tt k : Nat) (z : Int) (x : Int), k + tt = 60 → z = k → x = lpN I 255 a b k → Wp mX11_lopsided 32 [some (vr (some 0)), some (vi a), some (vi b), some (vi x), some (vi z)] [] (I, L, R, n) (0, 0) Q := by
    intro hab
    intro tt
    induction tt with
    | zero =>
      intro k z x hkt hz e0
      obtain rfl : k = 60 := by omega
      refine Wp.iload rfl dX11_lopsided_32 ?_
      refine Wp.bipush rfl dX11_lopsided_34 ?_
      refine Wp.icmp_ge (tgt := 56) dX11_lopsided_36 (by decide) (by first | omega | exact bI_R _ | exact cmp_R _ _ | assumption) (by first | omega | exact bI_R _ | exact cmp_R _ _ | assumption) (fun c36 => ?_) (fun c36 => ?_)
      · refine Wp.iload_n rfl dX11_lopsided_56 ?_
        refine Wp.ireturn dX11_lopsided_57 rfl ?_
        first | (exfalso; omega) | (rw [if_pos hab.1, if_neg hab.2] at hq; exact qI hq e0)
      · exfalso; omega
    | succ tt ih =>
      intro k z x hkt hz e0
      subst hz
      subst e0
      refine Wp.iload rfl dX11_lopsided_32 ?_
      refine Wp.bipush rfl dX11_lopsided_34 ?_
      refine Wp.icmp_ge (tgt := 56) dX11_lopsided_36 (by decide) (by first | omega | exact bI_R _ | exact cmp_R _ _ | assumption) (by first | omega | exact bI_R _ | exact cmp_R _ _ | assumption) (fun c36 => ?_) (fun c36 => ?_)
      · exfalso; omega
      · refine Wp.iload_n rfl dX11_lopsided_39 ?_
        refine Wp.aload_n rfl dX11_lopsided_40 ?_
        refine Wp.iload_n rfl dX11_lopsided_41 ?_
        refine Wp.iload rfl dX11_lopsided_42 ?_
        refine Wp.iload_n rfl dX11_lopsided_44 ?_
        refine Wp.callV (As := [_, _, _]) (ls0 := [_, _, _, _, _, _, _, _, _]) (bd := (0, 0)) (bd' := (0, 0)) dX11_lopsided_45 kmX11_lopsidedOf lkX11_212 (by decide) (by decide) (Nat.le_of_ble_eq_true rfl) (by first | rfl | exact kd_b0 _ | exact kd_b1 _ | exact kd_b2 _ | exact kd_b3 _ | exact kd_b4 _ | exact kd_b5 _ | exact kd_b6 _) (by omega) rfl rfl (Nat.le_of_ble_eq_true rfl) rfl ?_
        refine ct_X11_lopsidedOf hS (by omega) (by omega) (by omega) (by omega) ?_
        show Wp _ _ _ (_ :: _) _ _ _
        refine Wp.iadd dX11_lopsided_48 ?_
        refine Wp.istore_n (ls' := [_, _, _, _, _]) dX11_lopsided_49 (by decide) rfl ?_
        refine Wp.iinc (ls' := [_, _, _, _, _]) rfl dX11_lopsided_50 (by decide) rfl ?_
        refine Wp.goto (tgt := 32) dX11_lopsided_53 (by decide) ?_
        exact ih (k + 1) _ _ (by omega) (by omega) rfl
  refine Wp.iload_n rfl dX11_lopsided_0 ?_
  refine Wp.callS (As := [_]) (ls0 := [_]) (bd := (0, 0)) (bd' := (0, 0)) dX11_lopsided_1 kmX11_isTongue lkX11_94 (by decide) (by decide) (Nat.le_of_ble_eq_true rfl) rfl rfl (Nat.le_of_ble_eq_true rfl) rfl ?_
  refine ct_X11_isTongue (by omega) ?_
  show Wp _ _ _ (_ :: _) _ _ _
  refine Wp.if_eqB (tgt := 14) dX11_lopsided_4 (by decide) (fun c4 => ?_) (fun c4 => ?_)
  · refine Wp.sipush rfl dX11_lopsided_14 ?_
    refine Wp.ireturn dX11_lopsided_17 rfl ?_
    first | (exfalso; omega) | (exact qI hq (by (repeat' split) <;> first | (exfalso; omega) | rfl))
  · refine Wp.iload_n rfl dX11_lopsided_7 ?_
    refine Wp.callS (As := [_]) (ls0 := [_]) (bd := (0, 0)) (bd' := (0, 0)) dX11_lopsided_8 kmX11_isTongue lkX11_94 (by decide) (by decide) (Nat.le_of_ble_eq_true rfl) rfl rfl (Nat.le_of_ble_eq_true rfl) rfl ?_
    refine ct_X11_isTongue (by omega) ?_
    show Wp _ _ _ (_ :: _) _ _ _
    refine Wp.if_neB (tgt := 18) dX11_lopsided_11 (by decide) (fun c11 => ?_) (fun c11 => ?_)
    · refine Wp.iload_n rfl dX11_lopsided_18 ?_
      refine Wp.iload_n rfl dX11_lopsided_19 ?_
      refine Wp.icmp_ne (tgt := 27) dX11_lopsided_20 (by decide) (by first | omega | exact bI_R _ | exact cmp_R _ _ | assumption) (by first | omega | exact bI_R _ | exact cmp_R _ _ | assumption) (fun c20 => ?_) (fun c20 => ?_)
      · refine Wp.iconst dX11_lopsided_27 ?_
        refine Wp.istore_n (ls' := [_, _, _, _, _]) dX11_lopsided_28 (by decide) rfl ?_
        refine Wp.iconst dX11_lopsided_29 ?_
        refine Wp.istore (ls' := [_, _, _, _, _]) dX11_lopsided_30 (by decide) rfl ?_
        exact lp ⟨by omega, by omega⟩ 60 0 _ _ (by omega) (by omega) rfl
      · refine Wp.sipush rfl dX11_lopsided_23 ?_
        refine Wp.ireturn dX11_lopsided_26 rfl ?_
        first | (exfalso; omega) | (exact qI hq (by (repeat' split) <;> first | (exfalso; omega) | rfl))
    · refine Wp.sipush rfl dX11_lopsided_14 ?_
      refine Wp.ireturn dX11_lopsided_17 rfl ?_
      first | (exfalso; omega) | (exact qI hq (by (repeat' split) <;> first | (exfalso; omega) | rfl))
theorem snN_shf (kb : Int) : ∀ k : Nat, snN (shf I kb) 0 k = snN I kb k
  | 0 => rfl
  | k + 1 => by
    have e : shf I kb 36 (60 * 0 + k) = I 36 (60 * kb + k) := by show I 36 (60 * kb + (60 * 0 + k)) = _; congr 1; omega
    simp only [snN]; rw [snN_shf kb k, e]
theorem waN_shf (kb w : Int) : ∀ j : Nat, waN (shf I kb) w j = waN I (60 * kb + w) j
  | 0 => rfl
  | j + 1 => by
    have e : shf I kb 38 (3 * w + j) = I 38 (3 * (60 * kb + w) + j) := by show I 38 (180 * kb + (3 * w + j)) = _; congr 1; omega
    simp only [waN]; rw [waN_shf kb w j, e]
theorem agN_shf (kb s : Int) : ∀ j : Nat, agN (shf I kb) s j = agN I (180 * kb + s) j
  | 0 => rfl
  | j + 1 => by
    have e : shf I kb 40 (6 * s + j) = I 40 (6 * (180 * kb + s) + j) := by show I 40 (1080 * kb + (6 * s + j)) = _; congr 1; omega
    simp only [agN]; rw [agN_shf kb s j, e]
theorem aeN_shf (kb w : Int) : ∀ j : Nat, aeN (shf I kb) w j = aeN I (60 * kb + w) j
  | 0 => rfl
  | j + 1 => by
    have e : shf I kb 38 (3 * w + j) = I 38 (3 * (60 * kb + w) + j) := by show I 38 (180 * kb + (3 * w + j)) = _; congr 1; omega
    have e2 : 180 * kb + (3 * w + j) = 3 * (60 * kb + w) + j := by omega
    simp only [aeN]; rw [aeN_shf kb w j, e, agN_shf, e2]
theorem woN_shf (kb : Int) : ∀ k : Nat, woN (shf I kb) 0 k = woN I kb k
  | 0 => rfl
  | k + 1 => by
    have e : shf I kb 36 (60 * 0 + k) = I 36 (60 * kb + k) := by show I 36 (60 * kb + (60 * 0 + k)) = _; congr 1; omega
    simp only [woN]; rw [woN_shf kb k, e, waN_shf, show 60 * kb + (60 * 0 + (k : Int)) = 60 * kb + k by omega]
theorem aoN_shf (kb : Int) : ∀ k : Nat, aoN (shf I kb) 0 k = aoN I kb k
  | 0 => rfl
  | k + 1 => by
    have e : shf I kb 36 (60 * 0 + k) = I 36 (60 * kb + k) := by show I 36 (60 * kb + (60 * 0 + k)) = _; congr 1; omega
    simp only [aoN]; rw [aoN_shf kb k, e, aeN_shf, show 60 * kb + (60 * 0 + (k : Int)) = 60 * kb + k by omega]
theorem BR.en (hB : BR I L R n k) : ∀ j : Nat, j ≤ 60 → pcN (L (57 + 7 * k) 3) j = enN I k j
  | 0, _ => rfl
  | j + 1, hj => by
    simp only [pcN, enN]
    rw [BR.en hB j (by omega)]
    have h := hB.hd (w := j) (by omega) (by omega)
    rw [show ((j : Int)).toNat = j by omega] at h
    by_cases h2 : 0 < I 36 (60 * k + j)
    · rw [if_pos h2, if_pos (h.mpr h2)]
    · rw [if_neg h2, if_neg (fun q => h2 (h.mp q))]
theorem ct_X11_about {z what : Int} (hS : ShR I L R n) (hz : inR z) (hw : inR what) (hq : Q (some (vi (aAbout I z what))) (I, L, R, n)) : Wp mX11_about 0 [some (vr (some 0)), some (vi z), some (vi what), none] [] (I, L, R, n) (0, 0) Q := by
  have hn := hS.1
  have hFx := hS.2.1
  have hW := hS.2.2.1
  have hN1 := hW.2.1
  unfold aAbout aAb at hq
  refine Wp.aload_n rfl dX11_about_0 ?_
  refine Wp.gr (kz := 2) rfl dX11_about_1 fkX11_26 (by first | rfl | exact kd_b0 _ | exact kd_b1 _ | exact kd_b2 _ | exact kd_b3 _ | exact kd_b4 _ | exact kd_b5 _ | exact kd_b6 _) (by omega) (by first | exact hFx _ 2 _ rfl | assumption | exact hBk.1 | exact hBk.2.1 | exact hBk.2.2.1 | exact hBk.2.2.2.1 | exact hBk.2.2.2.2.1 | exact hBk.2.2.2.2.2) ?_
  refine Wp.iload_n rfl dX11_about_4 ?_
  refine Wp.callV (As := [_]) (ls0 := [_, _]) (bd := (0, 0)) (bd' := (0, 0)) dX11_about_5 kmX8_bookAt lkX11_118 (by decide) (by decide) (Nat.le_of_ble_eq_true rfl) (by first | rfl | exact kd_b0 _ | exact kd_b1 _ | exact kd_b2 _ | exact kd_b3 _ | exact kd_b4 _ | exact kd_b5 _ | exact kd_b6 _) (by omega) rfl rfl (Nat.le_of_ble_eq_true rfl) rfl ?_
  refine ct_X8_bookAt hS (by omega) ?_
  show Wp _ _ _ (_ :: _) _ _ _
  refine Wp.astore_n (ls' := [_, _, _, _]) dX11_about_8 (by decide) rfl ?_
  refine Wp.aload_n rfl dX11_about_9 ?_
  refine Wp.ifnonnull (tgt := 17) dX11_about_10 (by decide) (fun o10 c10 => ?_) (fun c10 => ?_)
  · obtain ⟨ho, hz0, hz1⟩ := bkA_s c10
    subst ho
    rw [c10]
    rw [if_pos ⟨hz0, hz1⟩] at hq
    have hB := hS.2.2.2.2.2.2 z.toNat (by omega)
    have hn7 := hB.2.2.1
    have b0 := hB.2.2.2.1
    have b1 := hB.2.2.2.2.1
    have b2 := hB.2.2.2.2.2.1
    have b3 := (pc_64 _ hB.2.2.2.2.2.2.2.1).trans (hB.en 60 (by omega))
    have b4 := hB.2.2.2.2.2.2.2.2.1
    rw [snN_shf, woN_shf, aoN_shf] at b4
    rw [show ((z.toNat : Nat) : Int) = z by omega] at b0 b1 b2 b3 b4
    refine Wp.iload_n rfl dX11_about_17 ?_
    rcases (show what < 0 ∨ 6 < what ∨ what = 0 ∨ what = 1 ∨ what = 2 ∨ what = 3 ∨ what = 4 ∨ what = 5 ∨ what = 6 by omega) with c18 | c18 | c18 | c18 | c18 | c18 | c18 | c18 | c18
    · refine Wp.tableOut (tgt := 98) dX11_about_18 (by first | omega | exact bI_R _ | exact cmp_R _ _ | assumption) (by omega) (by decide) ?_
      refine Wp.sipush rfl dX11_about_98 ?_
      refine Wp.ireturn dX11_about_101 rfl ?_
      first | (exfalso; omega) | (exact qI hq (by rw [if_neg (by omega), if_neg (by omega), if_neg (by omega), if_neg (by omega), if_neg (by omega), if_neg (by omega), if_neg (by omega)]))
    · refine Wp.tableOut (tgt := 98) dX11_about_18 (by first | omega | exact bI_R _ | exact cmp_R _ _ | assumption) (by omega) (by decide) ?_
      refine Wp.sipush rfl dX11_about_98 ?_
      refine Wp.ireturn dX11_about_101 rfl ?_
      first | (exfalso; omega) | (exact qI hq (by rw [if_neg (by omega), if_neg (by omega), if_neg (by omega), if_neg (by omega), if_neg (by omega), if_neg (by omega), if_neg (by omega)]))
    · subst c18
      refine Wp.tableIn (tgt := 60) dX11_about_18 (by omega) (by decide) (by decide) rfl (by decide) ?_
      refine Wp.aload_n rfl dX11_about_60 ?_
      refine Wp.gi (kz := 0) rfl dX11_about_61 fkX11_122 (by first | rfl | exact kd_b0 _ | exact kd_b1 _ | exact kd_b2 _ | exact kd_b3 _ | exact kd_b4 _ | exact kd_b5 _ | exact kd_b6 _) (by omega) ?_
      refine Wp.ireturn dX11_about_64 rfl ?_
      first | (exfalso; omega) | (exact qI hq b0)
    · subst c18
      refine Wp.tableIn (tgt := 65) dX11_about_18 (by omega) (by decide) (by decide) rfl (by decide) ?_
      refine Wp.aload_n rfl dX11_about_65 ?_
      refine Wp.gi (kz := 1) rfl dX11_about_66 fkX11_127 (by first | rfl | exact kd_b0 _ | exact kd_b1 _ | exact kd_b2 _ | exact kd_b3 _ | exact kd_b4 _ | exact kd_b5 _ | exact kd_b6 _) (by omega) ?_
      refine Wp.ireturn dX11_about_69 rfl ?_
      first | (exfalso; omega) | (exact qI hq b1)
    · subst c18
      refine Wp.tableIn (tgt := 70) dX11_about_18 (by omega) (by decide) (by decide) rfl (by decide) ?_
      refine Wp.aload_n rfl dX11_about_70 ?_
      refine Wp.gi (kz := 2) rfl dX11_about_71 fkX11_130 (by first | rfl | exact kd_b0 _ | exact kd_b1 _ | exact kd_b2 _ | exact kd_b3 _ | exact kd_b4 _ | exact kd_b5 _ | exact kd_b6 _) (by omega) ?_
      refine Wp.ireturn dX11_about_74 rfl ?_
      first | (exfalso; omega) | (exact qI hq b2)
    · subst c18
      refine Wp.tableIn (tgt := 75) dX11_about_18 (by omega) (by decide) (by decide) rfl (by decide) ?_
      refine Wp.aload_n rfl dX11_about_75 ?_
      refine Wp.gl (kz := 3) rfl dX11_about_76 fkX11_133 (by first | rfl | exact kd_b0 _ | exact kd_b1 _ | exact kd_b2 _ | exact kd_b3 _ | exact kd_b4 _ | exact kd_b5 _ | exact kd_b6 _) (by omega) ?_
      refine Wp.callS (As := [_]) (ls0 := [_, _]) (bd := (0, 0)) (bd' := (0, 0)) dX11_about_79 kmJ13_bitCount_95d88 lkX11_137 (by decide) (by decide) (Nat.le_of_ble_eq_true rfl) rfl rfl (Nat.le_of_ble_eq_true rfl) rfl ?_
      refine ct_J13 ?_
      show Wp _ _ _ (_ :: _) _ _ _
      refine Wp.ireturn dX11_about_82 rfl ?_
      first | (exfalso; omega) | (exact qI hq b3)
    · subst c18
      refine Wp.tableIn (tgt := 83) dX11_about_18 (by omega) (by decide) (by decide) rfl (by decide) ?_
      refine Wp.aload_n rfl dX11_about_83 ?_
      refine Wp.gi (kz := 4) rfl dX11_about_84 fkX11_143 (by first | rfl | exact kd_b0 _ | exact kd_b1 _ | exact kd_b2 _ | exact kd_b3 _ | exact kd_b4 _ | exact kd_b5 _ | exact kd_b6 _) (by omega) ?_
      refine Wp.ireturn dX11_about_87 rfl ?_
      first | (exfalso; omega) | (exact qI hq b4.1)
    · subst c18
      refine Wp.tableIn (tgt := 88) dX11_about_18 (by omega) (by decide) (by decide) rfl (by decide) ?_
      refine Wp.aload_n rfl dX11_about_88 ?_
      refine Wp.gi (kz := 5) rfl dX11_about_89 fkX11_146 (by first | rfl | exact kd_b0 _ | exact kd_b1 _ | exact kd_b2 _ | exact kd_b3 _ | exact kd_b4 _ | exact kd_b5 _ | exact kd_b6 _) (by omega) ?_
      refine Wp.ireturn dX11_about_92 rfl ?_
      first | (exfalso; omega) | (exact qI hq b4.2.1)
    · subst c18
      refine Wp.tableIn (tgt := 93) dX11_about_18 (by omega) (by decide) (by decide) rfl (by decide) ?_
      refine Wp.aload_n rfl dX11_about_93 ?_
      refine Wp.gi (kz := 6) rfl dX11_about_94 fkX11_149 (by first | rfl | exact kd_b0 _ | exact kd_b1 _ | exact kd_b2 _ | exact kd_b3 _ | exact kd_b4 _ | exact kd_b5 _ | exact kd_b6 _) (by omega) ?_
      refine Wp.ireturn dX11_about_97 rfl ?_
      first | (exfalso; omega) | (exact qI hq b4.2.2)
  · refine Wp.sipush rfl dX11_about_13 ?_
    refine Wp.ireturn dX11_about_16 rfl ?_
    first | (exfalso; omega) | (exact qI hq (by have := bkA_n c10; rw [if_neg (by omega)]))
theorem ct_X11_entry {a w b what : Int} (hS : ShR I L R n) (ha : inR a) (hw : inR w) (hb : inR b) (hwh : inR what) (hq : Q (some (vi (aEntry I 255 a w b what))) (I, L, R, n)) : Wp mX11_entry 0 [some (vr (some 0)), some (vi a), some (vi w), some (vi b), some (vi what), none, none, none] [] (I, L, R, n) (0, 0) Q := by
  have hn := hS.1
  have hFx := hS.2.1
  have hW := hS.2.2.1
  have hN1 := hW.2.1
  have hA := hW.2.2.2.2.1
  have s4 := hS.2.2.2.2.2.1
  have hB := lat_B I hW.1 255 a w b
  have hEq : ent I 255 a w b = if lat I 255 a w b < 0 then -1 else 60 * lat I 255 a w b + w := rfl
  unfold aEntry at hq
  refine Wp.iload_n rfl dX11_entry_0 ?_
  refine Wp.callS (As := [_]) (ls0 := [_]) (bd := (0, 0)) (bd' := (0, 0)) dX11_entry_1 kmX11_isTongue lkX11_94 (by decide) (by decide) (Nat.le_of_ble_eq_true rfl) rfl rfl (Nat.le_of_ble_eq_true rfl) rfl ?_
  refine ct_X11_isTongue (by omega) ?_
  show Wp _ _ _ (_ :: _) _ _ _
  refine Wp.if_eqB (tgt := 21) dX11_entry_4 (by decide) (fun c4 => ?_) (fun c4 => ?_)
  · refine Wp.sipush rfl dX11_entry_21 ?_
    refine Wp.ireturn dX11_entry_24 rfl ?_
    first | (exfalso; omega) | (exact qI hq (by rw [if_neg (by omega)]))
  · refine Wp.iload_n rfl dX11_entry_7 ?_
    refine Wp.callS (As := [_]) (ls0 := [_]) (bd := (0, 0)) (bd' := (0, 0)) dX11_entry_8 kmX11_isWord lkX11_162 (by decide) (by decide) (Nat.le_of_ble_eq_true rfl) rfl rfl (Nat.le_of_ble_eq_true rfl) rfl ?_
    refine ct_X11_isWord (by omega) ?_
    show Wp _ _ _ (_ :: _) _ _ _
    refine Wp.if_eqB (tgt := 21) dX11_entry_11 (by decide) (fun c11 => ?_) (fun c11 => ?_)
    · refine Wp.sipush rfl dX11_entry_21 ?_
      refine Wp.ireturn dX11_entry_24 rfl ?_
      first | (exfalso; omega) | (exact qI hq (by rw [if_neg (by omega)]))
    · refine Wp.iload_n rfl dX11_entry_14 ?_
      refine Wp.callS (As := [_]) (ls0 := [_]) (bd := (0, 0)) (bd' := (0, 0)) dX11_entry_15 kmX11_isTongue lkX11_94 (by decide) (by decide) (Nat.le_of_ble_eq_true rfl) rfl rfl (Nat.le_of_ble_eq_true rfl) rfl ?_
      refine ct_X11_isTongue (by omega) ?_
      show Wp _ _ _ (_ :: _) _ _ _
      refine Wp.if_neB (tgt := 25) dX11_entry_18 (by decide) (fun c18 => ?_) (fun c18 => ?_)
      · refine Wp.iload rfl dX11_entry_25 ?_
        refine Wp.if_lt (tgt := 37) dX11_entry_27 (by decide) (by first | omega | exact bI_R _ | exact cmp_R _ _ | assumption) (fun c27 => ?_) (fun c27 => ?_)
        · refine Wp.sipush rfl dX11_entry_37 ?_
          refine Wp.ireturn dX11_entry_40 rfl ?_
          first | (exfalso; omega) | (exact qI hq (by rw [if_pos (by omega), if_neg (by omega)]))
        · refine Wp.iload rfl dX11_entry_30 ?_
          refine Wp.bipush rfl dX11_entry_32 ?_
          refine Wp.icmp_lt (tgt := 41) dX11_entry_34 (by decide) (by first | omega | exact bI_R _ | exact cmp_R _ _ | assumption) (by first | omega | exact bI_R _ | exact cmp_R _ _ | assumption) (fun c34 => ?_) (fun c34 => ?_)
          · refine Wp.aload_n rfl dX11_entry_41 ?_
            refine Wp.gr (kz := 2) rfl dX11_entry_42 fkX11_26 (by first | rfl | exact kd_b0 _ | exact kd_b1 _ | exact kd_b2 _ | exact kd_b3 _ | exact kd_b4 _ | exact kd_b5 _ | exact kd_b6 _) (by omega) (by first | exact hFx _ 2 _ rfl | assumption | exact hBk.1 | exact hBk.2.1 | exact hBk.2.2.1 | exact hBk.2.2.2.1 | exact hBk.2.2.2.2.1 | exact hBk.2.2.2.2.2) ?_
            refine Wp.iload_n rfl dX11_entry_45 ?_
            refine Wp.iload_n rfl dX11_entry_46 ?_
            refine Wp.iload_n rfl dX11_entry_47 ?_
            refine Wp.callV (As := [_, _, _]) (ls0 := [_, _, _, _, _, _, _]) (bd := (0, 0)) (bd' := (0, 0)) dX11_entry_48 kmX8_latest lkX11_165 (by decide) (by decide) (Nat.le_of_ble_eq_true rfl) (by first | rfl | exact kd_b0 _ | exact kd_b1 _ | exact kd_b2 _ | exact kd_b3 _ | exact kd_b4 _ | exact kd_b5 _ | exact kd_b6 _) (by omega) rfl rfl (Nat.le_of_ble_eq_true rfl) rfl ?_
            refine ct_X8_latest hS (by omega) (by omega) (by omega) (by omega) ?_
            show Wp _ _ _ (_ :: _) _ _ _
            refine Wp.istore (ls' := [_, _, _, _, _, _, _, _]) dX11_entry_51 (by decide) rfl ?_
            refine Wp.aload_n rfl dX11_entry_53 ?_
            refine Wp.gr (kz := 2) rfl dX11_entry_54 fkX11_26 (by first | rfl | exact kd_b0 _ | exact kd_b1 _ | exact kd_b2 _ | exact kd_b3 _ | exact kd_b4 _ | exact kd_b5 _ | exact kd_b6 _) (by omega) (by first | exact hFx _ 2 _ rfl | assumption | exact hBk.1 | exact hBk.2.1 | exact hBk.2.2.1 | exact hBk.2.2.2.1 | exact hBk.2.2.2.2.1 | exact hBk.2.2.2.2.2) ?_
            refine Wp.iload rfl dX11_entry_57 ?_
            refine Wp.callV (As := [_]) (ls0 := [_, _]) (bd := (0, 0)) (bd' := (0, 0)) dX11_entry_59 kmX8_bookAt lkX11_118 (by decide) (by decide) (Nat.le_of_ble_eq_true rfl) (by first | rfl | exact kd_b0 _ | exact kd_b1 _ | exact kd_b2 _ | exact kd_b3 _ | exact kd_b4 _ | exact kd_b5 _ | exact kd_b6 _) (by omega) rfl rfl (Nat.le_of_ble_eq_true rfl) rfl ?_
            refine ct_X8_bookAt hS (by omega) ?_
            show Wp _ _ _ (_ :: _) _ _ _
            refine Wp.astore (ls' := [_, _, _, _, _, _, _, _]) dX11_entry_62 (by decide) rfl ?_
            refine Wp.aload rfl dX11_entry_64 ?_
            refine Wp.ifnonnull (tgt := 71) dX11_entry_66 (by decide) (fun o66 c66 => ?_) (fun c66 => ?_)
            · obtain ⟨ho, hz0, hz1⟩ := bkA_s c66
              subst ho
              rw [c66]
              have hBB := hS.2.2.2.2.2.2 (lat I 255 a w b).toNat (by omega)
              have hn7 := hBB.2.2.1
              have eL : (((lat I 255 a w b).toNat : Nat) : Int) = lat I 255 a w b := by omega
              have hkb : (((lat I 255 a w b).toNat : Nat) : Int) < I 32 0 := by omega
              have hsn := hBB.sn (w := w) (by omega) (by omega)
              have he := hW.e (z := lat I 255 a w b) (w := w) (by omega) hz1 (by omega) (by omega)
              rw [if_neg (by omega)] at hEq
              rw [eL] at hsn
              rw [if_pos (by omega), if_pos (by omega), if_neg (by omega), hEq] at hq
              refine Wp.iload rfl dX11_entry_71 ?_
              refine Wp.if_ne (tgt := 79) dX11_entry_73 (by decide) (by first | omega | exact bI_R _ | exact cmp_R _ _ | assumption) (fun c73 => ?_) (fun c73 => ?_)
              · refine Wp.iload rfl dX11_entry_79 ?_
                refine Wp.iconst dX11_entry_81 ?_
                refine Wp.icmp_ne (tgt := 92) dX11_entry_82 (by decide) (by first | omega | exact bI_R _ | exact cmp_R _ _ | assumption) (by first | omega | exact bI_R _ | exact cmp_R _ _ | assumption) (fun c82 => ?_) (fun c82 => ?_)
                · refine Wp.iload rfl dX11_entry_92 ?_
                  refine Wp.iconst dX11_entry_94 ?_
                  refine Wp.icmp_ge (tgt := 109) dX11_entry_95 (by decide) (by first | omega | exact bI_R _ | exact cmp_R _ _ | assumption) (by first | omega | exact bI_R _ | exact cmp_R _ _ | assumption) (fun c95 => ?_) (fun c95 => ?_)
                  · refine Wp.iload rfl dX11_entry_109 ?_
                    refine Wp.iconst dX11_entry_111 ?_
                    refine Wp.isub dX11_entry_112 ?_
                    refine Wp.iconst dX11_entry_113 ?_
                    refine Wp.isub dX11_entry_114 ?_
                    refine Wp.istore (ls' := [_, _, _, _, _, _, _, _]) dX11_entry_115 (by decide) rfl ?_
                    refine Wp.iload rfl dX11_entry_117 ?_
                    refine Wp.aload rfl dX11_entry_119 ?_
                    refine Wp.iload_n rfl dX11_entry_121 ?_
                    refine Wp.callV (As := [_]) (ls0 := [_, _]) (bd := (0, 0)) (bd' := (0, 0)) dX11_entry_122 kmX0_sensesOf lkX11_169 (by decide) (by decide) (Nat.le_of_ble_eq_true rfl) (by first | rfl | exact kd_b0 _ | exact kd_b1 _ | exact kd_b2 _ | exact kd_b3 _ | exact kd_b4 _ | exact kd_b5 _ | exact kd_b6 _) (by omega) rfl rfl (Nat.le_of_ble_eq_true rfl) rfl ?_
                    refine ct_X0_sensesOf hn7 hBB.2.1 (by omega) ?_
                    rw [show snsOf I (lat I 255 a w b).toNat w = I 36 (60 * lat I 255 a w b + w) from (if_pos ⟨by omega, by omega⟩).trans hsn]
                    show Wp _ _ _ (_ :: _) _ _ _
                    refine Wp.icmp_ge (tgt := 149) dX11_entry_125 (by decide) (by first | omega | exact bI_R _ | exact cmp_R _ _ | assumption) (by first | omega | exact bI_R _ | exact cmp_R _ _ | assumption) (fun c125 => ?_) (fun c125 => ?_)
                    · refine Wp.iconst dX11_entry_149 ?_
                      refine Wp.ireturn dX11_entry_150 rfl ?_
                      first | (exfalso; omega) | (first | exact qI hq (by rw [if_neg (by omega), if_neg (by omega), if_neg (by omega), if_neg (by omega)]) | exact qI hq (by rw [if_neg (by omega), if_neg (by omega), if_neg (by omega), if_pos (by omega), pc_64 _ h60]; unfold sst; rw [if_pos (by omega), show what - 2 - 3 = what - 5 by omega]))
                    · refine Wp.aload rfl dX11_entry_128 ?_
                      refine Wp.iload_n rfl dX11_entry_130 ?_
                      refine Wp.iload rfl dX11_entry_131 ?_
                      refine Wp.aload_n rfl dX11_entry_133 ?_
                      refine Wp.gr (kz := 2) rfl dX11_entry_134 fkX11_26 (by first | rfl | exact kd_b0 _ | exact kd_b1 _ | exact kd_b2 _ | exact kd_b3 _ | exact kd_b4 _ | exact kd_b5 _ | exact kd_b6 _) (by omega) (by first | exact hFx _ 2 _ rfl | assumption | exact hBk.1 | exact hBk.2.1 | exact hBk.2.2.1 | exact hBk.2.2.2.1 | exact hBk.2.2.2.2.1 | exact hBk.2.2.2.2.2) ?_
                      refine Wp.gi (kz := 4) rfl dX11_entry_137 fkX11_155 (by first | rfl | exact kd_b0 _ | exact kd_b1 _ | exact kd_b2 _ | exact kd_b3 _ | exact kd_b4 _ | exact kd_b5 _ | exact kd_b6 _) (by omega) ?_
                      refine Wp.callV (As := [_, _, _]) (ls0 := [_, _, _, _, _]) (bd := (0, 0)) (bd' := (0, 0)) dX11_entry_140 kmX0_senseSet lkX11_177 (by decide) (by decide) (Nat.le_of_ble_eq_true rfl) (by first | rfl | exact kd_b0 _ | exact kd_b1 _ | exact kd_b2 _ | exact kd_b3 _ | exact kd_b4 _ | exact kd_b5 _ | exact kd_b6 _) (by omega) rfl rfl (Nat.le_of_ble_eq_true rfl) rfl ?_
                      refine ct_sst hBB hW hkb (by omega) (by omega) (by omega) (by omega) ?_
                      rw [eL, s4]
                      show Wp _ _ _ (_ :: _) _ _ _
                      have h60 : ∀ i : Nat, 60 ≤ i → (sst I (I 32 10) (60 * lat I 255 a w b + w) (what - 2 - 3)).getLsbD i = false := by
                        unfold sst
                        split
                        · exact ss60 ((hW.eok (by omega) hz1 (by omega) (by omega)).2 _ (by omega) (by omega))
                        · exact zero60
                      refine Wp.callS (As := [_]) (ls0 := [_, _]) (bd := (0, 0)) (bd' := (0, 0)) dX11_entry_143 kmJ13_bitCount_95d88 lkX11_137 (by decide) (by decide) (Nat.le_of_ble_eq_true rfl) rfl rfl (Nat.le_of_ble_eq_true rfl) rfl ?_
                      refine ct_J13 ?_
                      show Wp _ _ _ (_ :: _) _ _ _
                      refine Wp.goto (tgt := 150) dX11_entry_146 (by decide) ?_
                      refine Wp.ireturn dX11_entry_150 rfl ?_
                      first | (exfalso; omega) | (first | exact qI hq (by rw [if_neg (by omega), if_neg (by omega), if_neg (by omega), if_neg (by omega)]) | exact qI hq (by rw [if_neg (by omega), if_neg (by omega), if_neg (by omega), if_pos (by omega), pc_64 _ h60]; unfold sst; rw [if_pos (by omega), show what - 2 - 3 = what - 5 by omega]))
                  · refine Wp.aload rfl dX11_entry_98 ?_
                    refine Wp.iload_n rfl dX11_entry_100 ?_
                    refine Wp.iload rfl dX11_entry_101 ?_
                    refine Wp.iconst dX11_entry_103 ?_
                    refine Wp.isub dX11_entry_104 ?_
                    refine Wp.callV (As := [_, _]) (ls0 := [_, _, _, _]) (bd := (0, 0)) (bd' := (0, 0)) dX11_entry_105 kmX0_fieldOf lkX11_173 (by decide) (by decide) (Nat.le_of_ble_eq_true rfl) (by first | rfl | exact kd_b0 _ | exact kd_b1 _ | exact kd_b2 _ | exact kd_b3 _ | exact kd_b4 _ | exact kd_b5 _ | exact kd_b6 _) (by omega) rfl rfl (Nat.le_of_ble_eq_true rfl) rfl ?_
                    refine ct_fst hBB hW hkb (by omega) (by omega) (by omega) ?_
                    rw [eL]
                    show Wp _ _ _ (_ :: _) _ _ _
                    refine Wp.ireturn dX11_entry_108 rfl ?_
                    first | (exfalso; omega) | (exact qI hq (by rw [if_neg (by omega), if_neg (by omega), if_pos (by omega)]; unfold fst'; by_cases hf : what - 2 < I 36 (60 * lat I 255 a w b + w) <;> first | rw [if_pos hf, if_pos (by omega)] | rw [if_neg hf, if_neg (by omega)]))
                · refine Wp.aload rfl dX11_entry_85 ?_
                  refine Wp.iload_n rfl dX11_entry_87 ?_
                  refine Wp.callV (As := [_]) (ls0 := [_, _]) (bd := (0, 0)) (bd' := (0, 0)) dX11_entry_88 kmX0_sensesOf lkX11_169 (by decide) (by decide) (Nat.le_of_ble_eq_true rfl) (by first | rfl | exact kd_b0 _ | exact kd_b1 _ | exact kd_b2 _ | exact kd_b3 _ | exact kd_b4 _ | exact kd_b5 _ | exact kd_b6 _) (by omega) rfl rfl (Nat.le_of_ble_eq_true rfl) rfl ?_
                  refine ct_X0_sensesOf hn7 hBB.2.1 (by omega) ?_
                  rw [show snsOf I (lat I 255 a w b).toNat w = I 36 (60 * lat I 255 a w b + w) from (if_pos ⟨by omega, by omega⟩).trans hsn]
                  show Wp _ _ _ (_ :: _) _ _ _
                  refine Wp.ireturn dX11_entry_91 rfl ?_
                  first | (exfalso; omega) | (exact qI hq (by rw [if_neg (by omega), if_pos (by omega)]))
              · refine Wp.iload rfl dX11_entry_76 ?_
                refine Wp.ireturn dX11_entry_78 rfl ?_
                first | (exfalso; omega) | (exact qI hq (by rw [if_pos (by omega)]))
            · refine Wp.iconst dX11_entry_69 ?_
              refine Wp.ireturn dX11_entry_70 rfl ?_
              first | (exfalso; omega) | (exact qI hq (by have := bkA_n c66; rw [if_pos (by omega), if_pos (by omega), if_pos (by omega)]))
          · refine Wp.sipush rfl dX11_entry_37 ?_
            refine Wp.ireturn dX11_entry_40 rfl ?_
            first | (exfalso; omega) | (exact qI hq (by rw [if_pos (by omega), if_neg (by omega)]))
      · refine Wp.sipush rfl dX11_entry_21 ?_
        refine Wp.ireturn dX11_entry_24 rfl ?_
        first | (exfalso; omega) | (exact qI hq (by rw [if_neg (by omega)]))
end

