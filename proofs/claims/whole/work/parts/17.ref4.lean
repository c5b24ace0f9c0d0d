/-! ===== the reference: promises 9 to 13, 15 ===== -/
abbrev tgP (a : Int) : Prop := 0 ≤ a ∧ a ≤ 3
abbrev wdP (w : Int) : Prop := 0 ≤ w ∧ w ≤ 59
def aGives (I : Nat → Int → Int) (lk a w b : Int) : BitVec 64 := if tgP a ∧ wdP w ∧ tgP b then gv I lk a w b else 18446744073709550615#64
def aGivenBy (I : Nat → Int → Int) (lk a b t : Int) : BitVec 64 := if tgP a ∧ tgP b ∧ wdP t then gbN I lk a b t 60 else 18446744073709550615#64
/-- there and back -/
def tb (I : Nat → Int → Int) (lk a w b : Int) : BitVec 64 := gaN I lk b (gv I lk a w b) a 60
def aReturns (I : Nat → Int → Int) (lk a w b : Int) : Int := if tgP a ∧ wdP w ∧ tgP b then (if a = b then -1002 else if (tb I lk a w b).getLsbD w.toNat = true then 1 else 0) else -1001
def aBack (I : Nat → Int → Int) (lk a w b : Int) : BitVec 64 := if tgP a ∧ wdP w ∧ tgP b then (if a = b then 18446744073709550614#64 else tb I lk a w b &&& (1#64 <<< w.toNat ^^^ 18446744073709551615#64)) else 18446744073709550615#64
def aEntry (I : Nat → Int → Int) (lk a w b what : Int) : Int :=
  if tgP a ∧ wdP w ∧ tgP b then
    if 0 ≤ what ∧ what ≤ 7 then
      if lat I lk a w b < 0 then -1
      else if what = 0 then lat I lk a w b
      else if what = 1 then I 36 (ent I lk a w b)
      else if what < 5 then (if what - 2 < I 36 (ent I lk a w b) then I 37 (3 * ent I lk a w b + (what - 2)) else -1)
      else (if what - 5 < I 36 (ent I lk a w b) then pcN (ss I (I 32 10) (3 * ent I lk a w b + (what - 5))) 60 else -1)
    else -1002
  else -1001
section
variable {I : Nat → Int → Int} {L : Nat → Int → BitVec 64} {R : Nat → Int → Option Nat} {n : Nat} {m : Mm} {Q : Option AV → Mm → Prop}
theorem ct_X12_gives {a w b : Int} (hn : 57 ≤ n) (hFx : Fx R) (hW : RW I) (ha : inR a) (hw : inR w) (hb : inR b) (hq : Q (some (vl (aGives I (I 32 11) a w b))) (I, L, R, n)) : Wp mX12_gives 0 [some (vr (some 32)), some (vi a), some (vi w), some (vi b)] [] (I, L, R, n) (0, 0) Q := by
  refine Wp.iload_n rfl dX12_gives_0 ?_
  refine Wp.callS (As := [_]) (ls0 := [_]) (bd := (0, 0)) (bd' := (0, 0)) dX12_gives_1 kmX12_isTongue lkX12_147 (by decide) (by decide) (Nat.le_of_ble_eq_true rfl) rfl rfl (Nat.le_of_ble_eq_true rfl) rfl ?_
  refine ct_X12_isTongue (by omega) ?_
  show Wp _ _ _ (_ :: _) _ _ _
  refine Wp.if_eqB (tgt := 31) dX12_gives_4 (by decide) (fun c4 => ?_) (fun c4 => ?_)
  · refine Wp.ldc2_w (b := 18446744073709550615#64) ckX12_195 rfl dX12_gives_31 ?_
    refine Wp.lreturn dX12_gives_34 rfl ?_
    first | (exfalso; omega) | (exact qL hq (by unfold aGives; split <;> first | rfl | (exfalso; omega)))
  · refine Wp.iload_n rfl dX12_gives_7 ?_
    refine Wp.callS (As := [_]) (ls0 := [_]) (bd := (0, 0)) (bd' := (0, 0)) dX12_gives_8 kmX12_isWord lkX12_182 (by decide) (by decide) (Nat.le_of_ble_eq_true rfl) rfl rfl (Nat.le_of_ble_eq_true rfl) rfl ?_
    refine ct_X12_isWord (by omega) ?_
    show Wp _ _ _ (_ :: _) _ _ _
    refine Wp.if_eqB (tgt := 31) dX12_gives_11 (by decide) (fun c11 => ?_) (fun c11 => ?_)
    · refine Wp.ldc2_w (b := 18446744073709550615#64) ckX12_195 rfl dX12_gives_31 ?_
      refine Wp.lreturn dX12_gives_34 rfl ?_
      first | (exfalso; omega) | (exact qL hq (by unfold aGives; split <;> first | rfl | (exfalso; omega)))
    · refine Wp.iload_n rfl dX12_gives_14 ?_
      refine Wp.callS (As := [_]) (ls0 := [_]) (bd := (0, 0)) (bd' := (0, 0)) dX12_gives_15 kmX12_isTongue lkX12_147 (by decide) (by decide) (Nat.le_of_ble_eq_true rfl) rfl rfl (Nat.le_of_ble_eq_true rfl) rfl ?_
      refine ct_X12_isTongue (by omega) ?_
      show Wp _ _ _ (_ :: _) _ _ _
      refine Wp.if_eqB (tgt := 31) dX12_gives_18 (by decide) (fun c18 => ?_) (fun c18 => ?_)
      · refine Wp.ldc2_w (b := 18446744073709550615#64) ckX12_195 rfl dX12_gives_31 ?_
        refine Wp.lreturn dX12_gives_34 rfl ?_
        first | (exfalso; omega) | (exact qL hq (by unfold aGives; split <;> first | rfl | (exfalso; omega)))
      · refine Wp.aload_n rfl dX12_gives_21 ?_
        refine Wp.iload_n rfl dX12_gives_22 ?_
        refine Wp.iload_n rfl dX12_gives_23 ?_
        refine Wp.iload_n rfl dX12_gives_24 ?_
        refine Wp.callV (As := [_, _, _]) (ls0 := [_, _, _, _, _, _, _, _]) (bd := (0, 0)) (bd' := (0, 0)) dX12_gives_25 kmX12_giving lkX12_191 (by decide) (by decide) (Nat.le_of_ble_eq_true rfl) (by first | rfl | exact kd_b0 _ | exact kd_b1 _ | exact kd_b2 _ | exact kd_b3 _ | exact kd_b4 _ | exact kd_b5 _ | exact kd_b6 _) (by omega) rfl rfl (Nat.le_of_ble_eq_true rfl) rfl ?_
        refine ct_X12_giving hn hFx hW (by omega) (by omega) (by omega) (by omega) ?_
        show Wp _ _ _ (_ :: _) _ _ _
        refine Wp.goto (tgt := 34) dX12_gives_28 (by decide) ?_
        refine Wp.lreturn dX12_gives_34 rfl ?_
        first | (exfalso; omega) | (exact qL hq (by unfold aGives; split <;> first | rfl | (exfalso; omega)))
theorem ct_X12_givenBy {a b t : Int} (hn : 57 ≤ n) (hFx : Fx R) (hW : RW I) (ha : inR a) (hb : inR b) (ht : inR t) (hq : Q (some (vl (aGivenBy I (I 32 11) a b t))) (I, L, R, n)) : Wp mX12_givenBy 0 [some (vr (some 32)), some (vi a), some (vi b), some (vi t)] [] (I, L, R, n) (0, 0) Q := by
  refine Wp.iload_n rfl dX12_givenBy_0 ?_
  refine Wp.callS (As := [_]) (ls0 := [_]) (bd := (0, 0)) (bd' := (0, 0)) dX12_givenBy_1 kmX12_isTongue lkX12_147 (by decide) (by decide) (Nat.le_of_ble_eq_true rfl) rfl rfl (Nat.le_of_ble_eq_true rfl) rfl ?_
  refine ct_X12_isTongue (by omega) ?_
  show Wp _ _ _ (_ :: _) _ _ _
  refine Wp.if_eqB (tgt := 31) dX12_givenBy_4 (by decide) (fun c4 => ?_) (fun c4 => ?_)
  · refine Wp.ldc2_w (b := 18446744073709550615#64) ckX12_195 rfl dX12_givenBy_31 ?_
    refine Wp.lreturn dX12_givenBy_34 rfl ?_
    first | (exfalso; omega) | (exact qL hq (by unfold aGivenBy; split <;> first | rfl | (exfalso; omega)))
  · refine Wp.iload_n rfl dX12_givenBy_7 ?_
    refine Wp.callS (As := [_]) (ls0 := [_]) (bd := (0, 0)) (bd' := (0, 0)) dX12_givenBy_8 kmX12_isTongue lkX12_147 (by decide) (by decide) (Nat.le_of_ble_eq_true rfl) rfl rfl (Nat.le_of_ble_eq_true rfl) rfl ?_
    refine ct_X12_isTongue (by omega) ?_
    show Wp _ _ _ (_ :: _) _ _ _
    refine Wp.if_eqB (tgt := 31) dX12_givenBy_11 (by decide) (fun c11 => ?_) (fun c11 => ?_)
    · refine Wp.ldc2_w (b := 18446744073709550615#64) ckX12_195 rfl dX12_givenBy_31 ?_
      refine Wp.lreturn dX12_givenBy_34 rfl ?_
      first | (exfalso; omega) | (exact qL hq (by unfold aGivenBy; split <;> first | rfl | (exfalso; omega)))
    · refine Wp.iload_n rfl dX12_givenBy_14 ?_
      refine Wp.callS (As := [_]) (ls0 := [_]) (bd := (0, 0)) (bd' := (0, 0)) dX12_givenBy_15 kmX12_isWord lkX12_182 (by decide) (by decide) (Nat.le_of_ble_eq_true rfl) rfl rfl (Nat.le_of_ble_eq_true rfl) rfl ?_
      refine ct_X12_isWord (by omega) ?_
      show Wp _ _ _ (_ :: _) _ _ _
      refine Wp.if_eqB (tgt := 31) dX12_givenBy_18 (by decide) (fun c18 => ?_) (fun c18 => ?_)
      · refine Wp.ldc2_w (b := 18446744073709550615#64) ckX12_195 rfl dX12_givenBy_31 ?_
        refine Wp.lreturn dX12_givenBy_34 rfl ?_
        first | (exfalso; omega) | (exact qL hq (by unfold aGivenBy; split <;> first | rfl | (exfalso; omega)))
      · refine Wp.aload_n rfl dX12_givenBy_21 ?_
        refine Wp.iload_n rfl dX12_givenBy_22 ?_
        refine Wp.iload_n rfl dX12_givenBy_23 ?_
        refine Wp.iload_n rfl dX12_givenBy_24 ?_
        refine Wp.callV (As := [_, _, _]) (ls0 := [_, _, _, _, _, _, _]) (bd := (0, 0)) (bd' := (0, 0)) dX12_givenBy_25 kmX12_givenByOf lkX12_197 (by decide) (by decide) (Nat.le_of_ble_eq_true rfl) (by first | rfl | exact kd_b0 _ | exact kd_b1 _ | exact kd_b2 _ | exact kd_b3 _ | exact kd_b4 _ | exact kd_b5 _ | exact kd_b6 _) (by omega) rfl rfl (Nat.le_of_ble_eq_true rfl) rfl ?_
        refine ct_X12_givenByOf hn hFx hW (by omega) (by omega) (by omega) (by omega) ?_
        show Wp _ _ _ (_ :: _) _ _ _
        refine Wp.goto (tgt := 34) dX12_givenBy_28 (by decide) ?_
        refine Wp.lreturn dX12_givenBy_34 rfl ?_
        first | (exfalso; omega) | (exact qL hq (by unfold aGivenBy; split <;> first | rfl | (exfalso; omega)))
theorem ct_X12_returns {a w b : Int} (hn : 57 ≤ n) (hFx : Fx R) (hW : RW I) (ha : inR a) (hw : inR w) (hb : inR b) (hq : Q (some (vi (aReturns I (I 32 11) a w b))) (I, L, R, n)) : Wp mX12_returns 0 [some (vr (some 32)), some (vi a), some (vi w), some (vi b)] [] (I, L, R, n) (0, 0) Q := by
  refine Wp.iload_n rfl dX12_returns_0 ?_
  refine Wp.callS (As := [_]) (ls0 := [_]) (bd := (0, 0)) (bd' := (0, 0)) dX12_returns_1 kmX12_isTongue lkX12_147 (by decide) (by decide) (Nat.le_of_ble_eq_true rfl) rfl rfl (Nat.le_of_ble_eq_true rfl) rfl ?_
  refine ct_X12_isTongue (by omega) ?_
  show Wp _ _ _ (_ :: _) _ _ _
  refine Wp.if_eqB (tgt := 21) dX12_returns_4 (by decide) (fun c4 => ?_) (fun c4 => ?_)
  · refine Wp.sipush rfl dX12_returns_21 ?_
    refine Wp.ireturn dX12_returns_24 rfl ?_
    first | (exfalso; omega) | (exact qI hq (by unfold aReturns; (repeat' split) <;> first | rfl | (exfalso; omega) | (rw [b_sI _ (by omega)]; unfold tb at *; simp_all)))
  · refine Wp.iload_n rfl dX12_returns_7 ?_
    refine Wp.callS (As := [_]) (ls0 := [_]) (bd := (0, 0)) (bd' := (0, 0)) dX12_returns_8 kmX12_isWord lkX12_182 (by decide) (by decide) (Nat.le_of_ble_eq_true rfl) rfl rfl (Nat.le_of_ble_eq_true rfl) rfl ?_
    refine ct_X12_isWord (by omega) ?_
    show Wp _ _ _ (_ :: _) _ _ _
    refine Wp.if_eqB (tgt := 21) dX12_returns_11 (by decide) (fun c11 => ?_) (fun c11 => ?_)
    · refine Wp.sipush rfl dX12_returns_21 ?_
      refine Wp.ireturn dX12_returns_24 rfl ?_
      first | (exfalso; omega) | (exact qI hq (by unfold aReturns; (repeat' split) <;> first | rfl | (exfalso; omega) | (rw [b_sI _ (by omega)]; unfold tb at *; simp_all)))
    · refine Wp.iload_n rfl dX12_returns_14 ?_
      refine Wp.callS (As := [_]) (ls0 := [_]) (bd := (0, 0)) (bd' := (0, 0)) dX12_returns_15 kmX12_isTongue lkX12_147 (by decide) (by decide) (Nat.le_of_ble_eq_true rfl) rfl rfl (Nat.le_of_ble_eq_true rfl) rfl ?_
      refine ct_X12_isTongue (by omega) ?_
      show Wp _ _ _ (_ :: _) _ _ _
      refine Wp.if_neB (tgt := 25) dX12_returns_18 (by decide) (fun c18 => ?_) (fun c18 => ?_)
      · refine Wp.iload_n rfl dX12_returns_25 ?_
        refine Wp.iload_n rfl dX12_returns_26 ?_
        refine Wp.icmp_ne (tgt := 36) dX12_returns_27 (by decide) (by first | omega | exact bI_R _ | exact cmp_R _ _ | assumption) (by first | omega | exact bI_R _ | exact cmp_R _ _ | assumption) (fun c27 => ?_) (fun c27 => ?_)
        · refine Wp.aload_n rfl dX12_returns_36 ?_
          refine Wp.iload_n rfl dX12_returns_37 ?_
          refine Wp.aload_n rfl dX12_returns_38 ?_
          refine Wp.iload_n rfl dX12_returns_39 ?_
          refine Wp.iload_n rfl dX12_returns_40 ?_
          refine Wp.iload_n rfl dX12_returns_41 ?_
          refine Wp.callV (As := [_, _, _]) (ls0 := [_, _, _, _, _, _, _, _]) (bd := (0, 0)) (bd' := (0, 0)) dX12_returns_42 kmX12_giving lkX12_191 (by decide) (by decide) (Nat.le_of_ble_eq_true rfl) (by first | rfl | exact kd_b0 _ | exact kd_b1 _ | exact kd_b2 _ | exact kd_b3 _ | exact kd_b4 _ | exact kd_b5 _ | exact kd_b6 _) (by omega) rfl rfl (Nat.le_of_ble_eq_true rfl) rfl ?_
          refine ct_X12_giving hn hFx hW (by omega) (by omega) (by omega) (by omega) ?_
          show Wp _ _ _ (_ :: _) _ _ _
          refine Wp.iload_n rfl dX12_returns_45 ?_
          refine Wp.callV (As := [_, _, _]) (ls0 := [_, _, _, _, _, _, _, _]) (bd := (0, 0)) (bd' := (0, 0)) dX12_returns_46 kmX12_givingAll lkX12_200 (by decide) (by decide) (Nat.le_of_ble_eq_true rfl) (by first | rfl | exact kd_b0 _ | exact kd_b1 _ | exact kd_b2 _ | exact kd_b3 _ | exact kd_b4 _ | exact kd_b5 _ | exact kd_b6 _) (by omega) rfl rfl (Nat.le_of_ble_eq_true rfl) rfl ?_
          refine ct_X12_givingAll hn hFx hW (by omega) (by omega) ?_
          show Wp _ _ _ (_ :: _) _ _ _
          refine Wp.iload_n rfl dX12_returns_49 ?_
          refine Wp.lshr (by omega) (by omega) dX12_returns_50 ?_
          refine Wp.lconst1 dX12_returns_51 ?_
          refine Wp.land dX12_returns_52 ?_
          refine Wp.l2i dX12_returns_53 ?_
          refine Wp.ireturn dX12_returns_54 rfl ?_
          first | (exfalso; omega) | (exact qI hq (by unfold aReturns; (repeat' split) <;> first | rfl | (exfalso; omega) | (rw [b_sI _ (by omega)]; unfold tb at *; simp_all)))
        · refine Wp.sipush rfl dX12_returns_30 ?_
          refine Wp.goto (tgt := 54) dX12_returns_33 (by decide) ?_
          refine Wp.ireturn dX12_returns_54 rfl ?_
          first | (exfalso; omega) | (exact qI hq (by unfold aReturns; (repeat' split) <;> first | rfl | (exfalso; omega) | (rw [b_sI _ (by omega)]; unfold tb at *; simp_all)))
      · refine Wp.sipush rfl dX12_returns_21 ?_
        refine Wp.ireturn dX12_returns_24 rfl ?_
        first | (exfalso; omega) | (exact qI hq (by unfold aReturns; (repeat' split) <;> first | rfl | (exfalso; omega) | (rw [b_sI _ (by omega)]; unfold tb at *; simp_all)))
theorem ct_X12_back {a w b : Int} (hn : 57 ≤ n) (hFx : Fx R) (hW : RW I) (ha : inR a) (hw : inR w) (hb : inR b) (hq : Q (some (vl (aBack I (I 32 11) a w b))) (I, L, R, n)) : Wp mX12_back 0 [some (vr (some 32)), some (vi a), some (vi w), some (vi b)] [] (I, L, R, n) (0, 0) Q := by
  refine Wp.iload_n rfl dX12_back_0 ?_
  refine Wp.callS (As := [_]) (ls0 := [_]) (bd := (0, 0)) (bd' := (0, 0)) dX12_back_1 kmX12_isTongue lkX12_147 (by decide) (by decide) (Nat.le_of_ble_eq_true rfl) rfl rfl (Nat.le_of_ble_eq_true rfl) rfl ?_
  refine ct_X12_isTongue (by omega) ?_
  show Wp _ _ _ (_ :: _) _ _ _
  refine Wp.if_eqB (tgt := 21) dX12_back_4 (by decide) (fun c4 => ?_) (fun c4 => ?_)
  · refine Wp.ldc2_w (b := 18446744073709550615#64) ckX12_195 rfl dX12_back_21 ?_
    refine Wp.lreturn dX12_back_24 rfl ?_
    first | (exfalso; omega) | (exact qL hq (by unfold aBack; (repeat' split) <;> first | rfl | (exfalso; omega)))
  · refine Wp.iload_n rfl dX12_back_7 ?_
    refine Wp.callS (As := [_]) (ls0 := [_]) (bd := (0, 0)) (bd' := (0, 0)) dX12_back_8 kmX12_isWord lkX12_182 (by decide) (by decide) (Nat.le_of_ble_eq_true rfl) rfl rfl (Nat.le_of_ble_eq_true rfl) rfl ?_
    refine ct_X12_isWord (by omega) ?_
    show Wp _ _ _ (_ :: _) _ _ _
    refine Wp.if_eqB (tgt := 21) dX12_back_11 (by decide) (fun c11 => ?_) (fun c11 => ?_)
    · refine Wp.ldc2_w (b := 18446744073709550615#64) ckX12_195 rfl dX12_back_21 ?_
      refine Wp.lreturn dX12_back_24 rfl ?_
      first | (exfalso; omega) | (exact qL hq (by unfold aBack; (repeat' split) <;> first | rfl | (exfalso; omega)))
    · refine Wp.iload_n rfl dX12_back_14 ?_
      refine Wp.callS (As := [_]) (ls0 := [_]) (bd := (0, 0)) (bd' := (0, 0)) dX12_back_15 kmX12_isTongue lkX12_147 (by decide) (by decide) (Nat.le_of_ble_eq_true rfl) rfl rfl (Nat.le_of_ble_eq_true rfl) rfl ?_
      refine ct_X12_isTongue (by omega) ?_
      show Wp _ _ _ (_ :: _) _ _ _
      refine Wp.if_neB (tgt := 25) dX12_back_18 (by decide) (fun c18 => ?_) (fun c18 => ?_)
      · refine Wp.iload_n rfl dX12_back_25 ?_
        refine Wp.iload_n rfl dX12_back_26 ?_
        refine Wp.icmp_ne (tgt := 36) dX12_back_27 (by decide) (by first | omega | exact bI_R _ | exact cmp_R _ _ | assumption) (by first | omega | exact bI_R _ | exact cmp_R _ _ | assumption) (fun c27 => ?_) (fun c27 => ?_)
        · refine Wp.aload_n rfl dX12_back_36 ?_
          refine Wp.iload_n rfl dX12_back_37 ?_
          refine Wp.aload_n rfl dX12_back_38 ?_
          refine Wp.iload_n rfl dX12_back_39 ?_
          refine Wp.iload_n rfl dX12_back_40 ?_
          refine Wp.iload_n rfl dX12_back_41 ?_
          refine Wp.callV (As := [_, _, _]) (ls0 := [_, _, _, _, _, _, _, _]) (bd := (0, 0)) (bd' := (0, 0)) dX12_back_42 kmX12_giving lkX12_191 (by decide) (by decide) (Nat.le_of_ble_eq_true rfl) (by first | rfl | exact kd_b0 _ | exact kd_b1 _ | exact kd_b2 _ | exact kd_b3 _ | exact kd_b4 _ | exact kd_b5 _ | exact kd_b6 _) (by omega) rfl rfl (Nat.le_of_ble_eq_true rfl) rfl ?_
          refine ct_X12_giving hn hFx hW (by omega) (by omega) (by omega) (by omega) ?_
          show Wp _ _ _ (_ :: _) _ _ _
          refine Wp.iload_n rfl dX12_back_45 ?_
          refine Wp.callV (As := [_, _, _]) (ls0 := [_, _, _, _, _, _, _, _]) (bd := (0, 0)) (bd' := (0, 0)) dX12_back_46 kmX12_givingAll lkX12_200 (by decide) (by decide) (Nat.le_of_ble_eq_true rfl) (by first | rfl | exact kd_b0 _ | exact kd_b1 _ | exact kd_b2 _ | exact kd_b3 _ | exact kd_b4 _ | exact kd_b5 _ | exact kd_b6 _) (by omega) rfl rfl (Nat.le_of_ble_eq_true rfl) rfl ?_
          refine ct_X12_givingAll hn hFx hW (by omega) (by omega) ?_
          show Wp _ _ _ (_ :: _) _ _ _
          refine Wp.lconst1 dX12_back_49 ?_
          refine Wp.iload_n rfl dX12_back_50 ?_
          refine Wp.lshl (by omega) (by omega) dX12_back_51 ?_
          refine Wp.ldc2_w (b := 18446744073709551615#64) ckX12_206 rfl dX12_back_52 ?_
          refine Wp.lxor dX12_back_55 ?_
          refine Wp.land dX12_back_56 ?_
          refine Wp.lreturn dX12_back_57 rfl ?_
          first | (exfalso; omega) | (exact qL hq (by unfold aBack; (repeat' split) <;> first | rfl | (exfalso; omega)))
        · refine Wp.ldc2_w (b := 18446744073709550614#64) ckX12_204 rfl dX12_back_30 ?_
          refine Wp.goto (tgt := 57) dX12_back_33 (by decide) ?_
          refine Wp.lreturn dX12_back_57 rfl ?_
          first | (exfalso; omega) | (exact qL hq (by unfold aBack; (repeat' split) <;> first | rfl | (exfalso; omega)))
      · refine Wp.ldc2_w (b := 18446744073709550615#64) ckX12_195 rfl dX12_back_21 ?_
        refine Wp.lreturn dX12_back_24 rfl ?_
        first | (exfalso; omega) | (exact qL hq (by unfold aBack; (repeat' split) <;> first | rfl | (exfalso; omega)))
theorem ct_X12_entry {a w b what : Int} (hn : 57 ≤ n) (hFx : Fx R) (hW : RW I) (ha : inR a) (hw : inR w) (hb : inR b) (hwh : inR what) (hq : Q (some (vi (aEntry I (I 32 11) a w b what))) (I, L, R, n)) : Wp mX12_entry 0 [some (vr (some 32)), some (vi a), some (vi w), some (vi b), some (vi what), none, none] [] (I, L, R, n) (0, 0) Q := by
  have hA := hW.2.2.2.2.1
  have hB := lat_B I hW.1 (I 32 11) a w b
  have hN1 := hW.2.1
  have hE0 : wdP w → ent I (I 32 11) a w b = -1 ∨ EOk I (ent I (I 32 11) a w b) := fun h => hW.entOk h.1 (by omega)
  have hEq : ent I (I 32 11) a w b = if lat I (I 32 11) a w b < 0 then -1 else 60 * lat I (I 32 11) a w b + w := rfl
  unfold aEntry at hq
  generalize he : ent I (I 32 11) a w b = e at *
  generalize lat I (I 32 11) a w b = q at *
  refine Wp.iload_n rfl dX12_entry_0 ?_
  refine Wp.callS (As := [_]) (ls0 := [_]) (bd := (0, 0)) (bd' := (0, 0)) dX12_entry_1 kmX12_isTongue lkX12_147 (by decide) (by decide) (Nat.le_of_ble_eq_true rfl) rfl rfl (Nat.le_of_ble_eq_true rfl) rfl ?_
  refine ct_X12_isTongue (by omega) ?_
  show Wp _ _ _ (_ :: _) _ _ _
  refine Wp.if_eqB (tgt := 21) dX12_entry_4 (by decide) (fun c4 => ?_) (fun c4 => ?_)
  · refine Wp.sipush rfl dX12_entry_21 ?_
    refine Wp.ireturn dX12_entry_24 rfl ?_
    first | (exfalso; omega) | (exact qI hq (by (repeat' split) <;> first | rfl | omega | (exfalso; omega) | (rw [Int.tdiv_eq_ediv_of_nonneg (by omega)]; omega)))
  · refine Wp.iload_n rfl dX12_entry_7 ?_
    refine Wp.callS (As := [_]) (ls0 := [_]) (bd := (0, 0)) (bd' := (0, 0)) dX12_entry_8 kmX12_isWord lkX12_182 (by decide) (by decide) (Nat.le_of_ble_eq_true rfl) rfl rfl (Nat.le_of_ble_eq_true rfl) rfl ?_
    refine ct_X12_isWord (by omega) ?_
    show Wp _ _ _ (_ :: _) _ _ _
    refine Wp.if_eqB (tgt := 21) dX12_entry_11 (by decide) (fun c11 => ?_) (fun c11 => ?_)
    · refine Wp.sipush rfl dX12_entry_21 ?_
      refine Wp.ireturn dX12_entry_24 rfl ?_
      first | (exfalso; omega) | (exact qI hq (by (repeat' split) <;> first | rfl | omega | (exfalso; omega) | (rw [Int.tdiv_eq_ediv_of_nonneg (by omega)]; omega)))
    · refine Wp.iload_n rfl dX12_entry_14 ?_
      refine Wp.callS (As := [_]) (ls0 := [_]) (bd := (0, 0)) (bd' := (0, 0)) dX12_entry_15 kmX12_isTongue lkX12_147 (by decide) (by decide) (Nat.le_of_ble_eq_true rfl) rfl rfl (Nat.le_of_ble_eq_true rfl) rfl ?_
      refine ct_X12_isTongue (by omega) ?_
      show Wp _ _ _ (_ :: _) _ _ _
      refine Wp.if_neB (tgt := 25) dX12_entry_18 (by decide) (fun c18 => ?_) (fun c18 => ?_)
      · refine Wp.iload rfl dX12_entry_25 ?_
        refine Wp.i2l (by first | omega | exact bI_R _ | exact cmp_R _ _ | assumption) dX12_entry_27 ?_
        refine Wp.lconst0 dX12_entry_28 ?_
        refine Wp.ldc2_w (b := 7#64) ckX12_185 rfl dX12_entry_29 ?_
        refine Wp.callS (As := [_, _, _]) (ls0 := [_, _, _, _, _, _]) (bd := (0, 0)) (bd' := (0, 0)) dX12_entry_32 kmX12_in lkX12_100 (by decide) (by decide) (Nat.le_of_ble_eq_true rfl) rfl rfl (Nat.le_of_ble_eq_true rfl) rfl ?_
        refine ct_X12_in (a := 0) (b := 7) (ofI_toInt hwh) rfl rfl ?_
        show Wp _ _ _ (_ :: _) _ _ _
        refine Wp.if_neB (tgt := 42) dX12_entry_35 (by decide) (fun c35 => ?_) (fun c35 => ?_)
        · refine Wp.aload_n rfl dX12_entry_42 ?_
          refine Wp.iload_n rfl dX12_entry_43 ?_
          refine Wp.iload_n rfl dX12_entry_44 ?_
          refine Wp.iload_n rfl dX12_entry_45 ?_
          refine Wp.callV (As := [_, _, _]) (ls0 := [_, _, _, _, _, _, _]) (bd := (0, 0)) (bd' := (0, 0)) dX12_entry_46 kmX12_entryOf lkX12_174 (by decide) (by decide) (Nat.le_of_ble_eq_true rfl) (by first | rfl | exact kd_b0 _ | exact kd_b1 _ | exact kd_b2 _ | exact kd_b3 _ | exact kd_b4 _ | exact kd_b5 _ | exact kd_b6 _) (by omega) rfl rfl (Nat.le_of_ble_eq_true rfl) rfl ?_
          refine ct_X12_entryOf hn hFx hW (by omega) (by omega) (by omega) (by omega) ?_
          show Wp _ _ _ (_ :: _) _ _ _
          rw [he]
          have hq0 : e = -1 ∧ q < 0 ∨ 0 ≤ q ∧ e = 60 * q + w := by split at hEq <;> omega
          refine Wp.istore (ls' := [_, _, _, _, _, _, _]) dX12_entry_49 (by decide) rfl ?_
          refine Wp.iload rfl dX12_entry_51 ?_
          refine Wp.if_ge (tgt := 58) dX12_entry_53 (by decide) (by first | omega | exact bI_R _ | exact cmp_R _ _ | assumption) (fun c53 => ?_) (fun c53 => ?_)
          · have hE : EOk I e := (hE0 (by omega)).resolve_left (by omega)
            have hE1 := hE.1
            refine Wp.iload rfl dX12_entry_58 ?_
            refine Wp.iconst dX12_entry_60 ?_
            refine Wp.icmp_ge (tgt := 85) dX12_entry_61 (by decide) (by first | omega | exact bI_R _ | exact cmp_R _ _ | assumption) (by first | omega | exact bI_R _ | exact cmp_R _ _ | assumption) (fun c61 => ?_) (fun c61 => ?_)
            · refine Wp.iload rfl dX12_entry_85 ?_
              refine Wp.iconst dX12_entry_87 ?_
              refine Wp.icmp_ge (tgt := 98) dX12_entry_88 (by decide) (by first | omega | exact bI_R _ | exact cmp_R _ _ | assumption) (by first | omega | exact bI_R _ | exact cmp_R _ _ | assumption) (fun c88 => ?_) (fun c88 => ?_)
              · refine Wp.iload rfl dX12_entry_98 ?_
                refine Wp.iconst dX12_entry_100 ?_
                refine Wp.isub dX12_entry_101 ?_
                refine Wp.istore (ls' := [_, _, _, _, _, _, _]) dX12_entry_102 (by decide) rfl ?_
                refine Wp.iload rfl dX12_entry_104 ?_
                refine Wp.aload_n rfl dX12_entry_106 ?_
                refine Wp.gr (kz := 4) rfl dX12_entry_107 fkX12_19 (by first | rfl | exact kd_b0 _ | exact kd_b1 _ | exact kd_b2 _ | exact kd_b3 _ | exact kd_b4 _ | exact kd_b5 _ | exact kd_b6 _) (by omega) (by first | exact hFx _ 4 _ rfl | assumption | exact hBk.1 | exact hBk.2.1 | exact hBk.2.2.1 | exact hBk.2.2.2.1 | exact hBk.2.2.2.2.1 | exact hBk.2.2.2.2.2) ?_
                refine Wp.iload rfl dX12_entry_110 ?_
                refine Wp.iaload dX12_entry_112 (by first | rfl | exact kd_b0 _ | exact kd_b1 _ | exact kd_b2 _ | exact kd_b3 _ | exact kd_b4 _ | exact kd_b5 _ | exact kd_b6 _) (by omega) (by omega) (by omega) ?_
                refine Wp.icmp_lt (tgt := 118) dX12_entry_113 (by decide) (by first | omega | exact bI_R _ | exact cmp_R _ _ | assumption) (by first | omega | exact bI_R _ | exact cmp_R _ _ | assumption) (fun c113 => ?_) (fun c113 => ?_)
                · refine Wp.iload rfl dX12_entry_118 ?_
                  refine Wp.iconst dX12_entry_120 ?_
                  refine Wp.icmp_ge (tgt := 139) dX12_entry_121 (by decide) (by first | omega | exact bI_R _ | exact cmp_R _ _ | assumption) (by first | omega | exact bI_R _ | exact cmp_R _ _ | assumption) (fun c121 => ?_) (fun c121 => ?_)
                  · refine Wp.aload_n rfl dX12_entry_139 ?_
                    refine Wp.iconst dX12_entry_140 ?_
                    refine Wp.iload rfl dX12_entry_141 ?_
                    refine Wp.imul dX12_entry_143 ?_
                    refine Wp.iload rfl dX12_entry_144 ?_
                    refine Wp.iadd dX12_entry_146 ?_
                    refine Wp.callV (As := [_]) (ls0 := [_, _, _, _, _]) (bd := (0, 0)) (bd' := (0, 0)) dX12_entry_147 kmX12_senseSet lkX12_178 (by decide) (by decide) (Nat.le_of_ble_eq_true rfl) (by first | rfl | exact kd_b0 _ | exact kd_b1 _ | exact kd_b2 _ | exact kd_b3 _ | exact kd_b4 _ | exact kd_b5 _ | exact kd_b6 _) (by omega) rfl rfl (Nat.le_of_ble_eq_true rfl) rfl ?_
                    refine ct_X12_senseSet hn hFx (by first | assumption | exact hE.2 _ (by omega) (by omega)) hA ?_
                    show Wp _ _ _ (_ :: _) _ _ _
                    refine Wp.callS (As := [_]) (ls0 := [_, _, _, _]) (bd := (0, 0)) (bd' := (0, 0)) dX12_entry_150 kmX12_bits lkX12_187 (by decide) (by decide) (Nat.le_of_ble_eq_true rfl) rfl rfl (Nat.le_of_ble_eq_true rfl) rfl ?_
                    refine ct_X12_bits ?_
                    show Wp _ _ _ (_ :: _) _ _ _
                    refine Wp.ireturn dX12_entry_153 rfl ?_
                    first | (exfalso; omega) | (exact qI hq (by (repeat' split) <;> first | rfl | omega | (exfalso; omega) | (rw [Int.tdiv_eq_ediv_of_nonneg (by omega)]; omega)))
                  · refine Wp.aload_n rfl dX12_entry_124 ?_
                    refine Wp.gr (kz := 5) rfl dX12_entry_125 fkX12_22 (by first | rfl | exact kd_b0 _ | exact kd_b1 _ | exact kd_b2 _ | exact kd_b3 _ | exact kd_b4 _ | exact kd_b5 _ | exact kd_b6 _) (by omega) (by first | exact hFx _ 5 _ rfl | assumption | exact hBk.1 | exact hBk.2.1 | exact hBk.2.2.1 | exact hBk.2.2.2.1 | exact hBk.2.2.2.2.1 | exact hBk.2.2.2.2.2) ?_
                    refine Wp.iconst dX12_entry_128 ?_
                    refine Wp.iload rfl dX12_entry_129 ?_
                    refine Wp.imul dX12_entry_131 ?_
                    refine Wp.iload rfl dX12_entry_132 ?_
                    refine Wp.iadd dX12_entry_134 ?_
                    refine Wp.iaload dX12_entry_135 (by first | rfl | exact kd_b0 _ | exact kd_b1 _ | exact kd_b2 _ | exact kd_b3 _ | exact kd_b4 _ | exact kd_b5 _ | exact kd_b6 _) (by omega) (by omega) (by omega) ?_
                    refine Wp.goto (tgt := 153) dX12_entry_136 (by decide) ?_
                    refine Wp.ireturn dX12_entry_153 rfl ?_
                    first | (exfalso; omega) | (exact qI hq (by (repeat' split) <;> first | rfl | omega | (exfalso; omega) | (rw [Int.tdiv_eq_ediv_of_nonneg (by omega)]; omega)))
                · refine Wp.iconst dX12_entry_116 ?_
                  refine Wp.ireturn dX12_entry_117 rfl ?_
                  first | (exfalso; omega) | (exact qI hq (by (repeat' split) <;> first | rfl | omega | (exfalso; omega) | (rw [Int.tdiv_eq_ediv_of_nonneg (by omega)]; omega)))
              · refine Wp.iload rfl dX12_entry_91 ?_
                refine Wp.iconst dX12_entry_93 ?_
                refine Wp.isub dX12_entry_94 ?_
                refine Wp.goto (tgt := 102) dX12_entry_95 (by decide) ?_
                refine Wp.istore (ls' := [_, _, _, _, _, _, _]) dX12_entry_102 (by decide) rfl ?_
                refine Wp.iload rfl dX12_entry_104 ?_
                refine Wp.aload_n rfl dX12_entry_106 ?_
                refine Wp.gr (kz := 4) rfl dX12_entry_107 fkX12_19 (by first | rfl | exact kd_b0 _ | exact kd_b1 _ | exact kd_b2 _ | exact kd_b3 _ | exact kd_b4 _ | exact kd_b5 _ | exact kd_b6 _) (by omega) (by first | exact hFx _ 4 _ rfl | assumption | exact hBk.1 | exact hBk.2.1 | exact hBk.2.2.1 | exact hBk.2.2.2.1 | exact hBk.2.2.2.2.1 | exact hBk.2.2.2.2.2) ?_
                refine Wp.iload rfl dX12_entry_110 ?_
                refine Wp.iaload dX12_entry_112 (by first | rfl | exact kd_b0 _ | exact kd_b1 _ | exact kd_b2 _ | exact kd_b3 _ | exact kd_b4 _ | exact kd_b5 _ | exact kd_b6 _) (by omega) (by omega) (by omega) ?_
                refine Wp.icmp_lt (tgt := 118) dX12_entry_113 (by decide) (by first | omega | exact bI_R _ | exact cmp_R _ _ | assumption) (by first | omega | exact bI_R _ | exact cmp_R _ _ | assumption) (fun c113 => ?_) (fun c113 => ?_)
                · refine Wp.iload rfl dX12_entry_118 ?_
                  refine Wp.iconst dX12_entry_120 ?_
                  refine Wp.icmp_ge (tgt := 139) dX12_entry_121 (by decide) (by first | omega | exact bI_R _ | exact cmp_R _ _ | assumption) (by first | omega | exact bI_R _ | exact cmp_R _ _ | assumption) (fun c121 => ?_) (fun c121 => ?_)
                  · refine Wp.aload_n rfl dX12_entry_139 ?_
                    refine Wp.iconst dX12_entry_140 ?_
                    refine Wp.iload rfl dX12_entry_141 ?_
                    refine Wp.imul dX12_entry_143 ?_
                    refine Wp.iload rfl dX12_entry_144 ?_
                    refine Wp.iadd dX12_entry_146 ?_
                    refine Wp.callV (As := [_]) (ls0 := [_, _, _, _, _]) (bd := (0, 0)) (bd' := (0, 0)) dX12_entry_147 kmX12_senseSet lkX12_178 (by decide) (by decide) (Nat.le_of_ble_eq_true rfl) (by first | rfl | exact kd_b0 _ | exact kd_b1 _ | exact kd_b2 _ | exact kd_b3 _ | exact kd_b4 _ | exact kd_b5 _ | exact kd_b6 _) (by omega) rfl rfl (Nat.le_of_ble_eq_true rfl) rfl ?_
                    refine ct_X12_senseSet hn hFx (by first | assumption | exact hE.2 _ (by omega) (by omega)) hA ?_
                    show Wp _ _ _ (_ :: _) _ _ _
                    refine Wp.callS (As := [_]) (ls0 := [_, _, _, _]) (bd := (0, 0)) (bd' := (0, 0)) dX12_entry_150 kmX12_bits lkX12_187 (by decide) (by decide) (Nat.le_of_ble_eq_true rfl) rfl rfl (Nat.le_of_ble_eq_true rfl) rfl ?_
                    refine ct_X12_bits ?_
                    show Wp _ _ _ (_ :: _) _ _ _
                    refine Wp.ireturn dX12_entry_153 rfl ?_
                    first | (exfalso; omega) | (exact qI hq (by (repeat' split) <;> first | rfl | omega | (exfalso; omega) | (rw [Int.tdiv_eq_ediv_of_nonneg (by omega)]; omega)))
                  · refine Wp.aload_n rfl dX12_entry_124 ?_
                    refine Wp.gr (kz := 5) rfl dX12_entry_125 fkX12_22 (by first | rfl | exact kd_b0 _ | exact kd_b1 _ | exact kd_b2 _ | exact kd_b3 _ | exact kd_b4 _ | exact kd_b5 _ | exact kd_b6 _) (by omega) (by first | exact hFx _ 5 _ rfl | assumption | exact hBk.1 | exact hBk.2.1 | exact hBk.2.2.1 | exact hBk.2.2.2.1 | exact hBk.2.2.2.2.1 | exact hBk.2.2.2.2.2) ?_
                    refine Wp.iconst dX12_entry_128 ?_
                    refine Wp.iload rfl dX12_entry_129 ?_
                    refine Wp.imul dX12_entry_131 ?_
                    refine Wp.iload rfl dX12_entry_132 ?_
                    refine Wp.iadd dX12_entry_134 ?_
                    refine Wp.iaload dX12_entry_135 (by first | rfl | exact kd_b0 _ | exact kd_b1 _ | exact kd_b2 _ | exact kd_b3 _ | exact kd_b4 _ | exact kd_b5 _ | exact kd_b6 _) (by omega) (by omega) (by omega) ?_
                    refine Wp.goto (tgt := 153) dX12_entry_136 (by decide) ?_
                    refine Wp.ireturn dX12_entry_153 rfl ?_
                    first | (exfalso; omega) | (exact qI hq (by (repeat' split) <;> first | rfl | omega | (exfalso; omega) | (rw [Int.tdiv_eq_ediv_of_nonneg (by omega)]; omega)))
                · refine Wp.iconst dX12_entry_116 ?_
                  refine Wp.ireturn dX12_entry_117 rfl ?_
                  first | (exfalso; omega) | (exact qI hq (by (repeat' split) <;> first | rfl | omega | (exfalso; omega) | (rw [Int.tdiv_eq_ediv_of_nonneg (by omega)]; omega)))
            · refine Wp.iload rfl dX12_entry_64 ?_
              refine Wp.if_ne (tgt := 77) dX12_entry_66 (by decide) (by first | omega | exact bI_R _ | exact cmp_R _ _ | assumption) (fun c66 => ?_) (fun c66 => ?_)
              · refine Wp.aload_n rfl dX12_entry_77 ?_
                refine Wp.gr (kz := 4) rfl dX12_entry_78 fkX12_19 (by first | rfl | exact kd_b0 _ | exact kd_b1 _ | exact kd_b2 _ | exact kd_b3 _ | exact kd_b4 _ | exact kd_b5 _ | exact kd_b6 _) (by omega) (by first | exact hFx _ 4 _ rfl | assumption | exact hBk.1 | exact hBk.2.1 | exact hBk.2.2.1 | exact hBk.2.2.2.1 | exact hBk.2.2.2.2.1 | exact hBk.2.2.2.2.2) ?_
                refine Wp.iload rfl dX12_entry_81 ?_
                refine Wp.iaload dX12_entry_83 (by first | rfl | exact kd_b0 _ | exact kd_b1 _ | exact kd_b2 _ | exact kd_b3 _ | exact kd_b4 _ | exact kd_b5 _ | exact kd_b6 _) (by omega) (by omega) (by omega) ?_
                refine Wp.ireturn dX12_entry_84 rfl ?_
                first | (exfalso; omega) | (exact qI hq (by (repeat' split) <;> first | rfl | omega | (exfalso; omega) | (rw [Int.tdiv_eq_ediv_of_nonneg (by omega)]; omega)))
              · refine Wp.iload rfl dX12_entry_69 ?_
                refine Wp.bipush rfl dX12_entry_71 ?_
                refine Wp.idiv (by omega) (by omega) (by omega) dX12_entry_73 ?_
                refine Wp.goto (tgt := 84) dX12_entry_74 (by decide) ?_
                refine Wp.ireturn dX12_entry_84 rfl ?_
                first | (exfalso; omega) | (exact qI hq (by (repeat' split) <;> first | rfl | omega | (exfalso; omega) | (rw [Int.tdiv_eq_ediv_of_nonneg (by omega)]; omega)))
          · refine Wp.iconst dX12_entry_56 ?_
            refine Wp.ireturn dX12_entry_57 rfl ?_
            first | (exfalso; omega) | (exact qI hq (by (repeat' split) <;> first | rfl | omega | (exfalso; omega) | (rw [Int.tdiv_eq_ediv_of_nonneg (by omega)]; omega)))
        · refine Wp.sipush rfl dX12_entry_38 ?_
          refine Wp.ireturn dX12_entry_41 rfl ?_
          first | (exfalso; omega) | (exact qI hq (by (repeat' split) <;> first | rfl | omega | (exfalso; omega) | (rw [Int.tdiv_eq_ediv_of_nonneg (by omega)]; omega)))
      · refine Wp.sipush rfl dX12_entry_21 ?_
        refine Wp.ireturn dX12_entry_24 rfl ?_
        first | (exfalso; omega) | (exact qI hq (by (repeat' split) <;> first | rfl | omega | (exfalso; omega) | (rw [Int.tdiv_eq_ediv_of_nonneg (by omega)]; omega)))
end

