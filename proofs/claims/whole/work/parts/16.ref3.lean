/-! ===== the reference: turned about, there and back ===== -/
/-- of the first k words of a those that give t -/
def gbN (I : Nat → Int → Int) (lk a b t : Int) : Nat → BitVec 64
  | 0 => 0#64
  | k + 1 => gbN I lk a b t k ||| ((if (gv I lk a k b).getLsbD t.toNat = true then 1#64 else 0#64) <<< k)
/-- what the words of a set give, of its first k -/
def gaN (I : Nat → Int → Int) (lk a : Int) (s : BitVec 64) (b : Int) : Nat → BitVec 64
  | 0 => 0#64
  | k + 1 => gaN I lk a s b k ||| (if s.getLsbD k = true then gv I lk a k b else 0#64)
section
variable {I : Nat → Int → Int} {L : Nat → Int → BitVec 64} {R : Nat → Int → Option Nat} {n : Nat} {m : Mm} {Q : Option AV → Mm → Prop}
theorem ct_X12_givenByOf {a b t : Int} (hn : 57 ≤ n) (hFx : Fx R) (hW : RW I) (ha : inR a) (hb : inR b) (ht0 : 0 ≤ t) (ht1 : t < 60) (hq : Q (some (vl (gbN I (I 32 11) a b t 60))) (I, L, R, n)) : Wp mX12_givenByOf 0 [some (vr (some 32)), some (vi a), some (vi b), some (vi t), none, none, none] [] (I, L, R, n) (0, 0) Q := by
  have lp : ∀ (tt k : Nat) (z : Int) (x : BitVec 64), k + tt = 60 → z = k → x = gbN I (I 32 11) a b t k → Wp mX12_givenByOf 6 [some (vr (some 32)), some (vi a), some (vi b), some (vi t), some (vl x), none, some (vi z)] [] (I, L, R, n) (0, 0) Q := by
    intro tt
    induction tt with
    | zero =>
      intro k z x hkt hz e0
      obtain rfl : k = 60 := by omega
      refine Wp.iload rfl dX12_givenByOf_6 ?_
      refine Wp.bipush rfl dX12_givenByOf_8 ?_
      refine Wp.icmp_ge (tgt := 39) dX12_givenByOf_10 (by decide) (by first | omega | exact bI_R _ | exact cmp_R _ _ | assumption) (by first | omega | exact bI_R _ | exact cmp_R _ _ | assumption) (fun c10 => ?_) (fun c10 => ?_)
      · refine Wp.lload rfl dX12_givenByOf_39 ?_
        refine Wp.lreturn dX12_givenByOf_41 rfl ?_
        first | (exfalso; omega) | (exact qL hq e0)
      · exfalso; omega
    | succ tt ih =>
      intro k z x hkt hz e0
      subst hz
      subst e0
      refine Wp.iload rfl dX12_givenByOf_6 ?_
      refine Wp.bipush rfl dX12_givenByOf_8 ?_
      refine Wp.icmp_ge (tgt := 39) dX12_givenByOf_10 (by decide) (by first | omega | exact bI_R _ | exact cmp_R _ _ | assumption) (by first | omega | exact bI_R _ | exact cmp_R _ _ | assumption) (fun c10 => ?_) (fun c10 => ?_)
      · exfalso; omega
      · refine Wp.lload rfl dX12_givenByOf_13 ?_
        refine Wp.aload_n rfl dX12_givenByOf_15 ?_
        refine Wp.iload_n rfl dX12_givenByOf_16 ?_
        refine Wp.iload rfl dX12_givenByOf_17 ?_
        refine Wp.iload_n rfl dX12_givenByOf_19 ?_
        refine Wp.callV (As := [_, _, _]) (ls0 := [_, _, _, _, _, _, _, _]) (bd := (0, 0)) (bd' := (0, 0)) dX12_givenByOf_20 kmX12_giving lkX12_191 (by decide) (by decide) (Nat.le_of_ble_eq_true rfl) (by first | rfl | exact kd_b0 _ | exact kd_b1 _ | exact kd_b2 _ | exact kd_b3 _ | exact kd_b4 _ | exact kd_b5 _ | exact kd_b6 _) (by omega) rfl rfl (Nat.le_of_ble_eq_true rfl) rfl ?_
        refine ct_X12_giving hn hFx hW (by omega) (by omega) (by omega) (by omega) ?_
        show Wp _ _ _ (_ :: _) _ _ _
        refine Wp.iload_n rfl dX12_givenByOf_23 ?_
        refine Wp.lshr (by omega) (by omega) dX12_givenByOf_24 ?_
        refine Wp.lconst1 dX12_givenByOf_25 ?_
        refine Wp.land dX12_givenByOf_26 ?_
        refine Wp.iload rfl dX12_givenByOf_27 ?_
        refine Wp.lshl (by omega) (by omega) dX12_givenByOf_29 ?_
        refine Wp.lor dX12_givenByOf_30 ?_
        refine Wp.lstore (ls' := [_, _, _, _, _, _, _]) dX12_givenByOf_31 (by decide) rfl ?_
        refine Wp.iinc (ls' := [_, _, _, _, _, _, _]) rfl dX12_givenByOf_33 (by decide) rfl ?_
        refine Wp.goto (tgt := 6) dX12_givenByOf_36 (by decide) ?_
        exact ih (k + 1) _ _ (by omega) (by omega) (by rw [b_sshr _ (by omega), Int.toNat_natCast]; rfl)
  refine Wp.lconst0 dX12_givenByOf_0 ?_
  refine Wp.lstore (ls' := [_, _, _, _, _, _, _]) dX12_givenByOf_1 (by decide) rfl ?_
  refine Wp.iconst dX12_givenByOf_3 ?_
  refine Wp.istore (ls' := [_, _, _, _, _, _, _]) dX12_givenByOf_4 (by decide) rfl ?_
  exact lp 60 0 _ _ (by omega) (by omega) rfl
theorem ct_X12_givingAll {a b : Int} {s : BitVec 64} (hn : 57 ≤ n) (hFx : Fx R) (hW : RW I) (ha : inR a) (hb : inR b) (hq : Q (some (vl (gaN I (I 32 11) a s b 60))) (I, L, R, n)) : Wp mX12_givingAll 0 [some (vr (some 32)), some (vi a), some (vl s), none, some (vi b), none, none, none] [] (I, L, R, n) (0, 0) Q := by
  have lp : ∀ (tt k : Nat) (z : Int) (x : BitVec 64), k + tt = 60 → z = k → x = gaN I (I 32 11) a s b k → Wp mX12_givingAll 6 [some (vr (some 32)), some (vi a), some (vl s), none, some (vi b), some (vl x), none, some (vi z)] [] (I, L, R, n) (0, 0) Q := by
    intro tt
    induction tt with
    | zero =>
      intro k z x hkt hz e0
      obtain rfl : k = 60 := by omega
      refine Wp.iload rfl dX12_givingAll_6 ?_
      refine Wp.bipush rfl dX12_givingAll_8 ?_
      refine Wp.icmp_ge (tgt := 48) dX12_givingAll_10 (by decide) (by first | omega | exact bI_R _ | exact cmp_R _ _ | assumption) (by first | omega | exact bI_R _ | exact cmp_R _ _ | assumption) (fun c10 => ?_) (fun c10 => ?_)
      · refine Wp.lload rfl dX12_givingAll_48 ?_
        refine Wp.lreturn dX12_givingAll_50 rfl ?_
        first | (exfalso; omega) | (exact qL hq e0)
      · exfalso; omega
    | succ tt ih =>
      intro k z x hkt hz e0
      subst hz
      subst e0
      refine Wp.iload rfl dX12_givingAll_6 ?_
      refine Wp.bipush rfl dX12_givingAll_8 ?_
      refine Wp.icmp_ge (tgt := 48) dX12_givingAll_10 (by decide) (by first | omega | exact bI_R _ | exact cmp_R _ _ | assumption) (by first | omega | exact bI_R _ | exact cmp_R _ _ | assumption) (fun c10 => ?_) (fun c10 => ?_)
      · exfalso; omega
      · refine Wp.lload rfl dX12_givingAll_13 ?_
        refine Wp.lload_n rfl dX12_givingAll_15 ?_
        refine Wp.iload rfl dX12_givingAll_16 ?_
        refine Wp.lshr (by omega) (by omega) dX12_givingAll_18 ?_
        refine Wp.lconst1 dX12_givingAll_19 ?_
        refine Wp.land dX12_givingAll_20 ?_
        refine Wp.lconst1 dX12_givingAll_21 ?_
        refine Wp.lcmp dX12_givingAll_22 ?_
        refine Wp.if_neC (tgt := 38) dX12_givingAll_23 (by decide) (fun c23 => ?_) (fun c23 => ?_)
        · refine Wp.lconst0 dX12_givingAll_38 ?_
          refine Wp.lor dX12_givingAll_39 ?_
          refine Wp.lstore (ls' := [_, _, _, _, _, _, _, _]) dX12_givingAll_40 (by decide) rfl ?_
          refine Wp.iinc (ls' := [_, _, _, _, _, _, _, _]) rfl dX12_givingAll_42 (by decide) rfl ?_
          refine Wp.goto (tgt := 6) dX12_givingAll_45 (by decide) ?_
          first | exact ih (k + 1) _ _ (by omega) (by omega) (congrArg (fun y => gaN I (I 32 11) a s b k ||| y) (if_pos ((b_s1 (by omega)).mp c23)).symm) | exact ih (k + 1) _ _ (by omega) (by omega) (congrArg (fun y => gaN I (I 32 11) a s b k ||| y) (if_neg (fun q => c23 ((b_s1 (by omega)).mpr q))).symm) | (exfalso; omega)
        · refine Wp.aload_n rfl dX12_givingAll_26 ?_
          refine Wp.iload_n rfl dX12_givingAll_27 ?_
          refine Wp.iload rfl dX12_givingAll_28 ?_
          refine Wp.iload rfl dX12_givingAll_30 ?_
          refine Wp.callV (As := [_, _, _]) (ls0 := [_, _, _, _, _, _, _, _]) (bd := (0, 0)) (bd' := (0, 0)) dX12_givingAll_32 kmX12_giving lkX12_191 (by decide) (by decide) (Nat.le_of_ble_eq_true rfl) (by first | rfl | exact kd_b0 _ | exact kd_b1 _ | exact kd_b2 _ | exact kd_b3 _ | exact kd_b4 _ | exact kd_b5 _ | exact kd_b6 _) (by omega) rfl rfl (Nat.le_of_ble_eq_true rfl) rfl ?_
          refine ct_X12_giving hn hFx hW (by omega) (by omega) (by omega) (by omega) ?_
          show Wp _ _ _ (_ :: _) _ _ _
          refine Wp.goto (tgt := 39) dX12_givingAll_35 (by decide) ?_
          refine Wp.lor dX12_givingAll_39 ?_
          refine Wp.lstore (ls' := [_, _, _, _, _, _, _, _]) dX12_givingAll_40 (by decide) rfl ?_
          refine Wp.iinc (ls' := [_, _, _, _, _, _, _, _]) rfl dX12_givingAll_42 (by decide) rfl ?_
          refine Wp.goto (tgt := 6) dX12_givingAll_45 (by decide) ?_
          first | exact ih (k + 1) _ _ (by omega) (by omega) (congrArg (fun y => gaN I (I 32 11) a s b k ||| y) (if_pos ((b_s1 (by omega)).mp c23)).symm) | exact ih (k + 1) _ _ (by omega) (by omega) (congrArg (fun y => gaN I (I 32 11) a s b k ||| y) (if_neg (fun q => c23 ((b_s1 (by omega)).mpr q))).symm) | (exfalso; omega)
  refine Wp.lconst0 dX12_givingAll_0 ?_
  refine Wp.lstore (ls' := [_, _, _, _, _, _, _, _]) dX12_givingAll_1 (by decide) rfl ?_
  refine Wp.iconst dX12_givingAll_3 ?_
  refine Wp.istore (ls' := [_, _, _, _, _, _, _, _]) dX12_givingAll_4 (by decide) rfl ?_
  exact lp 60 0 _ _ (by omega) (by omega) rfl
end

