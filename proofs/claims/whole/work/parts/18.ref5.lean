/-! ===== the reference: promises 2, 4, 6 to 8, 20, 22 to 24 ===== -/
theorem qIM {Q : Option AV → Mm → Prop} {I' J : Nat → Int → Int} {L : Nat → Int → BitVec 64} {R : Nat → Int → Option Nat} {n : Nat} {a z : Int} (hq : Q (some (vi a)) (J, L, R, n)) (h : z = a) (hm : I' = J) : Q (some (vi z)) (I', L, R, n) := by subst h; subst hm; exact hq
def okDay (d : Int) : Prop := 0 ≤ d ∧ d ≤ 999
def aNow (now d : Int) : Int := if 0 ≤ d ∧ d ≤ 999 then now else -1002
def aCount (c0 c1 c2 c3 c4 what : Int) : Int := if what = 0 then c0 else if what = 1 then c1 else if what = 2 then c2 else if what = 3 then c3 else if what = 4 then c4 else -1002
def aPair (sz a x y s : Int) : Int := if tgP a ∧ wdP x ∧ wdP y then (if 1 ≤ s ∧ s ≤ 99 then (if sz = 40 then -1004 else sz + 1) else -1002) else -1001
abbrev okPair (sz a x y s : Int) : Prop := tgP a ∧ wdP x ∧ wdP y ∧ 1 ≤ s ∧ s ≤ 99 ∧ sz ≠ 40
def aSay (sz tg a w : Int) : Int := if tgP a ∧ wdP w then (if 0 < sz ∧ a ≠ tg then -1003 else if sz = 10 then -1004 else sz + 1) else -1001
abbrev okSay (sz tg a w : Int) : Prop := tgP a ∧ wdP w ∧ ¬ (0 < sz ∧ a ≠ tg) ∧ sz ≠ 10
/-- a byte of a long -/
def byt (b : BitVec 64) (k : Nat) : Int := (((b >>> (8 * k)) &&& 255#64).toNat : Int)
/-- memory behind j bytes of a feed of nn: the text at cell o, its length at (co, ck) -/
def fed (I : Nat → Int → Int) (o co : Nat) (ck : Int) (b : BitVec 64) (nn j : Int) : Nat → Int → Int := fun o' k' =>
  if o' = co ∧ k' = ck then I co ck + j else if o' = o ∧ I co ck ≤ k' ∧ k' < I co ck + j then byt b (nn - 1 - (k' - I co ck)).toNat else I o' k'
theorem fed_0 (I : Nat → Int → Int) (o co : Nat) (ck : Int) (b : BitVec 64) (nn : Int) : fed I o co ck b nn 0 = I := by
  funext o' k'
  unfold fed
  split
  · rename_i h; rw [h.1, h.2]; omega
  · rw [if_neg (by omega)]
theorem fed_s (I : Nat → Int → Int) (o co : Nat) (ck : Int) (b : BitVec 64) (nn j : Int) (hj : 0 ≤ j) (hne : o ≠ co) : up (up (fed I o co ck b nn j) o (I co ck + j) (byt b (nn - 1 - j).toNat)) co ck (I co ck + j + 1) = fed I o co ck b nn (j + 1) := by
  funext o' k'
  unfold up fed
  by_cases h1 : o' = co ∧ k' = ck
  · rw [if_pos h1, if_pos h1]; omega
  · rw [if_neg h1, if_neg h1, if_neg h1]
    by_cases h2 : o' = o ∧ k' = I co ck + j
    · rw [if_pos h2, if_pos (by omega)]
      congr 2
      omega
    · rw [if_neg h2]
      by_cases h3 : o' = o ∧ I co ck ≤ k' ∧ k' < I co ck + j
      · rw [if_pos h3, if_pos (by omega)]
      · rw [if_neg h3, if_neg (by omega)]
theorem fed_c (I : Nat → Int → Int) (o co : Nat) (ck : Int) (b : BitVec 64) (nn j : Int) : fed I o co ck b nn j co ck = I co ck + j := by
  unfold fed; rw [if_pos ⟨rfl, rfl⟩]
theorem byt_s (b : BitVec 64) (k : Nat) (hk : 8 * k + 8 ≤ 64) : (b.sshiftRight (8 * k) &&& 255#64).toInt = byt b k := by
  have e : b.sshiftRight (8 * k) &&& 255#64 = (b >>> (8 * k)) &&& 255#64 := by
    apply BitVec.eq_of_getLsbD_eq
    intro i hi
    rw [BitVec.getLsbD_and, BitVec.getLsbD_and, BitVec.getLsbD_sshiftRight, BitVec.getLsbD_ushiftRight]
    by_cases h8 : i < 8
    · simp [hi, show 8 * k + i < 64 by omega, show i + 8 * k < 64 by omega, show ¬ 64 ≤ i by omega]
    · have h255 : (255#64 : BitVec 64).getLsbD i = false := by
        rw [BitVec.getLsbD_ofNat]
        have : Nat.testBit 255 i = false := Nat.testBit_lt_two_pow (by calc 255 < 2 ^ 8 := by decide
            _ ≤ 2 ^ i := Nat.pow_le_pow_right (by decide) (by omega))
        simp [this]
      simp [h255]
  rw [e, byt]
  have h2 : ((b >>> (8 * k)) &&& 255#64).toNat < 256 := by
    rw [BitVec.toNat_and]
    exact Nat.lt_of_le_of_lt Nat.and_le_right (by decide)
  rw [BitVec.toInt_eq_toNat_cond, if_pos (by omega)]
def aFeed (sz nn : Int) : Int := if 1 ≤ nn ∧ nn ≤ 8 then (if sz + nn ≤ 240 then sz + nn else -1004) else -1002
abbrev okFeed (sz nn : Int) : Prop := 1 ≤ nn ∧ nn ≤ 8 ∧ sz + nn ≤ 240
section
variable {I : Nat → Int → Int} {L : Nat → Int → BitVec 64} {R : Nat → Int → Option Nat} {n : Nat} {m : Mm} {Q : Option AV → Mm → Prop}
theorem ct_X12_fault (hn : 57 ≤ n) (hq : Q (some (vi (I 32 14))) (I, L, R, n)) : Wp mX12_fault 0 [some (vr (some 32))] [] (I, L, R, n) (0, 0) Q := by
  refine Wp.aload_n rfl dX12_fault_0 ?_
  refine Wp.gi (kz := 14) rfl dX12_fault_1 fkX12_49 (by first | rfl | exact kd_b0 _ | exact kd_b1 _ | exact kd_b2 _ | exact kd_b3 _ | exact kd_b4 _ | exact kd_b5 _ | exact kd_b6 _) (by omega) ?_
  refine Wp.ireturn dX12_fault_4 rfl ?_
  first | exact hq | (exfalso; omega) | exact qI hq (by omega)
theorem ct_X12_now {d : Int} (hn : 57 ≤ n) (hd : inR d) (hq : Q (some (vi (aNow (I 32 9) d))) (if 0 ≤ d ∧ d ≤ 999 then up I 32 9 d else I, L, R, n)) : Wp mX12_now 0 [some (vr (some 32)), some (vi d), none] [] (I, L, R, n) (0, 0) Q := by
  refine Wp.iload_n rfl dX12_now_0 ?_
  refine Wp.i2l (by first | omega | exact bI_R _ | exact cmp_R _ _ | assumption) dX12_now_1 ?_
  refine Wp.lconst0 dX12_now_2 ?_
  refine Wp.ldc2_w (b := 999#64) ckX12_151 rfl dX12_now_3 ?_
  refine Wp.callS (As := [_, _, _]) (ls0 := [_, _, _, _, _, _]) (bd := (0, 0)) (bd' := (0, 0)) dX12_now_6 kmX12_in lkX12_100 (by decide) (by decide) (Nat.le_of_ble_eq_true rfl) rfl rfl (Nat.le_of_ble_eq_true rfl) rfl ?_
  refine ct_X12_in (a := 0) (b := 999) (ofI_toInt hd) rfl rfl ?_
  show Wp _ _ _ (_ :: _) _ _ _
  refine Wp.if_neB (tgt := 16) dX12_now_9 (by decide) (fun c9 => ?_) (fun c9 => ?_)
  · refine Wp.aload_n rfl dX12_now_16 ?_
    refine Wp.gi (kz := 9) rfl dX12_now_17 fkX12_35 (by first | rfl | exact kd_b0 _ | exact kd_b1 _ | exact kd_b2 _ | exact kd_b3 _ | exact kd_b4 _ | exact kd_b5 _ | exact kd_b6 _) (by omega) ?_
    refine Wp.istore_n (ls' := [_, _, _]) dX12_now_20 (by decide) rfl ?_
    refine Wp.aload_n rfl dX12_now_21 ?_
    refine Wp.iload_n rfl dX12_now_22 ?_
    refine Wp.pi (kz := 9) rfl dX12_now_23 fkX12_35 (Or.inl rfl) (Or.inl rfl) (by first | rfl | exact kd_b0 _ | exact kd_b1 _ | exact kd_b2 _ | exact kd_b3 _ | exact kd_b4 _ | exact kd_b5 _ | exact kd_b6 _) (by omega) ?_
    refine Wp.iload_n rfl dX12_now_26 ?_
    refine Wp.ireturn dX12_now_27 rfl ?_
    first | (exfalso; omega) | (exact qIM hq (by unfold aNow; split <;> first | rfl | (exfalso; omega)) (by split <;> first | rfl | (exfalso; omega)))
  · refine Wp.sipush rfl dX12_now_12 ?_
    refine Wp.ireturn dX12_now_15 rfl ?_
    first | (exfalso; omega) | (exact qIM hq (by unfold aNow; split <;> first | rfl | (exfalso; omega)) (by split <;> first | rfl | (exfalso; omega)))
theorem ct_X12_taste {d : Int} (hn : 57 ≤ n) (hd : d = 0 ∨ d = 1) (hA : I 32 10 = 0 ∨ I 32 10 = 1) (hq : Q (some (vi (I 32 10))) (up I 32 10 d, L, R, n)) : Wp mX12_taste 0 [some (vr (some 32)), some (vi d), none] [] (I, L, R, n) (0, 0) Q := by
  refine Wp.aload_n rfl dX12_taste_0 ?_
  refine Wp.gi (kz := 10) rfl dX12_taste_1 fkX12_39 (by first | rfl | exact kd_b0 _ | exact kd_b1 _ | exact kd_b2 _ | exact kd_b3 _ | exact kd_b4 _ | exact kd_b5 _ | exact kd_b6 _) (by omega) ?_
  refine Wp.if_eq (tgt := 11) dX12_taste_4 (by decide) (by first | omega | exact bI_R _ | exact cmp_R _ _ | assumption) (fun c4 => ?_) (fun c4 => ?_)
  · refine Wp.iconst dX12_taste_11 ?_
    refine Wp.istore_n (ls' := [_, _, _]) dX12_taste_12 (by decide) rfl ?_
    refine Wp.aload_n rfl dX12_taste_13 ?_
    refine Wp.iload_n rfl dX12_taste_14 ?_
    refine Wp.pi (kz := 10) rfl dX12_taste_15 fkX12_39 (Or.inl rfl) (Or.inr (by omega)) (by first | rfl | exact kd_b0 _ | exact kd_b1 _ | exact kd_b2 _ | exact kd_b3 _ | exact kd_b4 _ | exact kd_b5 _ | exact kd_b6 _) (by omega) ?_
    refine Wp.iload_n rfl dX12_taste_18 ?_
    refine Wp.ireturn dX12_taste_19 rfl ?_
    first | (exfalso; omega) | (exact qIM hq (by omega) rfl)
  · refine Wp.iconst dX12_taste_7 ?_
    refine Wp.goto (tgt := 12) dX12_taste_8 (by decide) ?_
    refine Wp.istore_n (ls' := [_, _, _]) dX12_taste_12 (by decide) rfl ?_
    refine Wp.aload_n rfl dX12_taste_13 ?_
    refine Wp.iload_n rfl dX12_taste_14 ?_
    refine Wp.pi (kz := 10) rfl dX12_taste_15 fkX12_39 (Or.inl rfl) (Or.inr (by omega)) (by first | rfl | exact kd_b0 _ | exact kd_b1 _ | exact kd_b2 _ | exact kd_b3 _ | exact kd_b4 _ | exact kd_b5 _ | exact kd_b6 _) (by omega) ?_
    refine Wp.iload_n rfl dX12_taste_18 ?_
    refine Wp.ireturn dX12_taste_19 rfl ?_
    first | (exfalso; omega) | (exact qIM hq (by omega) rfl)
theorem ct_X12_count {what : Int} (hn : 57 ≤ n) (hw : inR what) (hq : Q (some (vi (aCount (I 32 0) (I 32 13) (I 32 25) (I 32 30) (I 32 35) what))) (I, L, R, n)) : Wp mX12_count 0 [some (vr (some 32)), some (vi what)] [] (I, L, R, n) (0, 0) Q := by
  refine Wp.iload_n rfl dX12_count_0 ?_
  rcases (show what < 0 ∨ 4 < what ∨ what = 0 ∨ what = 1 ∨ what = 2 ∨ what = 3 ∨ what = 4 by omega) with c1 | c1 | c1 | c1 | c1 | c1 | c1
  · refine Wp.tableOut (tgt := 61) dX12_count_1 (by first | omega | exact bI_R _ | exact cmp_R _ _ | assumption) (by omega) (by decide) ?_
    refine Wp.sipush rfl dX12_count_61 ?_
    refine Wp.ireturn dX12_count_64 rfl ?_
    first | (exfalso; omega) | (exact qI hq (by unfold aCount; (repeat' split) <;> first | rfl | (exfalso; omega)))
  · refine Wp.tableOut (tgt := 61) dX12_count_1 (by first | omega | exact bI_R _ | exact cmp_R _ _ | assumption) (by omega) (by decide) ?_
    refine Wp.sipush rfl dX12_count_61 ?_
    refine Wp.ireturn dX12_count_64 rfl ?_
    first | (exfalso; omega) | (exact qI hq (by unfold aCount; (repeat' split) <;> first | rfl | (exfalso; omega)))
  · subst c1
    refine Wp.tableIn (tgt := 36) dX12_count_1 (by omega) (by decide) (by decide) rfl (by decide) ?_
    refine Wp.aload_n rfl dX12_count_36 ?_
    refine Wp.gi (kz := 0) rfl dX12_count_37 fkX12_153 (by first | rfl | exact kd_b0 _ | exact kd_b1 _ | exact kd_b2 _ | exact kd_b3 _ | exact kd_b4 _ | exact kd_b5 _ | exact kd_b6 _) (by omega) ?_
    refine Wp.ireturn dX12_count_40 rfl ?_
    first | (exfalso; omega) | (exact qI hq (by unfold aCount; (repeat' split) <;> first | rfl | (exfalso; omega)))
  · subst c1
    refine Wp.tableIn (tgt := 41) dX12_count_1 (by omega) (by decide) (by decide) rfl (by decide) ?_
    refine Wp.aload_n rfl dX12_count_41 ?_
    refine Wp.gi (kz := 13) rfl dX12_count_42 fkX12_108 (by first | rfl | exact kd_b0 _ | exact kd_b1 _ | exact kd_b2 _ | exact kd_b3 _ | exact kd_b4 _ | exact kd_b5 _ | exact kd_b6 _) (by omega) ?_
    refine Wp.ireturn dX12_count_45 rfl ?_
    first | (exfalso; omega) | (exact qI hq (by unfold aCount; (repeat' split) <;> first | rfl | (exfalso; omega)))
  · subst c1
    refine Wp.tableIn (tgt := 46) dX12_count_1 (by omega) (by decide) (by decide) rfl (by decide) ?_
    refine Wp.aload_n rfl dX12_count_46 ?_
    refine Wp.gi (kz := 25) rfl dX12_count_47 fkX12_159 (by first | rfl | exact kd_b0 _ | exact kd_b1 _ | exact kd_b2 _ | exact kd_b3 _ | exact kd_b4 _ | exact kd_b5 _ | exact kd_b6 _) (by omega) ?_
    refine Wp.ireturn dX12_count_50 rfl ?_
    first | (exfalso; omega) | (exact qI hq (by unfold aCount; (repeat' split) <;> first | rfl | (exfalso; omega)))
  · subst c1
    refine Wp.tableIn (tgt := 51) dX12_count_1 (by omega) (by decide) (by decide) rfl (by decide) ?_
    refine Wp.aload_n rfl dX12_count_51 ?_
    refine Wp.gi (kz := 30) rfl dX12_count_52 fkX12_162 (by first | rfl | exact kd_b0 _ | exact kd_b1 _ | exact kd_b2 _ | exact kd_b3 _ | exact kd_b4 _ | exact kd_b5 _ | exact kd_b6 _) (by omega) ?_
    refine Wp.ireturn dX12_count_55 rfl ?_
    first | (exfalso; omega) | (exact qI hq (by unfold aCount; (repeat' split) <;> first | rfl | (exfalso; omega)))
  · subst c1
    refine Wp.tableIn (tgt := 56) dX12_count_1 (by omega) (by decide) (by decide) rfl (by decide) ?_
    refine Wp.aload_n rfl dX12_count_56 ?_
    refine Wp.gi (kz := 35) rfl dX12_count_57 fkX12_165 (by first | rfl | exact kd_b0 _ | exact kd_b1 _ | exact kd_b2 _ | exact kd_b3 _ | exact kd_b4 _ | exact kd_b5 _ | exact kd_b6 _) (by omega) ?_
    refine Wp.ireturn dX12_count_60 rfl ?_
    first | (exfalso; omega) | (exact qI hq (by unfold aCount; (repeat' split) <;> first | rfl | (exfalso; omega)))
theorem ct_X12_clear (hn : 57 ≤ n) (hq : Q (some (vi (I 32 35))) (up I 32 35 0, L, R, n)) : Wp mX12_clear 0 [some (vr (some 32)), none] [] (I, L, R, n) (0, 0) Q := by
  refine Wp.aload_n rfl dX12_clear_0 ?_
  refine Wp.gi (kz := 35) rfl dX12_clear_1 fkX12_165 (by first | rfl | exact kd_b0 _ | exact kd_b1 _ | exact kd_b2 _ | exact kd_b3 _ | exact kd_b4 _ | exact kd_b5 _ | exact kd_b6 _) (by omega) ?_
  refine Wp.istore_n (ls' := [_, _]) dX12_clear_4 (by decide) rfl ?_
  refine Wp.aload_n rfl dX12_clear_5 ?_
  refine Wp.iconst dX12_clear_6 ?_
  refine Wp.pi (kz := 35) rfl dX12_clear_7 fkX12_165 (Or.inl rfl) (Or.inl rfl) (by first | rfl | exact kd_b0 _ | exact kd_b1 _ | exact kd_b2 _ | exact kd_b3 _ | exact kd_b4 _ | exact kd_b5 _ | exact kd_b6 _) (by omega) ?_
  refine Wp.iload_n rfl dX12_clear_10 ?_
  refine Wp.ireturn dX12_clear_11 rfl ?_
  first | exact hq | (exfalso; omega) | exact qI hq (by omega)
theorem ct_X12_pair {a x y s : Int} (hn : 57 ≤ n) (hFx : Fx R) (ha : inR a) (hx : inR x) (hy : inR y) (hs : inR s) (h0 : 0 ≤ I 32 30) (h1 : I 32 30 ≤ 40) (hq : Q (some (vi (aPair (I 32 30) a x y s))) (if okPair (I 32 30) a x y s then up (up (up (up (up I 47 (I 32 30) a) 48 (I 32 30) x) 49 (I 32 30) y) 50 (I 32 30) s) 32 30 (I 32 30 + 1) else I, L, R, n)) : Wp mX12_pair 0 [some (vr (some 32)), some (vi a), some (vi x), some (vi y), some (vi s)] [] (I, L, R, n) (0, 0) Q := by
  refine Wp.iload_n rfl dX12_pair_0 ?_
  refine Wp.callS (As := [_]) (ls0 := [_]) (bd := (0, 0)) (bd' := (0, 0)) dX12_pair_1 kmX12_isTongue lkX12_147 (by decide) (by decide) (Nat.le_of_ble_eq_true rfl) rfl rfl (Nat.le_of_ble_eq_true rfl) rfl ?_
  refine ct_X12_isTongue (by omega) ?_
  show Wp _ _ _ (_ :: _) _ _ _
  refine Wp.if_eqB (tgt := 21) dX12_pair_4 (by decide) (fun c4 => ?_) (fun c4 => ?_)
  · refine Wp.sipush rfl dX12_pair_21 ?_
    refine Wp.ireturn dX12_pair_24 rfl ?_
    first | (exfalso; omega) | (exact qIM hq (by unfold aPair; (repeat' split) <;> first | rfl | omega | (exfalso; omega)) (by split <;> first | rfl | (exfalso; omega)))
  · refine Wp.iload_n rfl dX12_pair_7 ?_
    refine Wp.callS (As := [_]) (ls0 := [_]) (bd := (0, 0)) (bd' := (0, 0)) dX12_pair_8 kmX12_isWord lkX12_182 (by decide) (by decide) (Nat.le_of_ble_eq_true rfl) rfl rfl (Nat.le_of_ble_eq_true rfl) rfl ?_
    refine ct_X12_isWord (by omega) ?_
    show Wp _ _ _ (_ :: _) _ _ _
    refine Wp.if_eqB (tgt := 21) dX12_pair_11 (by decide) (fun c11 => ?_) (fun c11 => ?_)
    · refine Wp.sipush rfl dX12_pair_21 ?_
      refine Wp.ireturn dX12_pair_24 rfl ?_
      first | (exfalso; omega) | (exact qIM hq (by unfold aPair; (repeat' split) <;> first | rfl | omega | (exfalso; omega)) (by split <;> first | rfl | (exfalso; omega)))
    · refine Wp.iload_n rfl dX12_pair_14 ?_
      refine Wp.callS (As := [_]) (ls0 := [_]) (bd := (0, 0)) (bd' := (0, 0)) dX12_pair_15 kmX12_isWord lkX12_182 (by decide) (by decide) (Nat.le_of_ble_eq_true rfl) rfl rfl (Nat.le_of_ble_eq_true rfl) rfl ?_
      refine ct_X12_isWord (by omega) ?_
      show Wp _ _ _ (_ :: _) _ _ _
      refine Wp.if_neB (tgt := 25) dX12_pair_18 (by decide) (fun c18 => ?_) (fun c18 => ?_)
      · refine Wp.iload rfl dX12_pair_25 ?_
        refine Wp.i2l (by first | omega | exact bI_R _ | exact cmp_R _ _ | assumption) dX12_pair_27 ?_
        refine Wp.lconst1 dX12_pair_28 ?_
        refine Wp.ldc2_w (b := 99#64) ckX12_252 rfl dX12_pair_29 ?_
        refine Wp.callS (As := [_, _, _]) (ls0 := [_, _, _, _, _, _]) (bd := (0, 0)) (bd' := (0, 0)) dX12_pair_32 kmX12_in lkX12_100 (by decide) (by decide) (Nat.le_of_ble_eq_true rfl) rfl rfl (Nat.le_of_ble_eq_true rfl) rfl ?_
        refine ct_X12_in (a := 1) (b := 99) (ofI_toInt hs) rfl rfl ?_
        show Wp _ _ _ (_ :: _) _ _ _
        refine Wp.if_neB (tgt := 42) dX12_pair_35 (by decide) (fun c35 => ?_) (fun c35 => ?_)
        · refine Wp.aload_n rfl dX12_pair_42 ?_
          refine Wp.gi (kz := 30) rfl dX12_pair_43 fkX12_162 (by first | rfl | exact kd_b0 _ | exact kd_b1 _ | exact kd_b2 _ | exact kd_b3 _ | exact kd_b4 _ | exact kd_b5 _ | exact kd_b6 _) (by omega) ?_
          refine Wp.bipush rfl dX12_pair_46 ?_
          refine Wp.icmp_ne (tgt := 55) dX12_pair_48 (by decide) (by first | omega | exact bI_R _ | exact cmp_R _ _ | assumption) (by first | omega | exact bI_R _ | exact cmp_R _ _ | assumption) (fun c48 => ?_) (fun c48 => ?_)
          · refine Wp.aload_n rfl dX12_pair_55 ?_
            refine Wp.gr (kz := 31) rfl dX12_pair_56 fkX12_68 (by first | rfl | exact kd_b0 _ | exact kd_b1 _ | exact kd_b2 _ | exact kd_b3 _ | exact kd_b4 _ | exact kd_b5 _ | exact kd_b6 _) (by omega) (by first | exact hFx _ 31 _ rfl | assumption | exact hBk.1 | exact hBk.2.1 | exact hBk.2.2.1 | exact hBk.2.2.2.1 | exact hBk.2.2.2.2.1 | exact hBk.2.2.2.2.2) ?_
            refine Wp.aload_n rfl dX12_pair_59 ?_
            refine Wp.gi (kz := 30) rfl dX12_pair_60 fkX12_162 (by first | rfl | exact kd_b0 _ | exact kd_b1 _ | exact kd_b2 _ | exact kd_b3 _ | exact kd_b4 _ | exact kd_b5 _ | exact kd_b6 _) (by omega) ?_
            refine Wp.iload_n rfl dX12_pair_63 ?_
            refine Wp.iastore dX12_pair_64 (by first | rfl | exact kd_b0 _ | exact kd_b1 _ | exact kd_b2 _ | exact kd_b3 _ | exact kd_b4 _ | exact kd_b5 _ | exact kd_b6 _) (by omega) (by omega) (by omega) ?_
            refine Wp.aload_n rfl dX12_pair_65 ?_
            refine Wp.gr (kz := 32) rfl dX12_pair_66 fkX12_71 (by first | rfl | exact kd_b0 _ | exact kd_b1 _ | exact kd_b2 _ | exact kd_b3 _ | exact kd_b4 _ | exact kd_b5 _ | exact kd_b6 _) (by omega) (by first | exact hFx _ 32 _ rfl | assumption | exact hBk.1 | exact hBk.2.1 | exact hBk.2.2.1 | exact hBk.2.2.2.1 | exact hBk.2.2.2.2.1 | exact hBk.2.2.2.2.2) ?_
            try simp (disch := omega) only [up_same, up_o, up_k]
            refine Wp.aload_n rfl dX12_pair_69 ?_
            refine Wp.gi (kz := 30) rfl dX12_pair_70 fkX12_162 (by first | rfl | exact kd_b0 _ | exact kd_b1 _ | exact kd_b2 _ | exact kd_b3 _ | exact kd_b4 _ | exact kd_b5 _ | exact kd_b6 _) (by omega) ?_
            try simp (disch := omega) only [up_same, up_o, up_k]
            refine Wp.iload_n rfl dX12_pair_73 ?_
            refine Wp.iastore dX12_pair_74 (by first | rfl | exact kd_b0 _ | exact kd_b1 _ | exact kd_b2 _ | exact kd_b3 _ | exact kd_b4 _ | exact kd_b5 _ | exact kd_b6 _) (by omega) (by omega) (by omega) ?_
            refine Wp.aload_n rfl dX12_pair_75 ?_
            refine Wp.gr (kz := 33) rfl dX12_pair_76 fkX12_74 (by first | rfl | exact kd_b0 _ | exact kd_b1 _ | exact kd_b2 _ | exact kd_b3 _ | exact kd_b4 _ | exact kd_b5 _ | exact kd_b6 _) (by omega) (by first | exact hFx _ 33 _ rfl | assumption | exact hBk.1 | exact hBk.2.1 | exact hBk.2.2.1 | exact hBk.2.2.2.1 | exact hBk.2.2.2.2.1 | exact hBk.2.2.2.2.2) ?_
            try simp (disch := omega) only [up_same, up_o, up_k]
            refine Wp.aload_n rfl dX12_pair_79 ?_
            refine Wp.gi (kz := 30) rfl dX12_pair_80 fkX12_162 (by first | rfl | exact kd_b0 _ | exact kd_b1 _ | exact kd_b2 _ | exact kd_b3 _ | exact kd_b4 _ | exact kd_b5 _ | exact kd_b6 _) (by omega) ?_
            try simp (disch := omega) only [up_same, up_o, up_k]
            refine Wp.iload_n rfl dX12_pair_83 ?_
            refine Wp.iastore dX12_pair_84 (by first | rfl | exact kd_b0 _ | exact kd_b1 _ | exact kd_b2 _ | exact kd_b3 _ | exact kd_b4 _ | exact kd_b5 _ | exact kd_b6 _) (by omega) (by omega) (by omega) ?_
            refine Wp.aload_n rfl dX12_pair_85 ?_
            refine Wp.gr (kz := 34) rfl dX12_pair_86 fkX12_77 (by first | rfl | exact kd_b0 _ | exact kd_b1 _ | exact kd_b2 _ | exact kd_b3 _ | exact kd_b4 _ | exact kd_b5 _ | exact kd_b6 _) (by omega) (by first | exact hFx _ 34 _ rfl | assumption | exact hBk.1 | exact hBk.2.1 | exact hBk.2.2.1 | exact hBk.2.2.2.1 | exact hBk.2.2.2.2.1 | exact hBk.2.2.2.2.2) ?_
            try simp (disch := omega) only [up_same, up_o, up_k]
            refine Wp.aload_n rfl dX12_pair_89 ?_
            refine Wp.gi (kz := 30) rfl dX12_pair_90 fkX12_162 (by first | rfl | exact kd_b0 _ | exact kd_b1 _ | exact kd_b2 _ | exact kd_b3 _ | exact kd_b4 _ | exact kd_b5 _ | exact kd_b6 _) (by omega) ?_
            try simp (disch := omega) only [up_same, up_o, up_k]
            refine Wp.iload rfl dX12_pair_93 ?_
            refine Wp.iastore dX12_pair_95 (by first | rfl | exact kd_b0 _ | exact kd_b1 _ | exact kd_b2 _ | exact kd_b3 _ | exact kd_b4 _ | exact kd_b5 _ | exact kd_b6 _) (by omega) (by omega) (by omega) ?_
            refine Wp.aload_n rfl dX12_pair_96 ?_
            first | refine Wp.dupR dX12_pair_97 ?_ | refine Wp.dupI dX12_pair_97 ?_
            refine Wp.gi (kz := 30) rfl dX12_pair_98 fkX12_162 (by first | rfl | exact kd_b0 _ | exact kd_b1 _ | exact kd_b2 _ | exact kd_b3 _ | exact kd_b4 _ | exact kd_b5 _ | exact kd_b6 _) (by omega) ?_
            try simp (disch := omega) only [up_same, up_o, up_k]
            refine Wp.iconst dX12_pair_101 ?_
            refine Wp.iadd dX12_pair_102 ?_
            refine Wp.pi (kz := 30) rfl dX12_pair_103 fkX12_162 (Or.inl rfl) (Or.inl rfl) (by first | rfl | exact kd_b0 _ | exact kd_b1 _ | exact kd_b2 _ | exact kd_b3 _ | exact kd_b4 _ | exact kd_b5 _ | exact kd_b6 _) (by omega) ?_
            refine Wp.aload_n rfl dX12_pair_106 ?_
            refine Wp.gi (kz := 30) rfl dX12_pair_107 fkX12_162 (by first | rfl | exact kd_b0 _ | exact kd_b1 _ | exact kd_b2 _ | exact kd_b3 _ | exact kd_b4 _ | exact kd_b5 _ | exact kd_b6 _) (by omega) ?_
            try simp (disch := omega) only [up_same, up_o, up_k]
            refine Wp.ireturn dX12_pair_110 rfl ?_
            first | (exfalso; omega) | (exact qIM hq (by unfold aPair; (repeat' split) <;> first | rfl | omega | (exfalso; omega)) (by split <;> first | rfl | (exfalso; omega)))
          · refine Wp.sipush rfl dX12_pair_51 ?_
            refine Wp.ireturn dX12_pair_54 rfl ?_
            first | (exfalso; omega) | (exact qIM hq (by unfold aPair; (repeat' split) <;> first | rfl | omega | (exfalso; omega)) (by split <;> first | rfl | (exfalso; omega)))
        · refine Wp.sipush rfl dX12_pair_38 ?_
          refine Wp.ireturn dX12_pair_41 rfl ?_
          first | (exfalso; omega) | (exact qIM hq (by unfold aPair; (repeat' split) <;> first | rfl | omega | (exfalso; omega)) (by split <;> first | rfl | (exfalso; omega)))
      · refine Wp.sipush rfl dX12_pair_21 ?_
        refine Wp.ireturn dX12_pair_24 rfl ?_
        first | (exfalso; omega) | (exact qIM hq (by unfold aPair; (repeat' split) <;> first | rfl | omega | (exfalso; omega)) (by split <;> first | rfl | (exfalso; omega)))
theorem ct_X12_say {a w : Int} (hn : 57 ≤ n) (hFx : Fx R) (ha : inR a) (hw : inR w) (h0 : 0 ≤ I 32 35) (h1 : I 32 35 ≤ 10) (h2 : inR (I 32 36)) (hq : Q (some (vi (aSay (I 32 35) (I 32 36) a w))) (if okSay (I 32 35) (I 32 36) a w then up (up (up I 32 36 a) 51 (I 32 35) w) 32 35 (I 32 35 + 1) else I, L, R, n)) : Wp mX12_say 0 [some (vr (some 32)), some (vi a), some (vi w)] [] (I, L, R, n) (0, 0) Q := by
  refine Wp.iload_n rfl dX12_say_0 ?_
  refine Wp.callS (As := [_]) (ls0 := [_]) (bd := (0, 0)) (bd' := (0, 0)) dX12_say_1 kmX12_isTongue lkX12_147 (by decide) (by decide) (Nat.le_of_ble_eq_true rfl) rfl rfl (Nat.le_of_ble_eq_true rfl) rfl ?_
  refine ct_X12_isTongue (by omega) ?_
  show Wp _ _ _ (_ :: _) _ _ _
  refine Wp.if_eqB (tgt := 14) dX12_say_4 (by decide) (fun c4 => ?_) (fun c4 => ?_)
  · refine Wp.sipush rfl dX12_say_14 ?_
    refine Wp.ireturn dX12_say_17 rfl ?_
    first | (exfalso; omega) | (exact qIM hq (by unfold aSay; (repeat' split) <;> first | rfl | omega | (exfalso; omega)) (by split <;> first | rfl | (exfalso; omega)))
  · refine Wp.iload_n rfl dX12_say_7 ?_
    refine Wp.callS (As := [_]) (ls0 := [_]) (bd := (0, 0)) (bd' := (0, 0)) dX12_say_8 kmX12_isWord lkX12_182 (by decide) (by decide) (Nat.le_of_ble_eq_true rfl) rfl rfl (Nat.le_of_ble_eq_true rfl) rfl ?_
    refine ct_X12_isWord (by omega) ?_
    show Wp _ _ _ (_ :: _) _ _ _
    refine Wp.if_neB (tgt := 18) dX12_say_11 (by decide) (fun c11 => ?_) (fun c11 => ?_)
    · refine Wp.aload_n rfl dX12_say_18 ?_
      refine Wp.gi (kz := 35) rfl dX12_say_19 fkX12_165 (by first | rfl | exact kd_b0 _ | exact kd_b1 _ | exact kd_b2 _ | exact kd_b3 _ | exact kd_b4 _ | exact kd_b5 _ | exact kd_b6 _) (by omega) ?_
      refine Wp.if_le (tgt := 37) dX12_say_22 (by decide) (by first | omega | exact bI_R _ | exact cmp_R _ _ | assumption) (fun c22 => ?_) (fun c22 => ?_)
      · refine Wp.aload_n rfl dX12_say_37 ?_
        refine Wp.gi (kz := 35) rfl dX12_say_38 fkX12_165 (by first | rfl | exact kd_b0 _ | exact kd_b1 _ | exact kd_b2 _ | exact kd_b3 _ | exact kd_b4 _ | exact kd_b5 _ | exact kd_b6 _) (by omega) ?_
        refine Wp.bipush rfl dX12_say_41 ?_
        refine Wp.icmp_ne (tgt := 50) dX12_say_43 (by decide) (by first | omega | exact bI_R _ | exact cmp_R _ _ | assumption) (by first | omega | exact bI_R _ | exact cmp_R _ _ | assumption) (fun c43 => ?_) (fun c43 => ?_)
        · refine Wp.aload_n rfl dX12_say_50 ?_
          refine Wp.iload_n rfl dX12_say_51 ?_
          refine Wp.pi (kz := 36) rfl dX12_say_52 fkX12_254 (Or.inl rfl) (Or.inl rfl) (by first | rfl | exact kd_b0 _ | exact kd_b1 _ | exact kd_b2 _ | exact kd_b3 _ | exact kd_b4 _ | exact kd_b5 _ | exact kd_b6 _) (by omega) ?_
          refine Wp.aload_n rfl dX12_say_55 ?_
          refine Wp.gr (kz := 37) rfl dX12_say_56 fkX12_80 (by first | rfl | exact kd_b0 _ | exact kd_b1 _ | exact kd_b2 _ | exact kd_b3 _ | exact kd_b4 _ | exact kd_b5 _ | exact kd_b6 _) (by omega) (by first | exact hFx _ 37 _ rfl | assumption | exact hBk.1 | exact hBk.2.1 | exact hBk.2.2.1 | exact hBk.2.2.2.1 | exact hBk.2.2.2.2.1 | exact hBk.2.2.2.2.2) ?_
          try simp (disch := omega) only [up_same, up_o, up_k]
          refine Wp.aload_n rfl dX12_say_59 ?_
          refine Wp.gi (kz := 35) rfl dX12_say_60 fkX12_165 (by first | rfl | exact kd_b0 _ | exact kd_b1 _ | exact kd_b2 _ | exact kd_b3 _ | exact kd_b4 _ | exact kd_b5 _ | exact kd_b6 _) (by omega) ?_
          try simp (disch := omega) only [up_same, up_o, up_k]
          refine Wp.iload_n rfl dX12_say_63 ?_
          refine Wp.iastore dX12_say_64 (by first | rfl | exact kd_b0 _ | exact kd_b1 _ | exact kd_b2 _ | exact kd_b3 _ | exact kd_b4 _ | exact kd_b5 _ | exact kd_b6 _) (by omega) (by omega) (by omega) ?_
          refine Wp.aload_n rfl dX12_say_65 ?_
          first | refine Wp.dupR dX12_say_66 ?_ | refine Wp.dupI dX12_say_66 ?_
          refine Wp.gi (kz := 35) rfl dX12_say_67 fkX12_165 (by first | rfl | exact kd_b0 _ | exact kd_b1 _ | exact kd_b2 _ | exact kd_b3 _ | exact kd_b4 _ | exact kd_b5 _ | exact kd_b6 _) (by omega) ?_
          try simp (disch := omega) only [up_same, up_o, up_k]
          refine Wp.iconst dX12_say_70 ?_
          refine Wp.iadd dX12_say_71 ?_
          refine Wp.pi (kz := 35) rfl dX12_say_72 fkX12_165 (Or.inl rfl) (Or.inl rfl) (by first | rfl | exact kd_b0 _ | exact kd_b1 _ | exact kd_b2 _ | exact kd_b3 _ | exact kd_b4 _ | exact kd_b5 _ | exact kd_b6 _) (by omega) ?_
          refine Wp.aload_n rfl dX12_say_75 ?_
          refine Wp.gi (kz := 35) rfl dX12_say_76 fkX12_165 (by first | rfl | exact kd_b0 _ | exact kd_b1 _ | exact kd_b2 _ | exact kd_b3 _ | exact kd_b4 _ | exact kd_b5 _ | exact kd_b6 _) (by omega) ?_
          try simp (disch := omega) only [up_same, up_o, up_k]
          refine Wp.ireturn dX12_say_79 rfl ?_
          first | (exfalso; omega) | (exact qIM hq (by unfold aSay; (repeat' split) <;> first | rfl | omega | (exfalso; omega)) (by split <;> first | rfl | (exfalso; omega)))
        · refine Wp.sipush rfl dX12_say_46 ?_
          refine Wp.ireturn dX12_say_49 rfl ?_
          first | (exfalso; omega) | (exact qIM hq (by unfold aSay; (repeat' split) <;> first | rfl | omega | (exfalso; omega)) (by split <;> first | rfl | (exfalso; omega)))
      · refine Wp.iload_n rfl dX12_say_25 ?_
        refine Wp.aload_n rfl dX12_say_26 ?_
        refine Wp.gi (kz := 36) rfl dX12_say_27 fkX12_254 (by first | rfl | exact kd_b0 _ | exact kd_b1 _ | exact kd_b2 _ | exact kd_b3 _ | exact kd_b4 _ | exact kd_b5 _ | exact kd_b6 _) (by omega) ?_
        refine Wp.icmp_eq (tgt := 37) dX12_say_30 (by decide) (by first | omega | exact bI_R _ | exact cmp_R _ _ | assumption) (by first | omega | exact bI_R _ | exact cmp_R _ _ | assumption) (fun c30 => ?_) (fun c30 => ?_)
        · refine Wp.aload_n rfl dX12_say_37 ?_
          refine Wp.gi (kz := 35) rfl dX12_say_38 fkX12_165 (by first | rfl | exact kd_b0 _ | exact kd_b1 _ | exact kd_b2 _ | exact kd_b3 _ | exact kd_b4 _ | exact kd_b5 _ | exact kd_b6 _) (by omega) ?_
          refine Wp.bipush rfl dX12_say_41 ?_
          refine Wp.icmp_ne (tgt := 50) dX12_say_43 (by decide) (by first | omega | exact bI_R _ | exact cmp_R _ _ | assumption) (by first | omega | exact bI_R _ | exact cmp_R _ _ | assumption) (fun c43 => ?_) (fun c43 => ?_)
          · refine Wp.aload_n rfl dX12_say_50 ?_
            refine Wp.iload_n rfl dX12_say_51 ?_
            refine Wp.pi (kz := 36) rfl dX12_say_52 fkX12_254 (Or.inl rfl) (Or.inl rfl) (by first | rfl | exact kd_b0 _ | exact kd_b1 _ | exact kd_b2 _ | exact kd_b3 _ | exact kd_b4 _ | exact kd_b5 _ | exact kd_b6 _) (by omega) ?_
            refine Wp.aload_n rfl dX12_say_55 ?_
            refine Wp.gr (kz := 37) rfl dX12_say_56 fkX12_80 (by first | rfl | exact kd_b0 _ | exact kd_b1 _ | exact kd_b2 _ | exact kd_b3 _ | exact kd_b4 _ | exact kd_b5 _ | exact kd_b6 _) (by omega) (by first | exact hFx _ 37 _ rfl | assumption | exact hBk.1 | exact hBk.2.1 | exact hBk.2.2.1 | exact hBk.2.2.2.1 | exact hBk.2.2.2.2.1 | exact hBk.2.2.2.2.2) ?_
            try simp (disch := omega) only [up_same, up_o, up_k]
            refine Wp.aload_n rfl dX12_say_59 ?_
            refine Wp.gi (kz := 35) rfl dX12_say_60 fkX12_165 (by first | rfl | exact kd_b0 _ | exact kd_b1 _ | exact kd_b2 _ | exact kd_b3 _ | exact kd_b4 _ | exact kd_b5 _ | exact kd_b6 _) (by omega) ?_
            try simp (disch := omega) only [up_same, up_o, up_k]
            refine Wp.iload_n rfl dX12_say_63 ?_
            refine Wp.iastore dX12_say_64 (by first | rfl | exact kd_b0 _ | exact kd_b1 _ | exact kd_b2 _ | exact kd_b3 _ | exact kd_b4 _ | exact kd_b5 _ | exact kd_b6 _) (by omega) (by omega) (by omega) ?_
            refine Wp.aload_n rfl dX12_say_65 ?_
            first | refine Wp.dupR dX12_say_66 ?_ | refine Wp.dupI dX12_say_66 ?_
            refine Wp.gi (kz := 35) rfl dX12_say_67 fkX12_165 (by first | rfl | exact kd_b0 _ | exact kd_b1 _ | exact kd_b2 _ | exact kd_b3 _ | exact kd_b4 _ | exact kd_b5 _ | exact kd_b6 _) (by omega) ?_
            try simp (disch := omega) only [up_same, up_o, up_k]
            refine Wp.iconst dX12_say_70 ?_
            refine Wp.iadd dX12_say_71 ?_
            refine Wp.pi (kz := 35) rfl dX12_say_72 fkX12_165 (Or.inl rfl) (Or.inl rfl) (by first | rfl | exact kd_b0 _ | exact kd_b1 _ | exact kd_b2 _ | exact kd_b3 _ | exact kd_b4 _ | exact kd_b5 _ | exact kd_b6 _) (by omega) ?_
            refine Wp.aload_n rfl dX12_say_75 ?_
            refine Wp.gi (kz := 35) rfl dX12_say_76 fkX12_165 (by first | rfl | exact kd_b0 _ | exact kd_b1 _ | exact kd_b2 _ | exact kd_b3 _ | exact kd_b4 _ | exact kd_b5 _ | exact kd_b6 _) (by omega) ?_
            try simp (disch := omega) only [up_same, up_o, up_k]
            refine Wp.ireturn dX12_say_79 rfl ?_
            first | (exfalso; omega) | (exact qIM hq (by unfold aSay; (repeat' split) <;> first | rfl | omega | (exfalso; omega)) (by split <;> first | rfl | (exfalso; omega)))
          · refine Wp.sipush rfl dX12_say_46 ?_
            refine Wp.ireturn dX12_say_49 rfl ?_
            first | (exfalso; omega) | (exact qIM hq (by unfold aSay; (repeat' split) <;> first | rfl | omega | (exfalso; omega)) (by split <;> first | rfl | (exfalso; omega)))
        · refine Wp.sipush rfl dX12_say_33 ?_
          refine Wp.ireturn dX12_say_36 rfl ?_
          first | (exfalso; omega) | (exact qIM hq (by unfold aSay; (repeat' split) <;> first | rfl | omega | (exfalso; omega)) (by split <;> first | rfl | (exfalso; omega)))
    · refine Wp.sipush rfl dX12_say_14 ?_
      refine Wp.ireturn dX12_say_17 rfl ?_
      first | (exfalso; omega) | (exact qIM hq (by unfold aSay; (repeat' split) <;> first | rfl | omega | (exfalso; omega)) (by split <;> first | rfl | (exfalso; omega)))
theorem ct_X12_feed {nn : Int} {b : BitVec 64} (hn : 57 ≤ n) (hFx : Fx R) (hnn : inR nn) (h0 : 0 ≤ I 32 13) (h1 : I 32 13 ≤ 240) (hq : Q (some (vi (aFeed (I 32 13) nn))) (if okFeed (I 32 13) nn then fed I 41 32 13 b nn nn else I, L, R, n)) : Wp mX12_feed 0 [some (vr (some 32)), some (vi nn), some (vl b), none, none] [] (I, L, R, n) (0, 0) Q := by
  have loop : okFeed (I 32 13) nn → ∀ (tt j : Nat) (z : Int), (j : Int) + tt = nn → z = nn - 1 - j → Wp mX12_feed 37 [some (vr (some 32)), some (vi nn), some (vl b), none, some (vi z)] [] (fed I 41 32 13 b nn j, L, R, n) (0, 0) Q := by
    intro hok tt
    induction tt with
    | zero =>
      intro j z hj hz
      have hjn : (j : Int) = nn := by omega
      refine Wp.iload rfl dX12_feed_37 ?_
      refine Wp.if_lt (tgt := 79) dX12_feed_39 (by decide) (by first | omega | exact bI_R _ | exact cmp_R _ _ | assumption) (fun c39 => ?_) (fun c39 => ?_)
      · refine Wp.aload_n rfl dX12_feed_79 ?_
        refine Wp.gi (kz := 13) rfl dX12_feed_80 fkX12_108 (by first | rfl | exact kd_b0 _ | exact kd_b1 _ | exact kd_b2 _ | exact kd_b3 _ | exact kd_b4 _ | exact kd_b5 _ | exact kd_b6 _) (by omega) ?_
        rw [fed_c]
        refine Wp.ireturn dX12_feed_83 rfl ?_
        first | (exfalso; omega) | (exact qIM hq (by unfold aFeed; rw [if_pos (by omega), if_pos (by omega)]; omega) (by rw [if_pos hok, hjn]))
      · exfalso; omega
    | succ tt ih =>
      intro j z hj hz
      refine Wp.iload rfl dX12_feed_37 ?_
      refine Wp.if_lt (tgt := 79) dX12_feed_39 (by decide) (by first | omega | exact bI_R _ | exact cmp_R _ _ | assumption) (fun c39 => ?_) (fun c39 => ?_)
      · exfalso; omega
      · refine Wp.aload_n rfl dX12_feed_42 ?_
        refine Wp.gr (kz := 12) rfl dX12_feed_43 fkX12_46 (by first | rfl | exact kd_b0 _ | exact kd_b1 _ | exact kd_b2 _ | exact kd_b3 _ | exact kd_b4 _ | exact kd_b5 _ | exact kd_b6 _) (by omega) (by first | exact hFx _ 12 _ rfl | assumption | exact hBk.1 | exact hBk.2.1 | exact hBk.2.2.1 | exact hBk.2.2.2.1 | exact hBk.2.2.2.2.1 | exact hBk.2.2.2.2.2) ?_
        refine Wp.aload_n rfl dX12_feed_46 ?_
        refine Wp.gi (kz := 13) rfl dX12_feed_47 fkX12_108 (by first | rfl | exact kd_b0 _ | exact kd_b1 _ | exact kd_b2 _ | exact kd_b3 _ | exact kd_b4 _ | exact kd_b5 _ | exact kd_b6 _) (by omega) ?_
        rw [fed_c]
        refine Wp.lload_n rfl dX12_feed_50 ?_
        refine Wp.bipush rfl dX12_feed_51 ?_
        refine Wp.iload rfl dX12_feed_53 ?_
        refine Wp.imul dX12_feed_55 ?_
        refine Wp.lshr (by omega) (by omega) dX12_feed_56 ?_
        refine Wp.ldc2_w (b := 255#64) ckX12_111 rfl dX12_feed_57 ?_
        refine Wp.land dX12_feed_60 ?_
        refine Wp.l2i dX12_feed_61 ?_
        rw [show (8 * z).toNat = 8 * (nn - 1 - (j : Int)).toNat by omega, byt_s b _ (by omega)]
        refine Wp.iastore dX12_feed_62 (by first | rfl | exact kd_b0 _ | exact kd_b1 _ | exact kd_b2 _ | exact kd_b3 _ | exact kd_b4 _ | exact kd_b5 _ | exact kd_b6 _) (by omega) (by omega) (by omega) ?_
        refine Wp.aload_n rfl dX12_feed_63 ?_
        first | refine Wp.dupR dX12_feed_64 ?_ | refine Wp.dupI dX12_feed_64 ?_
        refine Wp.gi (kz := 13) rfl dX12_feed_65 fkX12_108 (by first | rfl | exact kd_b0 _ | exact kd_b1 _ | exact kd_b2 _ | exact kd_b3 _ | exact kd_b4 _ | exact kd_b5 _ | exact kd_b6 _) (by omega) ?_
        try simp (disch := omega) only [up_same, up_o, up_k]
        simp only [fed_c]
        refine Wp.iconst dX12_feed_68 ?_
        refine Wp.iadd dX12_feed_69 ?_
        refine Wp.pi (kz := 13) rfl dX12_feed_70 fkX12_108 (Or.inl rfl) (Or.inl rfl) (by first | rfl | exact kd_b0 _ | exact kd_b1 _ | exact kd_b2 _ | exact kd_b3 _ | exact kd_b4 _ | exact kd_b5 _ | exact kd_b6 _) (by omega) ?_
        refine Wp.iinc (ls' := [_, _, _, _, _]) rfl dX12_feed_73 (by decide) rfl ?_
        refine Wp.goto (tgt := 37) dX12_feed_76 (by decide) ?_
        rw [fed_s I 41 32 13 b nn j (by omega) (by decide)]; exact ih (j + 1) _ (by omega) (by omega)
  refine Wp.iload_n rfl dX12_feed_0 ?_
  refine Wp.i2l (by first | omega | exact bI_R _ | exact cmp_R _ _ | assumption) dX12_feed_1 ?_
  refine Wp.lconst1 dX12_feed_2 ?_
  refine Wp.ldc2_w (b := 8#64) ckX12_106 rfl dX12_feed_3 ?_
  refine Wp.callS (As := [_, _, _]) (ls0 := [_, _, _, _, _, _]) (bd := (0, 0)) (bd' := (0, 0)) dX12_feed_6 kmX12_in lkX12_100 (by decide) (by decide) (Nat.le_of_ble_eq_true rfl) rfl rfl (Nat.le_of_ble_eq_true rfl) rfl ?_
  refine ct_X12_in (a := 1) (b := 8) (ofI_toInt hnn) rfl rfl ?_
  show Wp _ _ _ (_ :: _) _ _ _
  refine Wp.if_neB (tgt := 16) dX12_feed_9 (by decide) (fun c9 => ?_) (fun c9 => ?_)
  · refine Wp.aload_n rfl dX12_feed_16 ?_
    refine Wp.gi (kz := 13) rfl dX12_feed_17 fkX12_108 (by first | rfl | exact kd_b0 _ | exact kd_b1 _ | exact kd_b2 _ | exact kd_b3 _ | exact kd_b4 _ | exact kd_b5 _ | exact kd_b6 _) (by omega) ?_
    refine Wp.iload_n rfl dX12_feed_20 ?_
    refine Wp.iadd dX12_feed_21 ?_
    refine Wp.sipush rfl dX12_feed_22 ?_
    refine Wp.icmp_le (tgt := 32) dX12_feed_25 (by decide) (by first | omega | exact bI_R _ | exact cmp_R _ _ | assumption) (by first | omega | exact bI_R _ | exact cmp_R _ _ | assumption) (fun c25 => ?_) (fun c25 => ?_)
    · refine Wp.iload_n rfl dX12_feed_32 ?_
      refine Wp.iconst dX12_feed_33 ?_
      refine Wp.isub dX12_feed_34 ?_
      refine Wp.istore (ls' := [_, _, _, _, _]) dX12_feed_35 (by decide) rfl ?_
      have hlp := loop ⟨by omega, by omega, by omega⟩ nn.toNat 0 (nn - 1) (by omega) (by omega)
      rw [show ((0 : Nat) : Int) = 0 from rfl, fed_0] at hlp
      exact hlp
    · refine Wp.sipush rfl dX12_feed_28 ?_
      refine Wp.ireturn dX12_feed_31 rfl ?_
      first | (exfalso; omega) | (exact qIM hq (by unfold aFeed; (repeat' split) <;> first | rfl | omega | (exfalso; omega)) (by split <;> first | rfl | (exfalso; omega)))
  · refine Wp.sipush rfl dX12_feed_12 ?_
    refine Wp.ireturn dX12_feed_15 rfl ?_
    first | (exfalso; omega) | (exact qIM hq (by unfold aFeed; (repeat' split) <;> first | rfl | omega | (exfalso; omega)) (by split <;> first | rfl | (exfalso; omega)))
end

