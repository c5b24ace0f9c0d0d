/-! ===== the reference's readers ===== -/
section
variable {I : Nat → Int → Int} {L : Nat → Int → BitVec 64} {R : Nat → Int → Option Nat} {n : Nat} {m : Mm} {Q : Option AV → Mm → Prop}
theorem ofI_toInt {z : Int} (h : inR z) : (BitVec.ofInt 64 z).toInt = z := by
  rw [BitVec.toInt_ofInt, Int.bmod_eq_of_le] <;> omega
theorem ct_X12_in {x y v : BitVec 64} {a b z : Int} (hv : v.toInt = z) (ha : x.toInt = a) (hb : y.toInt = b) (hq : Q (some (vi (bI (a ≤ z ∧ z ≤ b)))) m) : Wp mX12_in 0 [some (vl v), none, some (vl x), none, some (vl y), none] [] m (0, 0) Q := by
  subst hv; subst ha; subst hb
  refine Wp.lload_n rfl dX12_in_0 ?_
  refine Wp.lload_n rfl dX12_in_1 ?_
  refine Wp.lcmp dX12_in_2 ?_
  refine Wp.if_ltC (tgt := 17) dX12_in_3 (by decide) (fun c3 => ?_) (fun c3 => ?_)
  · refine Wp.iconst dX12_in_17 ?_
    refine Wp.zreturn dX12_in_18 rfl (by first | omega | exact bI_01 _) ?_
    first | exact hq | (exfalso; omega) | exact qB_t hq (by omega) | exact qB_f hq (by omega)
  · refine Wp.lload_n rfl dX12_in_6 ?_
    refine Wp.lload rfl dX12_in_7 ?_
    refine Wp.lcmp dX12_in_9 ?_
    refine Wp.if_gtC (tgt := 17) dX12_in_10 (by decide) (fun c10 => ?_) (fun c10 => ?_)
    · refine Wp.iconst dX12_in_17 ?_
      refine Wp.zreturn dX12_in_18 rfl (by first | omega | exact bI_01 _) ?_
      first | exact hq | (exfalso; omega) | exact qB_t hq (by omega) | exact qB_f hq (by omega)
    · refine Wp.iconst dX12_in_13 ?_
      refine Wp.goto (tgt := 18) dX12_in_14 (by decide) ?_
      refine Wp.zreturn dX12_in_18 rfl (by first | omega | exact bI_01 _) ?_
      first | exact hq | (exfalso; omega) | exact qB_t hq (by omega) | exact qB_f hq (by omega)
theorem ct_X12_isTongue {a : Int} (ha : inR a) (hq : Q (some (vi (bI (0 ≤ a ∧ a ≤ 3)))) m) : Wp mX12_isTongue 0 [some (vi a)] [] m (0, 0) Q := by
  refine Wp.iload_n rfl dX12_isTongue_0 ?_
  refine Wp.i2l (by first | omega | exact bI_R _ | exact cmp_R _ _ | assumption) dX12_isTongue_1 ?_
  refine Wp.lconst0 dX12_isTongue_2 ?_
  refine Wp.ldc2_w (b := 3#64) ckX12_98 rfl dX12_isTongue_3 ?_
  refine Wp.callS (As := [_, _, _]) (ls0 := [_, _, _, _, _, _]) (bd := (0, 0)) (bd' := (0, 0)) dX12_isTongue_6 kmX12_in lkX12_100 (by decide) (by decide) (Nat.le_of_ble_eq_true rfl) rfl rfl (Nat.le_of_ble_eq_true rfl) rfl ?_
  refine ct_X12_in (a := 0) (b := 3) (ofI_toInt ha) rfl rfl ?_
  show Wp _ _ _ (_ :: _) _ _ _
  refine Wp.zreturn dX12_isTongue_9 rfl (by first | omega | exact bI_01 _) ?_
  first | exact hq | (exfalso; omega) | exact qB_t hq (by omega) | exact qB_f hq (by omega)
theorem ct_X12_isWord {a : Int} (ha : inR a) (hq : Q (some (vi (bI (0 ≤ a ∧ a ≤ 59)))) m) : Wp mX12_isWord 0 [some (vi a)] [] m (0, 0) Q := by
  refine Wp.iload_n rfl dX12_isWord_0 ?_
  refine Wp.i2l (by first | omega | exact bI_R _ | exact cmp_R _ _ | assumption) dX12_isWord_1 ?_
  refine Wp.lconst0 dX12_isWord_2 ?_
  refine Wp.ldc2_w (b := 59#64) ckX12_104 rfl dX12_isWord_3 ?_
  refine Wp.callS (As := [_, _, _]) (ls0 := [_, _, _, _, _, _]) (bd := (0, 0)) (bd' := (0, 0)) dX12_isWord_6 kmX12_in lkX12_100 (by decide) (by decide) (Nat.le_of_ble_eq_true rfl) rfl rfl (Nat.le_of_ble_eq_true rfl) rfl ?_
  refine ct_X12_in (a := 0) (b := 59) (ofI_toInt ha) rfl rfl ?_
  show Wp _ _ _ (_ :: _) _ _ _
  refine Wp.zreturn dX12_isWord_9 rfl (by first | omega | exact bI_01 _) ?_
  first | exact hq | (exfalso; omega) | exact qB_t hq (by omega) | exact qB_f hq (by omega)
theorem b_sI (s : BitVec 64) {k : Nat} (hk : k < 64) : ((s.sshiftRight k) &&& 1#64).toInt = if s.getLsbD k = true then 1 else 0 := by
  rw [b_sshr s hk]; split <;> rfl
theorem ct_X12_bits {s : BitVec 64} (hq : Q (some (vi (pcN s 60))) m) : Wp mX12_bits 0 [some (vl s), none, none, none] [] m (0, 0) Q := by
  have loop : ∀ (t k : Nat) (z a : Int), k + t = 60 → z = k → a = pcN s k → Wp mX12_bits 4 [some (vl s), none, some (vi a), some (vi z)] [] m (0, 0) Q := by
    intro t
    induction t with
    | zero =>
      intro k z a hk hz ha
      have hk0 : k = 60 := by omega
      subst hk0
      refine Wp.iload_n rfl dX12_bits_4 ?_
      refine Wp.bipush rfl dX12_bits_5 ?_
      refine Wp.icmp_ge (tgt := 25) dX12_bits_7 (by decide) (by first | omega | exact bI_R _ | exact cmp_R _ _ | assumption) (by first | omega | exact bI_R _ | exact cmp_R _ _ | assumption) (fun c7 => ?_) (fun c7 => ?_)
      · refine Wp.iload_n rfl dX12_bits_25 ?_
        refine Wp.ireturn dX12_bits_26 rfl ?_
        first | (exfalso; omega) | (exact qI hq ha)
      · exfalso; omega
    | succ t ih =>
      intro k z a hk hz ha
      refine Wp.iload_n rfl dX12_bits_4 ?_
      refine Wp.bipush rfl dX12_bits_5 ?_
      refine Wp.icmp_ge (tgt := 25) dX12_bits_7 (by decide) (by first | omega | exact bI_R _ | exact cmp_R _ _ | assumption) (by first | omega | exact bI_R _ | exact cmp_R _ _ | assumption) (fun c7 => ?_) (fun c7 => ?_)
      · exfalso; omega
      · refine Wp.iload_n rfl dX12_bits_10 ?_
        refine Wp.lload_n rfl dX12_bits_11 ?_
        refine Wp.iload_n rfl dX12_bits_12 ?_
        refine Wp.lshr (by omega) (by omega) dX12_bits_13 ?_
        refine Wp.lconst1 dX12_bits_14 ?_
        refine Wp.land dX12_bits_15 ?_
        refine Wp.l2i dX12_bits_16 ?_
        refine Wp.iadd dX12_bits_17 ?_
        refine Wp.istore_n (ls' := [_, _, _, _]) dX12_bits_18 (by decide) rfl ?_
        refine Wp.iinc (ls' := [_, _, _, _]) rfl dX12_bits_19 (by decide) rfl ?_
        refine Wp.goto (tgt := 4) dX12_bits_22 (by decide) ?_
        exact ih (k + 1) _ _ (by omega) (by omega) (by rw [show z.toNat = k by omega, b_sI s (by omega), ha]; rfl)
  refine Wp.iconst dX12_bits_0 ?_
  refine Wp.istore_n (ls' := [_, _, _, _]) dX12_bits_1 (by decide) rfl ?_
  refine Wp.iconst dX12_bits_2 ?_
  refine Wp.istore_n (ls' := [_, _, _, _]) dX12_bits_3 (by decide) rfl ?_
  exact loop 60 0 _ _ (by omega) (by omega) rfl
theorem ct_X12_isBook {k : Nat} (hn : 57 ≤ n) (hFx : Fx R) (hk : k < 8) (h1 : inR (I 35 k)) (h2 : inR (I 32 9)) (hq : Q (some (vi (bI (bitI (I 32 11) k ∧ I 35 k ≤ I 32 9)))) (I, L, R, n)) : Wp mX12_isBook 0 [some (vr (some 32)), some (vi k)] [] (I, L, R, n) (0, 0) Q := by
  refine Wp.aload_n rfl dX12_isBook_0 ?_
  refine Wp.gi (kz := 11) rfl dX12_isBook_1 fkX12_43 (by first | rfl | exact kd_b0 _ | exact kd_b1 _ | exact kd_b2 _ | exact kd_b3 _ | exact kd_b4 _ | exact kd_b5 _ | exact kd_b6 _) (by omega) ?_
  refine Wp.iload_n rfl dX12_isBook_4 ?_
  refine Wp.ishr dX12_isBook_5 ?_
  refine Wp.iconst dX12_isBook_6 ?_
  refine Wp.iand dX12_isBook_7 ?_
  refine Wp.iconst dX12_isBook_8 ?_
  refine Wp.icmp_ne (tgt := 29) dX12_isBook_9 (by decide) (w_rng _) (by omega) (fun c9 => ?_) (fun c9 => ?_)
  · refine Wp.iconst dX12_isBook_29 ?_
    refine Wp.zreturn dX12_isBook_30 rfl (by first | omega | exact bI_01 _) ?_
    first | (exfalso; omega) | (first | exact qB_t hq (by unfold bitI; omega) | exact qB_f hq (by unfold bitI; omega))
  · refine Wp.aload_n rfl dX12_isBook_12 ?_
    refine Wp.gr (kz := 3) rfl dX12_isBook_13 fkX12_16 (by first | rfl | exact kd_b0 _ | exact kd_b1 _ | exact kd_b2 _ | exact kd_b3 _ | exact kd_b4 _ | exact kd_b5 _ | exact kd_b6 _) (by omega) (by first | exact hFx _ 3 _ rfl | assumption | exact hBk.1 | exact hBk.2.1 | exact hBk.2.2.1 | exact hBk.2.2.2.1 | exact hBk.2.2.2.2.1 | exact hBk.2.2.2.2.2) ?_
    refine Wp.iload_n rfl dX12_isBook_16 ?_
    refine Wp.iaload dX12_isBook_17 (by first | rfl | exact kd_b0 _ | exact kd_b1 _ | exact kd_b2 _ | exact kd_b3 _ | exact kd_b4 _ | exact kd_b5 _ | exact kd_b6 _) (by omega) (by omega) (by omega) ?_
    refine Wp.aload_n rfl dX12_isBook_18 ?_
    refine Wp.gi (kz := 9) rfl dX12_isBook_19 fkX12_35 (by first | rfl | exact kd_b0 _ | exact kd_b1 _ | exact kd_b2 _ | exact kd_b3 _ | exact kd_b4 _ | exact kd_b5 _ | exact kd_b6 _) (by omega) ?_
    refine Wp.icmp_gt (tgt := 29) dX12_isBook_22 (by decide) (by first | omega | exact bI_R _ | exact cmp_R _ _ | assumption) (by first | omega | exact bI_R _ | exact cmp_R _ _ | assumption) (fun c22 => ?_) (fun c22 => ?_)
    · refine Wp.iconst dX12_isBook_29 ?_
      refine Wp.zreturn dX12_isBook_30 rfl (by first | omega | exact bI_01 _) ?_
      first | (exfalso; omega) | (first | exact qB_t hq (by unfold bitI; omega) | exact qB_f hq (by unfold bitI; omega))
    · refine Wp.iconst dX12_isBook_25 ?_
      refine Wp.goto (tgt := 30) dX12_isBook_26 (by decide) ?_
      refine Wp.zreturn dX12_isBook_30 rfl (by first | omega | exact bI_01 _) ?_
      first | (exfalso; omega) | (first | exact qB_t hq (by unfold bitI; omega) | exact qB_f hq (by unfold bitI; omega))
theorem ct_X12_counts {p : Int} (hn : 57 ≤ n) (hFx : Fx R) (hp : 0 ≤ p ∧ p < 8640) (h1 : inR (I 32 10)) (h2 : inR (I 40 p)) (hq : Q (some (vi (bI (I 32 10 ≠ 0 ∨ I 40 p = 0)))) (I, L, R, n)) : Wp mX12_counts 0 [some (vr (some 32)), some (vi p)] [] (I, L, R, n) (0, 0) Q := by
  refine Wp.aload_n rfl dX12_counts_0 ?_
  refine Wp.gi (kz := 10) rfl dX12_counts_1 fkX12_39 (by first | rfl | exact kd_b0 _ | exact kd_b1 _ | exact kd_b2 _ | exact kd_b3 _ | exact kd_b4 _ | exact kd_b5 _ | exact kd_b6 _) (by omega) ?_
  refine Wp.if_ne (tgt := 16) dX12_counts_4 (by decide) (by first | omega | exact bI_R _ | exact cmp_R _ _ | assumption) (fun c4 => ?_) (fun c4 => ?_)
  · refine Wp.iconst dX12_counts_16 ?_
    refine Wp.goto (tgt := 21) dX12_counts_17 (by decide) ?_
    refine Wp.zreturn dX12_counts_21 rfl (by first | omega | exact bI_01 _) ?_
    first | exact hq | (exfalso; omega) | exact qB_t hq (by omega) | exact qB_f hq (by omega)
  · refine Wp.aload_n rfl dX12_counts_7 ?_
    refine Wp.gr (kz := 8) rfl dX12_counts_8 fkX12_31 (by first | rfl | exact kd_b0 _ | exact kd_b1 _ | exact kd_b2 _ | exact kd_b3 _ | exact kd_b4 _ | exact kd_b5 _ | exact kd_b6 _) (by omega) (by first | exact hFx _ 8 _ rfl | assumption | exact hBk.1 | exact hBk.2.1 | exact hBk.2.2.1 | exact hBk.2.2.2.1 | exact hBk.2.2.2.2.1 | exact hBk.2.2.2.2.2) ?_
    refine Wp.iload_n rfl dX12_counts_11 ?_
    refine Wp.baload dX12_counts_12 (by first | rfl | exact kd_b0 _ | exact kd_b1 _ | exact kd_b2 _ | exact kd_b3 _ | exact kd_b4 _ | exact kd_b5 _ | exact kd_b6 _) (by omega) (by omega) (by omega) ?_
    refine Wp.if_ne (tgt := 20) dX12_counts_13 (by decide) (by first | omega | exact bI_R _ | exact cmp_R _ _ | assumption) (fun c13 => ?_) (fun c13 => ?_)
    · refine Wp.iconst dX12_counts_20 ?_
      refine Wp.zreturn dX12_counts_21 rfl (by first | omega | exact bI_01 _) ?_
      first | exact hq | (exfalso; omega) | exact qB_t hq (by omega) | exact qB_f hq (by omega)
    · refine Wp.iconst dX12_counts_16 ?_
      refine Wp.goto (tgt := 21) dX12_counts_17 (by decide) ?_
      refine Wp.zreturn dX12_counts_21 rfl (by first | omega | exact bI_01 _) ?_
      first | exact hq | (exfalso; omega) | exact qB_t hq (by omega) | exact qB_f hq (by omega)
end

