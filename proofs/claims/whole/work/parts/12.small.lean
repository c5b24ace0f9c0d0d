/-! ===== Text, Pairs, Sentence, Looks, Book: the small methods ===== -/
section
variable {I : Nat → Int → Int} {L : Nat → Int → BitVec 64} {R : Nat → Int → Option Nat} {n : Nat} {Q : Option AV → Mm → Prop}
theorem ct_X9_hasRoom {z : Int} (hn : 57 ≤ n) (hz : inR (I 1 1 + z)) (hq : Q (some (vi (bI (I 1 1 + z ≤ 240)))) (I, L, R, n)) : Wp mX9_hasRoom 0 [some (vr (some 1)), some (vi z)] [] (I, L, R, n) (0, 0) Q := by
  refine Wp.aload_n rfl dX9_hasRoom_0 ?_
  refine Wp.gi (kz := 1) rfl dX9_hasRoom_1 fkX9_15 (by first | rfl | exact kd_b0 _ | exact kd_b1 _ | exact kd_b2 _ | exact kd_b3 _ | exact kd_b4 _ | exact kd_b5 _ | exact kd_b6 _) (by omega) ?_
  refine Wp.iload_n rfl dX9_hasRoom_4 ?_
  refine Wp.iadd dX9_hasRoom_5 ?_
  refine Wp.sipush rfl dX9_hasRoom_6 ?_
  refine Wp.icmp_gt (tgt := 16) dX9_hasRoom_9 (by decide) (by first | omega | exact bI_R _ | exact cmp_R _ _ | assumption) (by first | omega | exact bI_R _ | exact cmp_R _ _ | assumption) (fun c9 => ?_) (fun c9 => ?_)
  · refine Wp.iconst dX9_hasRoom_16 ?_
    refine Wp.zreturn dX9_hasRoom_17 rfl (by first | omega | exact bI_01 _) ?_
    first | exact hq | (exfalso; omega) | exact qB_t hq (by omega) | exact qB_f hq (by omega)
  · refine Wp.iconst dX9_hasRoom_12 ?_
    refine Wp.goto (tgt := 17) dX9_hasRoom_13 (by decide) ?_
    refine Wp.zreturn dX9_hasRoom_17 rfl (by first | omega | exact bI_01 _) ?_
    first | exact hq | (exfalso; omega) | exact qB_t hq (by omega) | exact qB_f hq (by omega)
theorem ct_X9_push {z : Int} (hn : 57 ≤ n) (hFx : Fx R) (h0 : 0 ≤ I 1 1) (h1 : I 1 1 < 240) (hq : Q none (up (up I 2 (I 1 1) z) 1 1 (I 1 1 + 1), L, R, n)) : Wp mX9_push 0 [some (vr (some 1)), some (vi z)] [] (I, L, R, n) (0, 0) Q := by
  refine Wp.aload_n rfl dX9_push_0 ?_
  refine Wp.gi (kz := 1) rfl dX9_push_1 fkX9_15 (by first | rfl | exact kd_b0 _ | exact kd_b1 _ | exact kd_b2 _ | exact kd_b3 _ | exact kd_b4 _ | exact kd_b5 _ | exact kd_b6 _) (by omega) ?_
  refine Wp.if_lt (tgt := 17) dX9_push_4 (by decide) (by first | omega | exact bI_R _ | exact cmp_R _ _ | assumption) (fun c4 => ?_) (fun c4 => ?_)
  · refine Wp.vreturn dX9_push_17 rfl ?_
    first | exact hq | (exfalso; omega)
  · refine Wp.aload_n rfl dX9_push_7 ?_
    refine Wp.gi (kz := 1) rfl dX9_push_8 fkX9_15 (by first | rfl | exact kd_b0 _ | exact kd_b1 _ | exact kd_b2 _ | exact kd_b3 _ | exact kd_b4 _ | exact kd_b5 _ | exact kd_b6 _) (by omega) ?_
    refine Wp.sipush rfl dX9_push_11 ?_
    refine Wp.icmp_lt (tgt := 18) dX9_push_14 (by decide) (by first | omega | exact bI_R _ | exact cmp_R _ _ | assumption) (by first | omega | exact bI_R _ | exact cmp_R _ _ | assumption) (fun c14 => ?_) (fun c14 => ?_)
    · refine Wp.aload_n rfl dX9_push_18 ?_
      refine Wp.gr (kz := 0) rfl dX9_push_19 fkX9_9 (by first | rfl | exact kd_b0 _ | exact kd_b1 _ | exact kd_b2 _ | exact kd_b3 _ | exact kd_b4 _ | exact kd_b5 _ | exact kd_b6 _) (by omega) (by first | exact hFx _ 0 _ rfl | assumption | exact hBk.1 | exact hBk.2.1 | exact hBk.2.2.1 | exact hBk.2.2.2.1 | exact hBk.2.2.2.2.1 | exact hBk.2.2.2.2.2) ?_
      refine Wp.aload_n rfl dX9_push_22 ?_
      refine Wp.gi (kz := 1) rfl dX9_push_23 fkX9_15 (by first | rfl | exact kd_b0 _ | exact kd_b1 _ | exact kd_b2 _ | exact kd_b3 _ | exact kd_b4 _ | exact kd_b5 _ | exact kd_b6 _) (by omega) ?_
      refine Wp.iload_n rfl dX9_push_26 ?_
      refine Wp.iastore dX9_push_27 (by first | rfl | exact kd_b0 _ | exact kd_b1 _ | exact kd_b2 _ | exact kd_b3 _ | exact kd_b4 _ | exact kd_b5 _ | exact kd_b6 _) (by omega) (by omega) (by omega) ?_
      refine Wp.aload_n rfl dX9_push_28 ?_
      first | refine Wp.dupR dX9_push_29 ?_ | refine Wp.dupI dX9_push_29 ?_
      refine Wp.gi (kz := 1) rfl dX9_push_30 fkX9_15 (by first | rfl | exact kd_b0 _ | exact kd_b1 _ | exact kd_b2 _ | exact kd_b3 _ | exact kd_b4 _ | exact kd_b5 _ | exact kd_b6 _) (by omega) ?_
      try simp (disch := omega) only [up_same, up_o, up_k]
      refine Wp.iconst dX9_push_33 ?_
      refine Wp.iadd dX9_push_34 ?_
      refine Wp.pi (kz := 1) rfl dX9_push_35 fkX9_15 (Or.inl rfl) (Or.inl rfl) (by first | rfl | exact kd_b0 _ | exact kd_b1 _ | exact kd_b2 _ | exact kd_b3 _ | exact kd_b4 _ | exact kd_b5 _ | exact kd_b6 _) (by omega) ?_
      refine Wp.vreturn dX9_push_38 rfl ?_
      first | exact hq | (exfalso; omega)
    · refine Wp.vreturn dX9_push_17 rfl ?_
      first | exact hq | (exfalso; omega)
/-- the byte at a place of the text; -1 behind its end -/
def sgn (I : Nat → Int → Int) (p : Int) : Int := if 0 ≤ p ∧ p < I 1 1 then I 2 p else -1
theorem ct_X9_signAt {p : Int} (hn : 57 ≤ n) (hFx : Fx R) (hp : inR p) (h0 : 0 ≤ I 1 1) (h1 : I 1 1 ≤ 240) (hq : Q (some (vi (sgn I p))) (I, L, R, n)) : Wp mX9_signAt 0 [some (vr (some 1)), some (vi p)] [] (I, L, R, n) (0, 0) Q := by
  refine Wp.iload_n rfl dX9_signAt_0 ?_
  refine Wp.if_lt (tgt := 28) dX9_signAt_1 (by decide) (by first | omega | exact bI_R _ | exact cmp_R _ _ | assumption) (fun c1 => ?_) (fun c1 => ?_)
  · refine Wp.iconst dX9_signAt_28 ?_
    refine Wp.ireturn dX9_signAt_29 rfl ?_
    first | (exfalso; omega) | (exact qI hq (by unfold sgn; first | rw [if_pos (by omega)] | rw [if_neg (by omega)]))
  · refine Wp.iload_n rfl dX9_signAt_4 ?_
    refine Wp.aload_n rfl dX9_signAt_5 ?_
    refine Wp.gi (kz := 1) rfl dX9_signAt_6 fkX9_15 (by first | rfl | exact kd_b0 _ | exact kd_b1 _ | exact kd_b2 _ | exact kd_b3 _ | exact kd_b4 _ | exact kd_b5 _ | exact kd_b6 _) (by omega) ?_
    refine Wp.icmp_ge (tgt := 28) dX9_signAt_9 (by decide) (by first | omega | exact bI_R _ | exact cmp_R _ _ | assumption) (by first | omega | exact bI_R _ | exact cmp_R _ _ | assumption) (fun c9 => ?_) (fun c9 => ?_)
    · refine Wp.iconst dX9_signAt_28 ?_
      refine Wp.ireturn dX9_signAt_29 rfl ?_
      first | (exfalso; omega) | (exact qI hq (by unfold sgn; first | rw [if_pos (by omega)] | rw [if_neg (by omega)]))
    · refine Wp.iload_n rfl dX9_signAt_12 ?_
      refine Wp.sipush rfl dX9_signAt_13 ?_
      refine Wp.icmp_ge (tgt := 28) dX9_signAt_16 (by decide) (by first | omega | exact bI_R _ | exact cmp_R _ _ | assumption) (by first | omega | exact bI_R _ | exact cmp_R _ _ | assumption) (fun c16 => ?_) (fun c16 => ?_)
      · refine Wp.iconst dX9_signAt_28 ?_
        refine Wp.ireturn dX9_signAt_29 rfl ?_
        first | (exfalso; omega) | (exact qI hq (by unfold sgn; first | rw [if_pos (by omega)] | rw [if_neg (by omega)]))
      · refine Wp.aload_n rfl dX9_signAt_19 ?_
        refine Wp.gr (kz := 0) rfl dX9_signAt_20 fkX9_9 (by first | rfl | exact kd_b0 _ | exact kd_b1 _ | exact kd_b2 _ | exact kd_b3 _ | exact kd_b4 _ | exact kd_b5 _ | exact kd_b6 _) (by omega) (by first | exact hFx _ 0 _ rfl | assumption | exact hBk.1 | exact hBk.2.1 | exact hBk.2.2.1 | exact hBk.2.2.2.1 | exact hBk.2.2.2.2.1 | exact hBk.2.2.2.2.2) ?_
        refine Wp.iload_n rfl dX9_signAt_23 ?_
        refine Wp.iaload dX9_signAt_24 (by first | rfl | exact kd_b0 _ | exact kd_b1 _ | exact kd_b2 _ | exact kd_b3 _ | exact kd_b4 _ | exact kd_b5 _ | exact kd_b6 _) (by omega) (by omega) (by omega) ?_
        refine Wp.goto (tgt := 29) dX9_signAt_25 (by decide) ?_
        refine Wp.ireturn dX9_signAt_29 rfl ?_
        first | (exfalso; omega) | (exact qI hq (by unfold sgn; first | rw [if_pos (by omega)] | rw [if_neg (by omega)]))
theorem ct_X9_figureAt {p : Int} (hn : 57 ≤ n) (hFx : Fx R) (hp : inR p) (h0 : 0 ≤ I 1 1) (h1 : I 1 1 ≤ 240) (hs : inR (sgn I p)) (hq : Q (some (vi (bI (48 ≤ sgn I p ∧ sgn I p ≤ 57)))) (I, L, R, n)) : Wp mX9_figureAt 0 [some (vr (some 1)), some (vi p), none] [] (I, L, R, n) (0, 0) Q := by
  refine Wp.aload_n rfl dX9_figureAt_0 ?_
  refine Wp.iload_n rfl dX9_figureAt_1 ?_
  refine Wp.callV (As := [_]) (ls0 := [_, _]) (bd := (0, 0)) (bd' := (0, 0)) dX9_figureAt_2 kmX9_signAt lkX9_19 (by decide) (by decide) (Nat.le_of_ble_eq_true rfl) (by first | rfl | exact kd_b0 _ | exact kd_b1 _ | exact kd_b2 _ | exact kd_b3 _ | exact kd_b4 _ | exact kd_b5 _ | exact kd_b6 _) (by omega) rfl rfl (Nat.le_of_ble_eq_true rfl) rfl ?_
  refine ct_X9_signAt hn hFx (by omega) (by omega) (by omega) ?_
  show Wp _ _ _ (_ :: _) _ _ _
  refine Wp.istore_n (ls' := [_, _, _]) dX9_figureAt_5 (by decide) rfl ?_
  refine Wp.iload_n rfl dX9_figureAt_6 ?_
  refine Wp.bipush rfl dX9_figureAt_7 ?_
  refine Wp.icmp_lt (tgt := 22) dX9_figureAt_9 (by decide) (by first | omega | exact bI_R _ | exact cmp_R _ _ | assumption) (by first | omega | exact bI_R _ | exact cmp_R _ _ | assumption) (fun c9 => ?_) (fun c9 => ?_)
  · refine Wp.iconst dX9_figureAt_22 ?_
    refine Wp.zreturn dX9_figureAt_23 rfl (by first | omega | exact bI_01 _) ?_
    first | exact hq | (exfalso; omega) | exact qB_t hq (by omega) | exact qB_f hq (by omega)
  · refine Wp.iload_n rfl dX9_figureAt_12 ?_
    refine Wp.bipush rfl dX9_figureAt_13 ?_
    refine Wp.icmp_gt (tgt := 22) dX9_figureAt_15 (by decide) (by first | omega | exact bI_R _ | exact cmp_R _ _ | assumption) (by first | omega | exact bI_R _ | exact cmp_R _ _ | assumption) (fun c15 => ?_) (fun c15 => ?_)
    · refine Wp.iconst dX9_figureAt_22 ?_
      refine Wp.zreturn dX9_figureAt_23 rfl (by first | omega | exact bI_01 _) ?_
      first | exact hq | (exfalso; omega) | exact qB_t hq (by omega) | exact qB_f hq (by omega)
    · refine Wp.iconst dX9_figureAt_18 ?_
      refine Wp.goto (tgt := 23) dX9_figureAt_19 (by decide) ?_
      refine Wp.zreturn dX9_figureAt_23 rfl (by first | omega | exact bI_01 _) ?_
      first | exact hq | (exfalso; omega) | exact qB_t hq (by omega) | exact qB_f hq (by omega)
theorem ct_X7_add {a w : Int} (hn : 57 ≤ n) (hFx : Fx R) (h0 : 0 ≤ I 17 2) (h1 : I 17 2 < 10) (hq : Q (some (vi (I 17 2 + 1))) (up (up (up I 17 1 a) 18 (I 17 2) w) 17 2 (I 17 2 + 1), L, R, n)) : Wp mX7_add 0 [some (vr (some 17)), some (vi a), some (vi w)] [] (I, L, R, n) (0, 0) Q := by
  refine Wp.aload_n rfl dX7_add_0 ?_
  refine Wp.gi (kz := 2) rfl dX7_add_1 fkX7_19 (by first | rfl | exact kd_b0 _ | exact kd_b1 _ | exact kd_b2 _ | exact kd_b3 _ | exact kd_b4 _ | exact kd_b5 _ | exact kd_b6 _) (by omega) ?_
  refine Wp.if_lt (tgt := 16) dX7_add_4 (by decide) (by first | omega | exact bI_R _ | exact cmp_R _ _ | assumption) (fun c4 => ?_) (fun c4 => ?_)
  · refine Wp.sipush rfl dX7_add_16 ?_
    refine Wp.ireturn dX7_add_19 rfl ?_
    first | exact hq | (exfalso; omega) | exact qI hq (by omega)
  · refine Wp.aload_n rfl dX7_add_7 ?_
    refine Wp.gi (kz := 2) rfl dX7_add_8 fkX7_19 (by first | rfl | exact kd_b0 _ | exact kd_b1 _ | exact kd_b2 _ | exact kd_b3 _ | exact kd_b4 _ | exact kd_b5 _ | exact kd_b6 _) (by omega) ?_
    refine Wp.bipush rfl dX7_add_11 ?_
    refine Wp.icmp_lt (tgt := 20) dX7_add_13 (by decide) (by first | omega | exact bI_R _ | exact cmp_R _ _ | assumption) (by first | omega | exact bI_R _ | exact cmp_R _ _ | assumption) (fun c13 => ?_) (fun c13 => ?_)
    · refine Wp.aload_n rfl dX7_add_20 ?_
      refine Wp.iload_n rfl dX7_add_21 ?_
      refine Wp.pi (kz := 1) rfl dX7_add_22 fkX7_15 (Or.inl rfl) (Or.inl rfl) (by first | rfl | exact kd_b0 _ | exact kd_b1 _ | exact kd_b2 _ | exact kd_b3 _ | exact kd_b4 _ | exact kd_b5 _ | exact kd_b6 _) (by omega) ?_
      refine Wp.aload_n rfl dX7_add_25 ?_
      refine Wp.gr (kz := 0) rfl dX7_add_26 fkX7_9 (by first | rfl | exact kd_b0 _ | exact kd_b1 _ | exact kd_b2 _ | exact kd_b3 _ | exact kd_b4 _ | exact kd_b5 _ | exact kd_b6 _) (by omega) (by first | exact hFx _ 0 _ rfl | assumption | exact hBk.1 | exact hBk.2.1 | exact hBk.2.2.1 | exact hBk.2.2.2.1 | exact hBk.2.2.2.2.1 | exact hBk.2.2.2.2.2) ?_
      try simp (disch := omega) only [up_same, up_o, up_k]
      refine Wp.aload_n rfl dX7_add_29 ?_
      refine Wp.gi (kz := 2) rfl dX7_add_30 fkX7_19 (by first | rfl | exact kd_b0 _ | exact kd_b1 _ | exact kd_b2 _ | exact kd_b3 _ | exact kd_b4 _ | exact kd_b5 _ | exact kd_b6 _) (by omega) ?_
      try simp (disch := omega) only [up_same, up_o, up_k]
      refine Wp.iload_n rfl dX7_add_33 ?_
      refine Wp.iastore dX7_add_34 (by first | rfl | exact kd_b0 _ | exact kd_b1 _ | exact kd_b2 _ | exact kd_b3 _ | exact kd_b4 _ | exact kd_b5 _ | exact kd_b6 _) (by omega) (by omega) (by omega) ?_
      refine Wp.aload_n rfl dX7_add_35 ?_
      first | refine Wp.dupR dX7_add_36 ?_ | refine Wp.dupI dX7_add_36 ?_
      refine Wp.gi (kz := 2) rfl dX7_add_37 fkX7_19 (by first | rfl | exact kd_b0 _ | exact kd_b1 _ | exact kd_b2 _ | exact kd_b3 _ | exact kd_b4 _ | exact kd_b5 _ | exact kd_b6 _) (by omega) ?_
      try simp (disch := omega) only [up_same, up_o, up_k]
      refine Wp.iconst dX7_add_40 ?_
      refine Wp.iadd dX7_add_41 ?_
      refine Wp.pi (kz := 2) rfl dX7_add_42 fkX7_19 (Or.inl rfl) (Or.inl rfl) (by first | rfl | exact kd_b0 _ | exact kd_b1 _ | exact kd_b2 _ | exact kd_b3 _ | exact kd_b4 _ | exact kd_b5 _ | exact kd_b6 _) (by omega) ?_
      refine Wp.aload_n rfl dX7_add_45 ?_
      refine Wp.gi (kz := 2) rfl dX7_add_46 fkX7_19 (by first | rfl | exact kd_b0 _ | exact kd_b1 _ | exact kd_b2 _ | exact kd_b3 _ | exact kd_b4 _ | exact kd_b5 _ | exact kd_b6 _) (by omega) ?_
      try simp (disch := omega) only [up_same, up_o, up_k]
      refine Wp.ireturn dX7_add_49 rfl ?_
      first | exact hq | (exfalso; omega) | exact qI hq (by omega)
    · refine Wp.sipush rfl dX7_add_16 ?_
      refine Wp.ireturn dX7_add_19 rfl ?_
      first | exact hq | (exfalso; omega) | exact qI hq (by omega)
theorem ct_X7_wordAt {i : Int} (hn : 57 ≤ n) (hFx : Fx R) (hi : inR i) (h0 : 0 ≤ I 17 2) (h1 : I 17 2 ≤ 10) (hq : Q (some (vi (if 0 ≤ i ∧ i < I 17 2 then I 18 i else -1))) (I, L, R, n)) : Wp mX7_wordAt 0 [some (vr (some 17)), some (vi i)] [] (I, L, R, n) (0, 0) Q := by
  refine Wp.iload_n rfl dX7_wordAt_0 ?_
  refine Wp.if_lt (tgt := 27) dX7_wordAt_1 (by decide) (by first | omega | exact bI_R _ | exact cmp_R _ _ | assumption) (fun c1 => ?_) (fun c1 => ?_)
  · refine Wp.iconst dX7_wordAt_27 ?_
    refine Wp.ireturn dX7_wordAt_28 rfl ?_
    first | (exfalso; omega) | (exact qI hq (by first | rw [if_pos (by omega)] | rw [if_neg (by omega)]))
  · refine Wp.iload_n rfl dX7_wordAt_4 ?_
    refine Wp.aload_n rfl dX7_wordAt_5 ?_
    refine Wp.gi (kz := 2) rfl dX7_wordAt_6 fkX7_19 (by first | rfl | exact kd_b0 _ | exact kd_b1 _ | exact kd_b2 _ | exact kd_b3 _ | exact kd_b4 _ | exact kd_b5 _ | exact kd_b6 _) (by omega) ?_
    refine Wp.icmp_ge (tgt := 27) dX7_wordAt_9 (by decide) (by first | omega | exact bI_R _ | exact cmp_R _ _ | assumption) (by first | omega | exact bI_R _ | exact cmp_R _ _ | assumption) (fun c9 => ?_) (fun c9 => ?_)
    · refine Wp.iconst dX7_wordAt_27 ?_
      refine Wp.ireturn dX7_wordAt_28 rfl ?_
      first | (exfalso; omega) | (exact qI hq (by first | rw [if_pos (by omega)] | rw [if_neg (by omega)]))
    · refine Wp.iload_n rfl dX7_wordAt_12 ?_
      refine Wp.bipush rfl dX7_wordAt_13 ?_
      refine Wp.icmp_ge (tgt := 27) dX7_wordAt_15 (by decide) (by first | omega | exact bI_R _ | exact cmp_R _ _ | assumption) (by first | omega | exact bI_R _ | exact cmp_R _ _ | assumption) (fun c15 => ?_) (fun c15 => ?_)
      · refine Wp.iconst dX7_wordAt_27 ?_
        refine Wp.ireturn dX7_wordAt_28 rfl ?_
        first | (exfalso; omega) | (exact qI hq (by first | rw [if_pos (by omega)] | rw [if_neg (by omega)]))
      · refine Wp.aload_n rfl dX7_wordAt_18 ?_
        refine Wp.gr (kz := 0) rfl dX7_wordAt_19 fkX7_9 (by first | rfl | exact kd_b0 _ | exact kd_b1 _ | exact kd_b2 _ | exact kd_b3 _ | exact kd_b4 _ | exact kd_b5 _ | exact kd_b6 _) (by omega) (by first | exact hFx _ 0 _ rfl | assumption | exact hBk.1 | exact hBk.2.1 | exact hBk.2.2.1 | exact hBk.2.2.2.1 | exact hBk.2.2.2.2.1 | exact hBk.2.2.2.2.2) ?_
        refine Wp.iload_n rfl dX7_wordAt_22 ?_
        refine Wp.iaload dX7_wordAt_23 (by first | rfl | exact kd_b0 _ | exact kd_b1 _ | exact kd_b2 _ | exact kd_b3 _ | exact kd_b4 _ | exact kd_b5 _ | exact kd_b6 _) (by omega) (by omega) (by omega) ?_
        refine Wp.goto (tgt := 28) dX7_wordAt_24 (by decide) ?_
        refine Wp.ireturn dX7_wordAt_28 rfl ?_
        first | (exfalso; omega) | (exact qI hq (by first | rw [if_pos (by omega)] | rw [if_neg (by omega)]))
theorem ct_X4_add {a x y s : Int} (hn : 57 ≤ n) (hFx : Fx R) (h0 : 0 ≤ I 12 4) (h1 : I 12 4 < 40) (hq : Q (some (vi (I 12 4 + 1))) (up (up (up (up (up I 13 (I 12 4) a) 14 (I 12 4) x) 15 (I 12 4) y) 16 (I 12 4) s) 12 4 (I 12 4 + 1), L, R, n)) : Wp mX4_add 0 [some (vr (some 12)), some (vi a), some (vi x), some (vi y), some (vi s)] [] (I, L, R, n) (0, 0) Q := by
  refine Wp.aload_n rfl dX4_add_0 ?_
  refine Wp.gi (kz := 4) rfl dX4_add_1 fkX4_24 (by first | rfl | exact kd_b0 _ | exact kd_b1 _ | exact kd_b2 _ | exact kd_b3 _ | exact kd_b4 _ | exact kd_b5 _ | exact kd_b6 _) (by omega) ?_
  refine Wp.if_lt (tgt := 16) dX4_add_4 (by decide) (by first | omega | exact bI_R _ | exact cmp_R _ _ | assumption) (fun c4 => ?_) (fun c4 => ?_)
  · refine Wp.sipush rfl dX4_add_16 ?_
    refine Wp.ireturn dX4_add_19 rfl ?_
    first | exact hq | (exfalso; omega) | exact qI hq (by omega)
  · refine Wp.aload_n rfl dX4_add_7 ?_
    refine Wp.gi (kz := 4) rfl dX4_add_8 fkX4_24 (by first | rfl | exact kd_b0 _ | exact kd_b1 _ | exact kd_b2 _ | exact kd_b3 _ | exact kd_b4 _ | exact kd_b5 _ | exact kd_b6 _) (by omega) ?_
    refine Wp.bipush rfl dX4_add_11 ?_
    refine Wp.icmp_lt (tgt := 20) dX4_add_13 (by decide) (by first | omega | exact bI_R _ | exact cmp_R _ _ | assumption) (by first | omega | exact bI_R _ | exact cmp_R _ _ | assumption) (fun c13 => ?_) (fun c13 => ?_)
    · refine Wp.aload_n rfl dX4_add_20 ?_
      refine Wp.gr (kz := 0) rfl dX4_add_21 fkX4_9 (by first | rfl | exact kd_b0 _ | exact kd_b1 _ | exact kd_b2 _ | exact kd_b3 _ | exact kd_b4 _ | exact kd_b5 _ | exact kd_b6 _) (by omega) (by first | exact hFx _ 0 _ rfl | assumption | exact hBk.1 | exact hBk.2.1 | exact hBk.2.2.1 | exact hBk.2.2.2.1 | exact hBk.2.2.2.2.1 | exact hBk.2.2.2.2.2) ?_
      refine Wp.aload_n rfl dX4_add_24 ?_
      refine Wp.gi (kz := 4) rfl dX4_add_25 fkX4_24 (by first | rfl | exact kd_b0 _ | exact kd_b1 _ | exact kd_b2 _ | exact kd_b3 _ | exact kd_b4 _ | exact kd_b5 _ | exact kd_b6 _) (by omega) ?_
      refine Wp.iload_n rfl dX4_add_28 ?_
      refine Wp.iastore dX4_add_29 (by first | rfl | exact kd_b0 _ | exact kd_b1 _ | exact kd_b2 _ | exact kd_b3 _ | exact kd_b4 _ | exact kd_b5 _ | exact kd_b6 _) (by omega) (by omega) (by omega) ?_
      refine Wp.aload_n rfl dX4_add_30 ?_
      refine Wp.gr (kz := 1) rfl dX4_add_31 fkX4_15 (by first | rfl | exact kd_b0 _ | exact kd_b1 _ | exact kd_b2 _ | exact kd_b3 _ | exact kd_b4 _ | exact kd_b5 _ | exact kd_b6 _) (by omega) (by first | exact hFx _ 1 _ rfl | assumption | exact hBk.1 | exact hBk.2.1 | exact hBk.2.2.1 | exact hBk.2.2.2.1 | exact hBk.2.2.2.2.1 | exact hBk.2.2.2.2.2) ?_
      try simp (disch := omega) only [up_same, up_o, up_k]
      refine Wp.aload_n rfl dX4_add_34 ?_
      refine Wp.gi (kz := 4) rfl dX4_add_35 fkX4_24 (by first | rfl | exact kd_b0 _ | exact kd_b1 _ | exact kd_b2 _ | exact kd_b3 _ | exact kd_b4 _ | exact kd_b5 _ | exact kd_b6 _) (by omega) ?_
      try simp (disch := omega) only [up_same, up_o, up_k]
      refine Wp.iload_n rfl dX4_add_38 ?_
      refine Wp.iastore dX4_add_39 (by first | rfl | exact kd_b0 _ | exact kd_b1 _ | exact kd_b2 _ | exact kd_b3 _ | exact kd_b4 _ | exact kd_b5 _ | exact kd_b6 _) (by omega) (by omega) (by omega) ?_
      refine Wp.aload_n rfl dX4_add_40 ?_
      refine Wp.gr (kz := 2) rfl dX4_add_41 fkX4_18 (by first | rfl | exact kd_b0 _ | exact kd_b1 _ | exact kd_b2 _ | exact kd_b3 _ | exact kd_b4 _ | exact kd_b5 _ | exact kd_b6 _) (by omega) (by first | exact hFx _ 2 _ rfl | assumption | exact hBk.1 | exact hBk.2.1 | exact hBk.2.2.1 | exact hBk.2.2.2.1 | exact hBk.2.2.2.2.1 | exact hBk.2.2.2.2.2) ?_
      try simp (disch := omega) only [up_same, up_o, up_k]
      refine Wp.aload_n rfl dX4_add_44 ?_
      refine Wp.gi (kz := 4) rfl dX4_add_45 fkX4_24 (by first | rfl | exact kd_b0 _ | exact kd_b1 _ | exact kd_b2 _ | exact kd_b3 _ | exact kd_b4 _ | exact kd_b5 _ | exact kd_b6 _) (by omega) ?_
      try simp (disch := omega) only [up_same, up_o, up_k]
      refine Wp.iload_n rfl dX4_add_48 ?_
      refine Wp.iastore dX4_add_49 (by first | rfl | exact kd_b0 _ | exact kd_b1 _ | exact kd_b2 _ | exact kd_b3 _ | exact kd_b4 _ | exact kd_b5 _ | exact kd_b6 _) (by omega) (by omega) (by omega) ?_
      refine Wp.aload_n rfl dX4_add_50 ?_
      refine Wp.gr (kz := 3) rfl dX4_add_51 fkX4_21 (by first | rfl | exact kd_b0 _ | exact kd_b1 _ | exact kd_b2 _ | exact kd_b3 _ | exact kd_b4 _ | exact kd_b5 _ | exact kd_b6 _) (by omega) (by first | exact hFx _ 3 _ rfl | assumption | exact hBk.1 | exact hBk.2.1 | exact hBk.2.2.1 | exact hBk.2.2.2.1 | exact hBk.2.2.2.2.1 | exact hBk.2.2.2.2.2) ?_
      try simp (disch := omega) only [up_same, up_o, up_k]
      refine Wp.aload_n rfl dX4_add_54 ?_
      refine Wp.gi (kz := 4) rfl dX4_add_55 fkX4_24 (by first | rfl | exact kd_b0 _ | exact kd_b1 _ | exact kd_b2 _ | exact kd_b3 _ | exact kd_b4 _ | exact kd_b5 _ | exact kd_b6 _) (by omega) ?_
      try simp (disch := omega) only [up_same, up_o, up_k]
      refine Wp.iload rfl dX4_add_58 ?_
      refine Wp.iastore dX4_add_60 (by first | rfl | exact kd_b0 _ | exact kd_b1 _ | exact kd_b2 _ | exact kd_b3 _ | exact kd_b4 _ | exact kd_b5 _ | exact kd_b6 _) (by omega) (by omega) (by omega) ?_
      refine Wp.aload_n rfl dX4_add_61 ?_
      first | refine Wp.dupR dX4_add_62 ?_ | refine Wp.dupI dX4_add_62 ?_
      refine Wp.gi (kz := 4) rfl dX4_add_63 fkX4_24 (by first | rfl | exact kd_b0 _ | exact kd_b1 _ | exact kd_b2 _ | exact kd_b3 _ | exact kd_b4 _ | exact kd_b5 _ | exact kd_b6 _) (by omega) ?_
      try simp (disch := omega) only [up_same, up_o, up_k]
      refine Wp.iconst dX4_add_66 ?_
      refine Wp.iadd dX4_add_67 ?_
      refine Wp.pi (kz := 4) rfl dX4_add_68 fkX4_24 (Or.inl rfl) (Or.inl rfl) (by first | rfl | exact kd_b0 _ | exact kd_b1 _ | exact kd_b2 _ | exact kd_b3 _ | exact kd_b4 _ | exact kd_b5 _ | exact kd_b6 _) (by omega) ?_
      refine Wp.aload_n rfl dX4_add_71 ?_
      refine Wp.gi (kz := 4) rfl dX4_add_72 fkX4_24 (by first | rfl | exact kd_b0 _ | exact kd_b1 _ | exact kd_b2 _ | exact kd_b3 _ | exact kd_b4 _ | exact kd_b5 _ | exact kd_b6 _) (by omega) ?_
      try simp (disch := omega) only [up_same, up_o, up_k]
      refine Wp.ireturn dX4_add_75 rfl ?_
      first | exact hq | (exfalso; omega) | exact qI hq (by omega)
    · refine Wp.sipush rfl dX4_add_16 ?_
      refine Wp.ireturn dX4_add_19 rfl ?_
      first | exact hq | (exfalso; omega) | exact qI hq (by omega)
theorem ct_X2_add {a w b v : Int} (hn : 57 ≤ n) (hFx : Fx R) (h0 : 0 ≤ I 7 4) (h1 : I 7 4 < 30) (hq : Q (some (vi (I 7 4 + 1))) (up (up (up (up (up I 8 (I 7 4) a) 9 (I 7 4) w) 10 (I 7 4) b) 11 (I 7 4) v) 7 4 (I 7 4 + 1), L, R, n)) : Wp mX2_add 0 [some (vr (some 7)), some (vi a), some (vi w), some (vi b), some (vi v)] [] (I, L, R, n) (0, 0) Q := by
  refine Wp.aload_n rfl dX2_add_0 ?_
  refine Wp.gi (kz := 4) rfl dX2_add_1 fkX2_24 (by first | rfl | exact kd_b0 _ | exact kd_b1 _ | exact kd_b2 _ | exact kd_b3 _ | exact kd_b4 _ | exact kd_b5 _ | exact kd_b6 _) (by omega) ?_
  refine Wp.if_lt (tgt := 16) dX2_add_4 (by decide) (by first | omega | exact bI_R _ | exact cmp_R _ _ | assumption) (fun c4 => ?_) (fun c4 => ?_)
  · refine Wp.sipush rfl dX2_add_16 ?_
    refine Wp.ireturn dX2_add_19 rfl ?_
    first | exact hq | (exfalso; omega) | exact qI hq (by omega)
  · refine Wp.aload_n rfl dX2_add_7 ?_
    refine Wp.gi (kz := 4) rfl dX2_add_8 fkX2_24 (by first | rfl | exact kd_b0 _ | exact kd_b1 _ | exact kd_b2 _ | exact kd_b3 _ | exact kd_b4 _ | exact kd_b5 _ | exact kd_b6 _) (by omega) ?_
    refine Wp.bipush rfl dX2_add_11 ?_
    refine Wp.icmp_lt (tgt := 20) dX2_add_13 (by decide) (by first | omega | exact bI_R _ | exact cmp_R _ _ | assumption) (by first | omega | exact bI_R _ | exact cmp_R _ _ | assumption) (fun c13 => ?_) (fun c13 => ?_)
    · refine Wp.aload_n rfl dX2_add_20 ?_
      refine Wp.gr (kz := 0) rfl dX2_add_21 fkX2_9 (by first | rfl | exact kd_b0 _ | exact kd_b1 _ | exact kd_b2 _ | exact kd_b3 _ | exact kd_b4 _ | exact kd_b5 _ | exact kd_b6 _) (by omega) (by first | exact hFx _ 0 _ rfl | assumption | exact hBk.1 | exact hBk.2.1 | exact hBk.2.2.1 | exact hBk.2.2.2.1 | exact hBk.2.2.2.2.1 | exact hBk.2.2.2.2.2) ?_
      refine Wp.aload_n rfl dX2_add_24 ?_
      refine Wp.gi (kz := 4) rfl dX2_add_25 fkX2_24 (by first | rfl | exact kd_b0 _ | exact kd_b1 _ | exact kd_b2 _ | exact kd_b3 _ | exact kd_b4 _ | exact kd_b5 _ | exact kd_b6 _) (by omega) ?_
      refine Wp.iload_n rfl dX2_add_28 ?_
      refine Wp.iastore dX2_add_29 (by first | rfl | exact kd_b0 _ | exact kd_b1 _ | exact kd_b2 _ | exact kd_b3 _ | exact kd_b4 _ | exact kd_b5 _ | exact kd_b6 _) (by omega) (by omega) (by omega) ?_
      refine Wp.aload_n rfl dX2_add_30 ?_
      refine Wp.gr (kz := 1) rfl dX2_add_31 fkX2_15 (by first | rfl | exact kd_b0 _ | exact kd_b1 _ | exact kd_b2 _ | exact kd_b3 _ | exact kd_b4 _ | exact kd_b5 _ | exact kd_b6 _) (by omega) (by first | exact hFx _ 1 _ rfl | assumption | exact hBk.1 | exact hBk.2.1 | exact hBk.2.2.1 | exact hBk.2.2.2.1 | exact hBk.2.2.2.2.1 | exact hBk.2.2.2.2.2) ?_
      try simp (disch := omega) only [up_same, up_o, up_k]
      refine Wp.aload_n rfl dX2_add_34 ?_
      refine Wp.gi (kz := 4) rfl dX2_add_35 fkX2_24 (by first | rfl | exact kd_b0 _ | exact kd_b1 _ | exact kd_b2 _ | exact kd_b3 _ | exact kd_b4 _ | exact kd_b5 _ | exact kd_b6 _) (by omega) ?_
      try simp (disch := omega) only [up_same, up_o, up_k]
      refine Wp.iload_n rfl dX2_add_38 ?_
      refine Wp.iastore dX2_add_39 (by first | rfl | exact kd_b0 _ | exact kd_b1 _ | exact kd_b2 _ | exact kd_b3 _ | exact kd_b4 _ | exact kd_b5 _ | exact kd_b6 _) (by omega) (by omega) (by omega) ?_
      refine Wp.aload_n rfl dX2_add_40 ?_
      refine Wp.gr (kz := 2) rfl dX2_add_41 fkX2_18 (by first | rfl | exact kd_b0 _ | exact kd_b1 _ | exact kd_b2 _ | exact kd_b3 _ | exact kd_b4 _ | exact kd_b5 _ | exact kd_b6 _) (by omega) (by first | exact hFx _ 2 _ rfl | assumption | exact hBk.1 | exact hBk.2.1 | exact hBk.2.2.1 | exact hBk.2.2.2.1 | exact hBk.2.2.2.2.1 | exact hBk.2.2.2.2.2) ?_
      try simp (disch := omega) only [up_same, up_o, up_k]
      refine Wp.aload_n rfl dX2_add_44 ?_
      refine Wp.gi (kz := 4) rfl dX2_add_45 fkX2_24 (by first | rfl | exact kd_b0 _ | exact kd_b1 _ | exact kd_b2 _ | exact kd_b3 _ | exact kd_b4 _ | exact kd_b5 _ | exact kd_b6 _) (by omega) ?_
      try simp (disch := omega) only [up_same, up_o, up_k]
      refine Wp.iload_n rfl dX2_add_48 ?_
      refine Wp.iastore dX2_add_49 (by first | rfl | exact kd_b0 _ | exact kd_b1 _ | exact kd_b2 _ | exact kd_b3 _ | exact kd_b4 _ | exact kd_b5 _ | exact kd_b6 _) (by omega) (by omega) (by omega) ?_
      refine Wp.aload_n rfl dX2_add_50 ?_
      refine Wp.gr (kz := 3) rfl dX2_add_51 fkX2_21 (by first | rfl | exact kd_b0 _ | exact kd_b1 _ | exact kd_b2 _ | exact kd_b3 _ | exact kd_b4 _ | exact kd_b5 _ | exact kd_b6 _) (by omega) (by first | exact hFx _ 3 _ rfl | assumption | exact hBk.1 | exact hBk.2.1 | exact hBk.2.2.1 | exact hBk.2.2.2.1 | exact hBk.2.2.2.2.1 | exact hBk.2.2.2.2.2) ?_
      try simp (disch := omega) only [up_same, up_o, up_k]
      refine Wp.aload_n rfl dX2_add_54 ?_
      refine Wp.gi (kz := 4) rfl dX2_add_55 fkX2_24 (by first | rfl | exact kd_b0 _ | exact kd_b1 _ | exact kd_b2 _ | exact kd_b3 _ | exact kd_b4 _ | exact kd_b5 _ | exact kd_b6 _) (by omega) ?_
      try simp (disch := omega) only [up_same, up_o, up_k]
      refine Wp.iload rfl dX2_add_58 ?_
      refine Wp.iastore dX2_add_60 (by first | rfl | exact kd_b0 _ | exact kd_b1 _ | exact kd_b2 _ | exact kd_b3 _ | exact kd_b4 _ | exact kd_b5 _ | exact kd_b6 _) (by omega) (by omega) (by omega) ?_
      refine Wp.aload_n rfl dX2_add_61 ?_
      first | refine Wp.dupR dX2_add_62 ?_ | refine Wp.dupI dX2_add_62 ?_
      refine Wp.gi (kz := 4) rfl dX2_add_63 fkX2_24 (by first | rfl | exact kd_b0 _ | exact kd_b1 _ | exact kd_b2 _ | exact kd_b3 _ | exact kd_b4 _ | exact kd_b5 _ | exact kd_b6 _) (by omega) ?_
      try simp (disch := omega) only [up_same, up_o, up_k]
      refine Wp.iconst dX2_add_66 ?_
      refine Wp.iadd dX2_add_67 ?_
      refine Wp.pi (kz := 4) rfl dX2_add_68 fkX2_24 (Or.inl rfl) (Or.inl rfl) (by first | rfl | exact kd_b0 _ | exact kd_b1 _ | exact kd_b2 _ | exact kd_b3 _ | exact kd_b4 _ | exact kd_b5 _ | exact kd_b6 _) (by omega) ?_
      refine Wp.aload_n rfl dX2_add_71 ?_
      refine Wp.gi (kz := 4) rfl dX2_add_72 fkX2_24 (by first | rfl | exact kd_b0 _ | exact kd_b1 _ | exact kd_b2 _ | exact kd_b3 _ | exact kd_b4 _ | exact kd_b5 _ | exact kd_b6 _) (by omega) ?_
      try simp (disch := omega) only [up_same, up_o, up_k]
      refine Wp.ireturn dX2_add_75 rfl ?_
      first | exact hq | (exfalso; omega) | exact qI hq (by omega)
    · refine Wp.sipush rfl dX2_add_16 ?_
      refine Wp.ireturn dX2_add_19 rfl ?_
      first | exact hq | (exfalso; omega) | exact qI hq (by omega)
/-! a book, at 57 + 7 * k -/
def plc (I : Nat → Int → Int) (k : Nat) (w s : Int) : Int := if 0 ≤ w ∧ w < 60 ∧ 0 ≤ s ∧ s < 3 ∧ s < I (57 + 7 * k + 1) w then w * 3 + s else -1
variable {k : Nat}
theorem ct_X0_placeOf {w s : Int} (hk : 57 + 7 * k + 7 ≤ n) (hBk : Bk R k) (hw : inR w) (hs : inR s) (hb : ∀ w, 0 ≤ w → w < 60 → inR (I (57 + 7 * k + 1) w)) (hq : Q (some (vi (plc I k w s))) (I, L, R, n)) : Wp mX0_placeOf 0 [some (vr (some (57 + 7 * k))), some (vi w), some (vi s)] [] (I, L, R, n) (0, 0) Q := by
  refine Wp.iload_n rfl dX0_placeOf_0 ?_
  refine Wp.callS (As := [_]) (ls0 := [_]) (bd := (0, 0)) (bd' := (0, 0)) dX0_placeOf_1 kmX11_isWord lkX0_58 (by decide) (by decide) (Nat.le_of_ble_eq_true rfl) rfl rfl (Nat.le_of_ble_eq_true rfl) rfl ?_
  refine ct_X11_isWord (by omega) ?_
  show Wp _ _ _ (_ :: _) _ _ _
  refine Wp.if_eqB (tgt := 34) dX0_placeOf_4 (by decide) (fun c4 => ?_) (fun c4 => ?_)
  · refine Wp.iconst dX0_placeOf_34 ?_
    refine Wp.ireturn dX0_placeOf_35 rfl ?_
    first | (exfalso; omega) | (exact qI hq (by unfold plc; first | rw [if_pos (by omega)] | rw [if_neg (by omega)]))
  · refine Wp.iload_n rfl dX0_placeOf_7 ?_
    refine Wp.if_lt (tgt := 34) dX0_placeOf_8 (by decide) (by first | omega | exact bI_R _ | exact cmp_R _ _ | assumption) (fun c8 => ?_) (fun c8 => ?_)
    · refine Wp.iconst dX0_placeOf_34 ?_
      refine Wp.ireturn dX0_placeOf_35 rfl ?_
      first | (exfalso; omega) | (exact qI hq (by unfold plc; first | rw [if_pos (by omega)] | rw [if_neg (by omega)]))
    · refine Wp.iload_n rfl dX0_placeOf_11 ?_
      refine Wp.iconst dX0_placeOf_12 ?_
      refine Wp.icmp_ge (tgt := 34) dX0_placeOf_13 (by decide) (by first | omega | exact bI_R _ | exact cmp_R _ _ | assumption) (by first | omega | exact bI_R _ | exact cmp_R _ _ | assumption) (fun c13 => ?_) (fun c13 => ?_)
      · refine Wp.iconst dX0_placeOf_34 ?_
        refine Wp.ireturn dX0_placeOf_35 rfl ?_
        first | (exfalso; omega) | (exact qI hq (by unfold plc; first | rw [if_pos (by omega)] | rw [if_neg (by omega)]))
      · refine Wp.iload_n rfl dX0_placeOf_16 ?_
        have hbw := hb w (by omega) (by omega)
        refine Wp.aload_n rfl dX0_placeOf_17 ?_
        refine Wp.gr (kz := 7) rfl dX0_placeOf_18 fkX0_9 (by first | rfl | exact kd_b0 _ | exact kd_b1 _ | exact kd_b2 _ | exact kd_b3 _ | exact kd_b4 _ | exact kd_b5 _ | exact kd_b6 _) (by omega) (by first | exact hFx _ 7 _ rfl | assumption | exact hBk.1 | exact hBk.2.1 | exact hBk.2.2.1 | exact hBk.2.2.2.1 | exact hBk.2.2.2.2.1 | exact hBk.2.2.2.2.2) ?_
        refine Wp.iload_n rfl dX0_placeOf_21 ?_
        refine Wp.iaload dX0_placeOf_22 (by first | rfl | exact kd_b0 _ | exact kd_b1 _ | exact kd_b2 _ | exact kd_b3 _ | exact kd_b4 _ | exact kd_b5 _ | exact kd_b6 _) (by omega) (by omega) (by omega) ?_
        refine Wp.icmp_ge (tgt := 34) dX0_placeOf_23 (by decide) (by first | omega | exact bI_R _ | exact cmp_R _ _ | assumption) (by first | omega | exact bI_R _ | exact cmp_R _ _ | assumption) (fun c23 => ?_) (fun c23 => ?_)
        · refine Wp.iconst dX0_placeOf_34 ?_
          refine Wp.ireturn dX0_placeOf_35 rfl ?_
          first | (exfalso; omega) | (exact qI hq (by unfold plc; first | rw [if_pos (by omega)] | rw [if_neg (by omega)]))
        · refine Wp.iload_n rfl dX0_placeOf_26 ?_
          refine Wp.iconst dX0_placeOf_27 ?_
          refine Wp.imul dX0_placeOf_28 ?_
          refine Wp.iload_n rfl dX0_placeOf_29 ?_
          refine Wp.iadd dX0_placeOf_30 ?_
          refine Wp.goto (tgt := 35) dX0_placeOf_31 (by decide) ?_
          refine Wp.ireturn dX0_placeOf_35 rfl ?_
          first | (exfalso; omega) | (exact qI hq (by unfold plc; first | rw [if_pos (by omega)] | rw [if_neg (by omega)]))
theorem plc_R {w s : Int} (h : plc I k w s ≠ -1) : 0 ≤ w ∧ w < 60 ∧ 0 ≤ s ∧ s < 3 ∧ s < I (57 + 7 * k + 1) w ∧ plc I k w s = w * 3 + s := by
  unfold plc at h ⊢
  split at h
  · rename_i h2; rw [if_pos h2]; omega
  · exact absurd rfl h
theorem plc_B (I : Nat → Int → Int) (k : Nat) (w s : Int) : -1 ≤ plc I k w s ∧ plc I k w s < 180 := by
  unfold plc; split <;> omega
def snsOf (I : Nat → Int → Int) (k : Nat) (w : Int) : Int := if 0 ≤ w ∧ w < 60 then I (57 + 7 * k + 1) w else 0
theorem ct_X0_sensesOf {w : Int} (hk : 57 + 7 * k + 7 ≤ n) (hBk : Bk R k) (hw : inR w) (hq : Q (some (vi (snsOf I k w))) (I, L, R, n)) : Wp mX0_sensesOf 0 [some (vr (some (57 + 7 * k))), some (vi w)] [] (I, L, R, n) (0, 0) Q := by
  refine Wp.iload_n rfl dX0_sensesOf_0 ?_
  refine Wp.callS (As := [_]) (ls0 := [_]) (bd := (0, 0)) (bd' := (0, 0)) dX0_sensesOf_1 kmX11_isWord lkX0_58 (by decide) (by decide) (Nat.le_of_ble_eq_true rfl) rfl rfl (Nat.le_of_ble_eq_true rfl) rfl ?_
  refine ct_X11_isWord (by omega) ?_
  show Wp _ _ _ (_ :: _) _ _ _
  refine Wp.if_eqB (tgt := 16) dX0_sensesOf_4 (by decide) (fun c4 => ?_) (fun c4 => ?_)
  · refine Wp.iconst dX0_sensesOf_16 ?_
    refine Wp.ireturn dX0_sensesOf_17 rfl ?_
    first | (exfalso; omega) | (exact qI hq (by unfold snsOf; first | rw [if_pos (by omega)] | rw [if_neg (by omega)]))
  · refine Wp.aload_n rfl dX0_sensesOf_7 ?_
    refine Wp.gr (kz := 7) rfl dX0_sensesOf_8 fkX0_9 (by first | rfl | exact kd_b0 _ | exact kd_b1 _ | exact kd_b2 _ | exact kd_b3 _ | exact kd_b4 _ | exact kd_b5 _ | exact kd_b6 _) (by omega) (by first | exact hFx _ 7 _ rfl | assumption | exact hBk.1 | exact hBk.2.1 | exact hBk.2.2.1 | exact hBk.2.2.2.1 | exact hBk.2.2.2.2.1 | exact hBk.2.2.2.2.2) ?_
    refine Wp.iload_n rfl dX0_sensesOf_11 ?_
    refine Wp.iaload dX0_sensesOf_12 (by first | rfl | exact kd_b0 _ | exact kd_b1 _ | exact kd_b2 _ | exact kd_b3 _ | exact kd_b4 _ | exact kd_b5 _ | exact kd_b6 _) (by omega) (by omega) (by omega) ?_
    refine Wp.goto (tgt := 17) dX0_sensesOf_13 (by decide) ?_
    refine Wp.ireturn dX0_sensesOf_17 rfl ?_
    first | (exfalso; omega) | (exact qI hq (by unfold snsOf; first | rw [if_pos (by omega)] | rw [if_neg (by omega)]))
def fldOf (I : Nat → Int → Int) (k : Nat) (w s : Int) : Int := if plc I k w s = -1 then -1 else I (57 + 7 * k + 2) (plc I k w s)
theorem ct_X0_fieldOf {w s : Int} (hk : 57 + 7 * k + 7 ≤ n) (hBk : Bk R k) (hw : inR w) (hs : inR s) (hb : ∀ w, 0 ≤ w → w < 60 → inR (I (57 + 7 * k + 1) w)) (hq : Q (some (vi (fldOf I k w s))) (I, L, R, n)) : Wp mX0_fieldOf 0 [some (vr (some (57 + 7 * k))), some (vi w), some (vi s), none] [] (I, L, R, n) (0, 0) Q := by
  have hP := plc_B I k w s
  refine Wp.aload_n rfl dX0_fieldOf_0 ?_
  refine Wp.iload_n rfl dX0_fieldOf_1 ?_
  refine Wp.iload_n rfl dX0_fieldOf_2 ?_
  refine Wp.callV (As := [_, _]) (ls0 := [_, _, _]) (bd := (0, 0)) (bd' := (0, 0)) dX0_fieldOf_3 kmX0_placeOf lkX0_62 (by decide) (by decide) (Nat.le_of_ble_eq_true rfl) (by first | rfl | exact kd_b0 _ | exact kd_b1 _ | exact kd_b2 _ | exact kd_b3 _ | exact kd_b4 _ | exact kd_b5 _ | exact kd_b6 _) (by omega) rfl rfl (Nat.le_of_ble_eq_true rfl) rfl ?_
  refine ct_X0_placeOf hk hBk (by omega) (by omega) hb ?_
  show Wp _ _ _ (_ :: _) _ _ _
  refine Wp.istore_n (ls' := [_, _, _, _]) dX0_fieldOf_6 (by decide) rfl ?_
  refine Wp.iload_n rfl dX0_fieldOf_7 ?_
  refine Wp.iconst dX0_fieldOf_8 ?_
  refine Wp.icmp_ne (tgt := 16) dX0_fieldOf_9 (by decide) (by first | omega | exact bI_R _ | exact cmp_R _ _ | assumption) (by first | omega | exact bI_R _ | exact cmp_R _ _ | assumption) (fun c9 => ?_) (fun c9 => ?_)
  · refine Wp.aload_n rfl dX0_fieldOf_16 ?_
    refine Wp.gr (kz := 8) rfl dX0_fieldOf_17 fkX0_15 (by first | rfl | exact kd_b0 _ | exact kd_b1 _ | exact kd_b2 _ | exact kd_b3 _ | exact kd_b4 _ | exact kd_b5 _ | exact kd_b6 _) (by omega) (by first | exact hFx _ 8 _ rfl | assumption | exact hBk.1 | exact hBk.2.1 | exact hBk.2.2.1 | exact hBk.2.2.2.1 | exact hBk.2.2.2.2.1 | exact hBk.2.2.2.2.2) ?_
    refine Wp.iload_n rfl dX0_fieldOf_20 ?_
    refine Wp.iaload dX0_fieldOf_21 (by first | rfl | exact kd_b0 _ | exact kd_b1 _ | exact kd_b2 _ | exact kd_b3 _ | exact kd_b4 _ | exact kd_b5 _ | exact kd_b6 _) (by omega) (by omega) (by omega) ?_
    refine Wp.ireturn dX0_fieldOf_22 rfl ?_
    first | (exfalso; omega) | (exact qI hq (by unfold fldOf; first | rw [if_pos (by omega)] | rw [if_neg (by omega)]))
  · refine Wp.iconst dX0_fieldOf_12 ?_
    refine Wp.goto (tgt := 22) dX0_fieldOf_13 (by decide) ?_
    refine Wp.ireturn dX0_fieldOf_22 rfl ?_
    first | (exfalso; omega) | (exact qI hq (by unfold fldOf; first | rw [if_pos (by omega)] | rw [if_neg (by omega)]))
def szOf (I : Nat → Int → Int) (k : Nat) (w s : Int) : Int := if plc I k w s = -1 then 0 else I (57 + 7 * k + 3) (plc I k w s)
theorem ct_X0_sizeOf {w s : Int} (hk : 57 + 7 * k + 7 ≤ n) (hBk : Bk R k) (hw : inR w) (hs : inR s) (hb : ∀ w, 0 ≤ w → w < 60 → inR (I (57 + 7 * k + 1) w)) (hq : Q (some (vi (szOf I k w s))) (I, L, R, n)) : Wp mX0_sizeOf 0 [some (vr (some (57 + 7 * k))), some (vi w), some (vi s), none] [] (I, L, R, n) (0, 0) Q := by
  have hP := plc_B I k w s
  refine Wp.aload_n rfl dX0_sizeOf_0 ?_
  refine Wp.iload_n rfl dX0_sizeOf_1 ?_
  refine Wp.iload_n rfl dX0_sizeOf_2 ?_
  refine Wp.callV (As := [_, _]) (ls0 := [_, _, _]) (bd := (0, 0)) (bd' := (0, 0)) dX0_sizeOf_3 kmX0_placeOf lkX0_62 (by decide) (by decide) (Nat.le_of_ble_eq_true rfl) (by first | rfl | exact kd_b0 _ | exact kd_b1 _ | exact kd_b2 _ | exact kd_b3 _ | exact kd_b4 _ | exact kd_b5 _ | exact kd_b6 _) (by omega) rfl rfl (Nat.le_of_ble_eq_true rfl) rfl ?_
  refine ct_X0_placeOf hk hBk (by omega) (by omega) hb ?_
  show Wp _ _ _ (_ :: _) _ _ _
  refine Wp.istore_n (ls' := [_, _, _, _]) dX0_sizeOf_6 (by decide) rfl ?_
  refine Wp.iload_n rfl dX0_sizeOf_7 ?_
  refine Wp.iconst dX0_sizeOf_8 ?_
  refine Wp.icmp_ne (tgt := 16) dX0_sizeOf_9 (by decide) (by first | omega | exact bI_R _ | exact cmp_R _ _ | assumption) (by first | omega | exact bI_R _ | exact cmp_R _ _ | assumption) (fun c9 => ?_) (fun c9 => ?_)
  · refine Wp.aload_n rfl dX0_sizeOf_16 ?_
    refine Wp.gr (kz := 9) rfl dX0_sizeOf_17 fkX0_18 (by first | rfl | exact kd_b0 _ | exact kd_b1 _ | exact kd_b2 _ | exact kd_b3 _ | exact kd_b4 _ | exact kd_b5 _ | exact kd_b6 _) (by omega) (by first | exact hFx _ 9 _ rfl | assumption | exact hBk.1 | exact hBk.2.1 | exact hBk.2.2.1 | exact hBk.2.2.2.1 | exact hBk.2.2.2.2.1 | exact hBk.2.2.2.2.2) ?_
    refine Wp.iload_n rfl dX0_sizeOf_20 ?_
    refine Wp.iaload dX0_sizeOf_21 (by first | rfl | exact kd_b0 _ | exact kd_b1 _ | exact kd_b2 _ | exact kd_b3 _ | exact kd_b4 _ | exact kd_b5 _ | exact kd_b6 _) (by omega) (by omega) (by omega) ?_
    refine Wp.ireturn dX0_sizeOf_22 rfl ?_
    first | (exfalso; omega) | (exact qI hq (by unfold szOf; first | rw [if_pos (by omega)] | rw [if_neg (by omega)]))
  · refine Wp.iconst dX0_sizeOf_12 ?_
    refine Wp.goto (tgt := 22) dX0_sizeOf_13 (by decide) ?_
    refine Wp.ireturn dX0_sizeOf_22 rfl ?_
    first | (exfalso; omega) | (exact qI hq (by unfold szOf; first | rw [if_pos (by omega)] | rw [if_neg (by omega)]))
def wdAt (I : Nat → Int → Int) (k : Nat) (w s p : Int) : Int := if plc I k w s = -1 ∨ p < 0 ∨ 6 ≤ p ∨ I (57 + 7 * k + 3) (plc I k w s) ≤ p then -1 else I (57 + 7 * k + 4) (plc I k w s * 6 + p)
theorem ct_X0_wordAt {w s p : Int} (hk : 57 + 7 * k + 7 ≤ n) (hBk : Bk R k) (hw : inR w) (hs : inR s) (hp : inR p) (hb : ∀ w, 0 ≤ w → w < 60 → inR (I (57 + 7 * k + 1) w)) (hz : ∀ j, 0 ≤ j → j < 180 → inR (I (57 + 7 * k + 3) j)) (hq : Q (some (vi (wdAt I k w s p))) (I, L, R, n)) : Wp mX0_wordAt 0 [some (vr (some (57 + 7 * k))), some (vi w), some (vi s), some (vi p), none] [] (I, L, R, n) (0, 0) Q := by
  have hP := plc_B I k w s
  refine Wp.aload_n rfl dX0_wordAt_0 ?_
  refine Wp.iload_n rfl dX0_wordAt_1 ?_
  refine Wp.iload_n rfl dX0_wordAt_2 ?_
  refine Wp.callV (As := [_, _]) (ls0 := [_, _, _]) (bd := (0, 0)) (bd' := (0, 0)) dX0_wordAt_3 kmX0_placeOf lkX0_62 (by decide) (by decide) (Nat.le_of_ble_eq_true rfl) (by first | rfl | exact kd_b0 _ | exact kd_b1 _ | exact kd_b2 _ | exact kd_b3 _ | exact kd_b4 _ | exact kd_b5 _ | exact kd_b6 _) (by omega) rfl rfl (Nat.le_of_ble_eq_true rfl) rfl ?_
  refine ct_X0_placeOf hk hBk (by omega) (by omega) hb ?_
  show Wp _ _ _ (_ :: _) _ _ _
  refine Wp.istore (ls' := [_, _, _, _, _]) dX0_wordAt_6 (by decide) rfl ?_
  refine Wp.iload rfl dX0_wordAt_8 ?_
  refine Wp.iconst dX0_wordAt_10 ?_
  refine Wp.icmp_eq (tgt := 35) dX0_wordAt_11 (by decide) (by first | omega | exact bI_R _ | exact cmp_R _ _ | assumption) (by first | omega | exact bI_R _ | exact cmp_R _ _ | assumption) (fun c11 => ?_) (fun c11 => ?_)
  · refine Wp.iconst dX0_wordAt_35 ?_
    refine Wp.ireturn dX0_wordAt_36 rfl ?_
    first | (exfalso; omega) | (exact qI hq (by unfold wdAt; first | rw [if_pos (by omega)] | rw [if_neg (by omega)]))
  · refine Wp.iload_n rfl dX0_wordAt_14 ?_
    refine Wp.if_lt (tgt := 35) dX0_wordAt_15 (by decide) (by first | omega | exact bI_R _ | exact cmp_R _ _ | assumption) (fun c15 => ?_) (fun c15 => ?_)
    · refine Wp.iconst dX0_wordAt_35 ?_
      refine Wp.ireturn dX0_wordAt_36 rfl ?_
      first | (exfalso; omega) | (exact qI hq (by unfold wdAt; first | rw [if_pos (by omega)] | rw [if_neg (by omega)]))
    · refine Wp.iload_n rfl dX0_wordAt_18 ?_
      refine Wp.bipush rfl dX0_wordAt_19 ?_
      refine Wp.icmp_ge (tgt := 35) dX0_wordAt_21 (by decide) (by first | omega | exact bI_R _ | exact cmp_R _ _ | assumption) (by first | omega | exact bI_R _ | exact cmp_R _ _ | assumption) (fun c21 => ?_) (fun c21 => ?_)
      · refine Wp.iconst dX0_wordAt_35 ?_
        refine Wp.ireturn dX0_wordAt_36 rfl ?_
        first | (exfalso; omega) | (exact qI hq (by unfold wdAt; first | rw [if_pos (by omega)] | rw [if_neg (by omega)]))
      · refine Wp.iload_n rfl dX0_wordAt_24 ?_
        have hzz := hz (plc I k w s) (by omega) (by omega)
        refine Wp.aload_n rfl dX0_wordAt_25 ?_
        refine Wp.gr (kz := 9) rfl dX0_wordAt_26 fkX0_18 (by first | rfl | exact kd_b0 _ | exact kd_b1 _ | exact kd_b2 _ | exact kd_b3 _ | exact kd_b4 _ | exact kd_b5 _ | exact kd_b6 _) (by omega) (by first | exact hFx _ 9 _ rfl | assumption | exact hBk.1 | exact hBk.2.1 | exact hBk.2.2.1 | exact hBk.2.2.2.1 | exact hBk.2.2.2.2.1 | exact hBk.2.2.2.2.2) ?_
        refine Wp.iload rfl dX0_wordAt_29 ?_
        refine Wp.iaload dX0_wordAt_31 (by first | rfl | exact kd_b0 _ | exact kd_b1 _ | exact kd_b2 _ | exact kd_b3 _ | exact kd_b4 _ | exact kd_b5 _ | exact kd_b6 _) (by omega) (by omega) (by omega) ?_
        refine Wp.icmp_lt (tgt := 37) dX0_wordAt_32 (by decide) (by first | omega | exact bI_R _ | exact cmp_R _ _ | assumption) (by first | omega | exact bI_R _ | exact cmp_R _ _ | assumption) (fun c32 => ?_) (fun c32 => ?_)
        · refine Wp.aload_n rfl dX0_wordAt_37 ?_
          refine Wp.gr (kz := 10) rfl dX0_wordAt_38 fkX0_21 (by first | rfl | exact kd_b0 _ | exact kd_b1 _ | exact kd_b2 _ | exact kd_b3 _ | exact kd_b4 _ | exact kd_b5 _ | exact kd_b6 _) (by omega) (by first | exact hFx _ 10 _ rfl | assumption | exact hBk.1 | exact hBk.2.1 | exact hBk.2.2.1 | exact hBk.2.2.2.1 | exact hBk.2.2.2.2.1 | exact hBk.2.2.2.2.2) ?_
          refine Wp.iload rfl dX0_wordAt_41 ?_
          refine Wp.bipush rfl dX0_wordAt_43 ?_
          refine Wp.imul dX0_wordAt_45 ?_
          refine Wp.iload_n rfl dX0_wordAt_46 ?_
          refine Wp.iadd dX0_wordAt_47 ?_
          refine Wp.iaload dX0_wordAt_48 (by first | rfl | exact kd_b0 _ | exact kd_b1 _ | exact kd_b2 _ | exact kd_b3 _ | exact kd_b4 _ | exact kd_b5 _ | exact kd_b6 _) (by omega) (by omega) (by omega) ?_
          refine Wp.ireturn dX0_wordAt_49 rfl ?_
          first | (exfalso; omega) | (exact qI hq (by unfold wdAt; first | rw [if_pos (by omega)] | rw [if_neg (by omega)]))
        · refine Wp.iconst dX0_wordAt_35 ?_
          refine Wp.ireturn dX0_wordAt_36 rfl ?_
          first | (exfalso; omega) | (exact qI hq (by unfold wdAt; first | rw [if_pos (by omega)] | rw [if_neg (by omega)]))
def sSet (I : Nat → Int → Int) (L : Nat → Int → BitVec 64) (k : Nat) (w s ag : Int) : BitVec 64 := if plc I k w s = -1 then 0#64 else if ag ≠ 0 then L (57 + 7 * k + 5) (plc I k w s) else L (57 + 7 * k + 6) (plc I k w s)
theorem ct_X0_senseSet {w s ag : Int} (hk : 57 + 7 * k + 7 ≤ n) (hBk : Bk R k) (hw : inR w) (hs : inR s) (ha : inR ag) (hb : ∀ w, 0 ≤ w → w < 60 → inR (I (57 + 7 * k + 1) w)) (hq : Q (some (vl (sSet I L k w s ag))) (I, L, R, n)) : Wp mX0_senseSet 0 [some (vr (some (57 + 7 * k))), some (vi w), some (vi s), some (vi ag), none] [] (I, L, R, n) (0, 0) Q := by
  have hP := plc_B I k w s
  refine Wp.aload_n rfl dX0_senseSet_0 ?_
  refine Wp.iload_n rfl dX0_senseSet_1 ?_
  refine Wp.iload_n rfl dX0_senseSet_2 ?_
  refine Wp.callV (As := [_, _]) (ls0 := [_, _, _]) (bd := (0, 0)) (bd' := (0, 0)) dX0_senseSet_3 kmX0_placeOf lkX0_62 (by decide) (by decide) (Nat.le_of_ble_eq_true rfl) (by first | rfl | exact kd_b0 _ | exact kd_b1 _ | exact kd_b2 _ | exact kd_b3 _ | exact kd_b4 _ | exact kd_b5 _ | exact kd_b6 _) (by omega) rfl rfl (Nat.le_of_ble_eq_true rfl) rfl ?_
  refine ct_X0_placeOf hk hBk (by omega) (by omega) hb ?_
  show Wp _ _ _ (_ :: _) _ _ _
  refine Wp.istore (ls' := [_, _, _, _, _]) dX0_senseSet_6 (by decide) rfl ?_
  refine Wp.iload rfl dX0_senseSet_8 ?_
  refine Wp.iconst dX0_senseSet_10 ?_
  refine Wp.icmp_ne (tgt := 16) dX0_senseSet_11 (by decide) (by first | omega | exact bI_R _ | exact cmp_R _ _ | assumption) (by first | omega | exact bI_R _ | exact cmp_R _ _ | assumption) (fun c11 => ?_) (fun c11 => ?_)
  · refine Wp.iload_n rfl dX0_senseSet_16 ?_
    refine Wp.if_eq (tgt := 30) dX0_senseSet_17 (by decide) (by first | omega | exact bI_R _ | exact cmp_R _ _ | assumption) (fun c17 => ?_) (fun c17 => ?_)
    · refine Wp.aload_n rfl dX0_senseSet_30 ?_
      refine Wp.gr (kz := 12) rfl dX0_senseSet_31 fkX0_28 (by first | rfl | exact kd_b0 _ | exact kd_b1 _ | exact kd_b2 _ | exact kd_b3 _ | exact kd_b4 _ | exact kd_b5 _ | exact kd_b6 _) (by omega) (by first | exact hFx _ 12 _ rfl | assumption | exact hBk.1 | exact hBk.2.1 | exact hBk.2.2.1 | exact hBk.2.2.2.1 | exact hBk.2.2.2.2.1 | exact hBk.2.2.2.2.2) ?_
      refine Wp.iload rfl dX0_senseSet_34 ?_
      refine Wp.laload dX0_senseSet_36 (by first | rfl | exact kd_b0 _ | exact kd_b1 _ | exact kd_b2 _ | exact kd_b3 _ | exact kd_b4 _ | exact kd_b5 _ | exact kd_b6 _) (by omega) (by omega) (by omega) ?_
      refine Wp.lreturn dX0_senseSet_37 rfl ?_
      first | (exfalso; omega) | (exact qL hq (by unfold sSet; first | rw [if_pos (by omega)] | rw [if_neg (by omega), if_pos (by omega)] | rw [if_neg (by omega), if_neg (by omega)]))
    · refine Wp.aload_n rfl dX0_senseSet_20 ?_
      refine Wp.gr (kz := 11) rfl dX0_senseSet_21 fkX0_24 (by first | rfl | exact kd_b0 _ | exact kd_b1 _ | exact kd_b2 _ | exact kd_b3 _ | exact kd_b4 _ | exact kd_b5 _ | exact kd_b6 _) (by omega) (by first | exact hFx _ 11 _ rfl | assumption | exact hBk.1 | exact hBk.2.1 | exact hBk.2.2.1 | exact hBk.2.2.2.1 | exact hBk.2.2.2.2.1 | exact hBk.2.2.2.2.2) ?_
      refine Wp.iload rfl dX0_senseSet_24 ?_
      refine Wp.laload dX0_senseSet_26 (by first | rfl | exact kd_b0 _ | exact kd_b1 _ | exact kd_b2 _ | exact kd_b3 _ | exact kd_b4 _ | exact kd_b5 _ | exact kd_b6 _) (by omega) (by omega) (by omega) ?_
      refine Wp.goto (tgt := 37) dX0_senseSet_27 (by decide) ?_
      refine Wp.lreturn dX0_senseSet_37 rfl ?_
      first | (exfalso; omega) | (exact qL hq (by unfold sSet; first | rw [if_pos (by omega)] | rw [if_neg (by omega), if_pos (by omega)] | rw [if_neg (by omega), if_neg (by omega)]))
  · refine Wp.lconst0 dX0_senseSet_14 ?_
    refine Wp.lreturn dX0_senseSet_15 rfl ?_
    first | (exfalso; omega) | (exact qL hq (by unfold sSet; first | rw [if_pos (by omega)] | rw [if_neg (by omega), if_pos (by omega)] | rw [if_neg (by omega), if_neg (by omega)]))
end

