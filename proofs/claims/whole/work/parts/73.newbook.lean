/-! ===== making things; a new draft ===== -/
section
variable {M : MD} {pc : Nat} {ls : List (Option AV)} {st : List AV} {m : Mm} {bd bd2 : Nat × Nat} {Q : Option AV → Mm → Prop}
/-- what is not made may be counted as made -/
theorem Wp.spend (k : Wp M pc ls st m bd Q) (h1 : bd.1 ≤ bd2.1) (h2 : bd.2 ≤ bd2.2) : Wp M pc ls st m bd2 Q := by
  intro p l e R s mid args below meth c H locs cells slots D cA ad base lsC Qf hC hH hS g1 g2 hl hF
  exact k p l e R s mid args below meth c H locs cells slots D cA ad base lsC Qf hC hH hS (by omega) (by omega) hl (fun r m' H' locs' pc' lsC' q a b w => W.widen (by omega) (by omega) (hF r m' H' locs' pc' lsC' q a b w))
end
section
variable {I J : Nat → Int → Int} {L K : Nat → Int → BitVec 64} {R : Nat → Int → Option Nat} {n kb : Nat} {Q : Option AV → Mm → Prop}
theorem ct_X0_restart {a b day : Int} (hk : 57 + 7 * kb + 7 ≤ n) (hBk : Bk R kb) (hq : ∀ J, (∀ (o : Nat) (z : Int), o ≠ 57 + 7 * kb → o ≠ 57 + 7 * kb + 1 → J o z = I o z) → (J (57 + 7 * kb) 0 = a ∧ J (57 + 7 * kb) 1 = b ∧ J (57 + 7 * kb) 2 = day ∧ J (57 + 7 * kb) 4 = 0 ∧ J (57 + 7 * kb) 5 = 0 ∧ J (57 + 7 * kb) 6 = 0) → (∀ w : Int, 0 ≤ w → w < 60 → J (57 + 7 * kb + 1) w = 0) → Q none (J, up L (57 + 7 * kb) 3 0#64, R, n)) : Wp mX0_restart 0 [some (vr (some (57 + 7 * kb))), some (vi a), some (vi b), some (vi day), none] [] (I, L, R, n) (0, 0) Q := by
  have lp : ∀ (tt k : Nat) (z : Int) (J : Nat → Int → Int), k + tt = 60 → z = k → (∀ (o : Nat) (z : Int), o ≠ 57 + 7 * kb → o ≠ 57 + 7 * kb + 1 → J o z = I o z) → (J (57 + 7 * kb) 0 = a ∧ J (57 + 7 * kb) 1 = b ∧ J (57 + 7 * kb) 2 = day ∧ J (57 + 7 * kb) 4 = 0 ∧ J (57 + 7 * kb) 5 = 0 ∧ J (57 + 7 * kb) 6 = 0) → (∀ w : Int, 0 ≤ w → w < k → J (57 + 7 * kb + 1) w = 0) → Wp mX0_restart 38 [some (vr (some (57 + 7 * kb))), some (vi a), some (vi b), some (vi day), some (vi z)] [] (J, up L (57 + 7 * kb) 3 0#64, R, n) (0, 0) Q := by
    intro tt
    induction tt with
    | zero =>
      intro k z J hkt hz e0 e1 e2
      obtain rfl : k = 60 := by omega
      refine Wp.iload rfl dX0_restart_38 ?_
      refine Wp.bipush rfl dX0_restart_40 ?_
      refine Wp.icmp_ge (tgt := 59) dX0_restart_42 (by decide) (by first | omega | exact bI_R _ | exact cmp_R _ _ | assumption) (by first | omega | exact bI_R _ | exact cmp_R _ _ | assumption) (fun c42 => ?_) (fun c42 => ?_)
      · refine Wp.vreturn dX0_restart_59 rfl ?_
        first | (exfalso; omega) | (exact hq J e0 e1 (fun w h0 h1 => e2 w h0 (by omega)))
      · exfalso; omega
    | succ tt ih =>
      intro k z J hkt hz e0 e1 e2
      subst hz
      refine Wp.iload rfl dX0_restart_38 ?_
      refine Wp.bipush rfl dX0_restart_40 ?_
      refine Wp.icmp_ge (tgt := 59) dX0_restart_42 (by decide) (by first | omega | exact bI_R _ | exact cmp_R _ _ | assumption) (by first | omega | exact bI_R _ | exact cmp_R _ _ | assumption) (fun c42 => ?_) (fun c42 => ?_)
      · exfalso; omega
      · refine Wp.aload_n rfl dX0_restart_45 ?_
        refine Wp.gr (kz := 7) rfl dX0_restart_46 fkX0_9 (by first | rfl | exact kd_b0 _ | exact kd_b1 _ | exact kd_b2 _ | exact kd_b3 _ | exact kd_b4 _ | exact kd_b5 _ | exact kd_b6 _) (by omega) (by first | exact hFx _ 7 _ rfl | assumption | exact hBk.1 | exact hBk.2.1 | exact hBk.2.2.1 | exact hBk.2.2.2.1 | exact hBk.2.2.2.2.1 | exact hBk.2.2.2.2.2) ?_
        refine Wp.iload rfl dX0_restart_49 ?_
        refine Wp.iconst dX0_restart_51 ?_
        refine Wp.iastore dX0_restart_52 (by first | rfl | exact kd_b0 _ | exact kd_b1 _ | exact kd_b2 _ | exact kd_b3 _ | exact kd_b4 _ | exact kd_b5 _ | exact kd_b6 _) (by omega) (by omega) (by omega) ?_
        refine Wp.iinc (ls' := [_, _, _, _, _]) rfl dX0_restart_53 (by decide) rfl ?_
        refine Wp.goto (tgt := 38) dX0_restart_56 (by decide) ?_
        refine ih (k + 1) _ _ (by omega) (by omega) (fun o z h1 h2 => by rw [up_o _ _ _ _ h2]; exact e0 o z h1 h2) ?_ (fun w h0 h1 => ?_)
        · simp (disch := omega) only [up_same, up_o, up_k]; exact e1
        · by_cases hwk : w = k
          · rw [hwk, up_same]
          · rw [up_k _ _ _ _ hwk]; exact e2 w h0 (by omega)
  refine Wp.aload_n rfl dX0_restart_0 ?_
  refine Wp.iload_n rfl dX0_restart_1 ?_
  refine Wp.pi (kz := 0) rfl dX0_restart_2 fkX0_31 (Or.inl rfl) (Or.inl rfl) (by first | rfl | exact kd_b0 _ | exact kd_b1 _ | exact kd_b2 _ | exact kd_b3 _ | exact kd_b4 _ | exact kd_b5 _ | exact kd_b6 _) (by omega) ?_
  refine Wp.aload_n rfl dX0_restart_5 ?_
  refine Wp.iload_n rfl dX0_restart_6 ?_
  refine Wp.pi (kz := 1) rfl dX0_restart_7 fkX0_35 (Or.inl rfl) (Or.inl rfl) (by first | rfl | exact kd_b0 _ | exact kd_b1 _ | exact kd_b2 _ | exact kd_b3 _ | exact kd_b4 _ | exact kd_b5 _ | exact kd_b6 _) (by omega) ?_
  refine Wp.aload_n rfl dX0_restart_10 ?_
  refine Wp.iload_n rfl dX0_restart_11 ?_
  refine Wp.pi (kz := 2) rfl dX0_restart_12 fkX0_38 (Or.inl rfl) (Or.inl rfl) (by first | rfl | exact kd_b0 _ | exact kd_b1 _ | exact kd_b2 _ | exact kd_b3 _ | exact kd_b4 _ | exact kd_b5 _ | exact kd_b6 _) (by omega) ?_
  refine Wp.aload_n rfl dX0_restart_15 ?_
  refine Wp.lconst0 dX0_restart_16 ?_
  refine Wp.pl (kz := 3) rfl dX0_restart_17 fkX0_41 (Or.inl rfl) (by first | rfl | exact kd_b0 _ | exact kd_b1 _ | exact kd_b2 _ | exact kd_b3 _ | exact kd_b4 _ | exact kd_b5 _ | exact kd_b6 _) (by omega) ?_
  refine Wp.aload_n rfl dX0_restart_20 ?_
  refine Wp.iconst dX0_restart_21 ?_
  refine Wp.pi (kz := 4) rfl dX0_restart_22 fkX0_45 (Or.inl rfl) (Or.inl rfl) (by first | rfl | exact kd_b0 _ | exact kd_b1 _ | exact kd_b2 _ | exact kd_b3 _ | exact kd_b4 _ | exact kd_b5 _ | exact kd_b6 _) (by omega) ?_
  refine Wp.aload_n rfl dX0_restart_25 ?_
  refine Wp.iconst dX0_restart_26 ?_
  refine Wp.pi (kz := 5) rfl dX0_restart_27 fkX0_48 (Or.inl rfl) (Or.inl rfl) (by first | rfl | exact kd_b0 _ | exact kd_b1 _ | exact kd_b2 _ | exact kd_b3 _ | exact kd_b4 _ | exact kd_b5 _ | exact kd_b6 _) (by omega) ?_
  refine Wp.aload_n rfl dX0_restart_30 ?_
  refine Wp.iconst dX0_restart_31 ?_
  refine Wp.pi (kz := 6) rfl dX0_restart_32 fkX0_51 (Or.inl rfl) (Or.inl rfl) (by first | rfl | exact kd_b0 _ | exact kd_b1 _ | exact kd_b2 _ | exact kd_b3 _ | exact kd_b4 _ | exact kd_b5 _ | exact kd_b6 _) (by omega) ?_
  refine Wp.iconst dX0_restart_35 ?_
  refine Wp.istore (ls' := [_, _, _, _, _]) dX0_restart_36 (by decide) rfl ?_
  refine lp 60 0 _ _ (by omega) (by omega) (fun o z h1 h2 => ?_) ?_ (fun w h0 h1 => by omega)
  · simp (disch := omega) only [up_same, up_o, up_k]
  · simp (disch := omega) only [up_same, up_o, up_k]; exact ⟨trivial, trivial, trivial, trivial, trivial, trivial⟩
/-- the draft stands empty -/
def ndP (kb : Nat) (a b day : Int) (I J : Nat → Int → Int) (L K : Nat → Int → BitVec 64) (R R2 : Nat → Int → Option Nat) : Prop :=
  (∀ (o : Nat) (z : Int), o < 57 + 7 * kb → J o z = I o z) ∧ (∀ (o : Nat) (z : Int), o < 57 + 7 * kb → K o z = L o z) ∧ (∀ (o : Nat) (z : Int), o < 57 + 7 * kb → ¬ (o = 4 ∧ z = 1) → R2 o z = R o z) ∧ R2 4 1 = some (57 + 7 * kb) ∧ Bk R2 kb ∧
  (J (57 + 7 * kb) 0 = a ∧ J (57 + 7 * kb) 1 = b ∧ J (57 + 7 * kb) 2 = day ∧ J (57 + 7 * kb) 4 = 0 ∧ J (57 + 7 * kb) 5 = 0 ∧ J (57 + 7 * kb) 6 = 0) ∧ (∀ w : Int, 0 ≤ w → w < 60 → J (57 + 7 * kb + 1) w = 0) ∧ K (57 + 7 * kb) 3 = 0#64
theorem ct_newDraft1 {a b day : Int} (hn : n = 57 + 7 * kb + 7) (hBk : Bk R kb) (h41 : R 4 1 = some (57 + 7 * kb)) (hq : ∀ J K, ndP kb a b day I J L K R R → Q (some (vr (some (57 + 7 * kb)))) (J, K, R, n)) : Wp mX8_newDraft 0 [some (vr (some 4)), some (vi a), some (vi b), some (vi day)] [] (I, L, R, n) (0, 0) Q := by
  refine Wp.aload_n rfl dX8_newDraft_0 ?_
  refine Wp.gr (kz := 1) rfl dX8_newDraft_1 fkX8_17 (by first | rfl | exact kd_b0 _ | exact kd_b1 _ | exact kd_b2 _ | exact kd_b3 _ | exact kd_b4 _ | exact kd_b5 _ | exact kd_b6 _) (by omega) h41 ?_
  refine Wp.ifnonnullS (tgt := 18) dX8_newDraft_4 (by decide) ?_
  refine Wp.aload_n rfl dX8_newDraft_18 ?_
  refine Wp.gr (kz := 1) rfl dX8_newDraft_19 fkX8_17 (by first | rfl | exact kd_b0 _ | exact kd_b1 _ | exact kd_b2 _ | exact kd_b3 _ | exact kd_b4 _ | exact kd_b5 _ | exact kd_b6 _) (by omega) h41 ?_
  refine Wp.iload_n rfl dX8_newDraft_22 ?_
  refine Wp.iload_n rfl dX8_newDraft_23 ?_
  refine Wp.iload_n rfl dX8_newDraft_24 ?_
  refine Wp.callV (As := [_, _, _]) (ls0 := [_, _, _, _, _]) (bd := (0, 0)) (bd' := (0, 0)) dX8_newDraft_25 kmX0_restart lkX8_33 (by decide) (by decide) (Nat.le_of_ble_eq_true rfl) (by first | rfl | exact kd_b0 _ | exact kd_b1 _ | exact kd_b2 _ | exact kd_b3 _ | exact kd_b4 _ | exact kd_b5 _ | exact kd_b6 _) (by omega) rfl rfl (Nat.le_of_ble_eq_true rfl) rfl ?_
  refine ct_X0_restart (by omega) hBk (fun J hJ hf hz => ?_)
  show Wp _ _ _ _ _ _ _
  refine Wp.aload_n rfl dX8_newDraft_28 ?_
  refine Wp.gr (kz := 1) rfl dX8_newDraft_29 fkX8_17 (by first | rfl | exact kd_b0 _ | exact kd_b1 _ | exact kd_b2 _ | exact kd_b3 _ | exact kd_b4 _ | exact kd_b5 _ | exact kd_b6 _) (by omega) h41 ?_
  refine Wp.areturn dX8_newDraft_32 rfl ?_
  first | (exfalso; omega) | (exact hq J _ ⟨fun o z ho => hJ o z (by omega) (by omega), fun o z ho => up_o _ _ _ _ (by omega), fun _ _ _ _ => rfl, h41, hBk, hf, hz, up_same _ _ _ _⟩)
theorem ct_newDraft0 {a b day : Int} (hn : n = 57 + 7 * kb) (hk8 : kb ≤ 8) (h41 : R 4 1 = none) (hq : ∀ J K R2, ndP kb a b day I J L K R R2 → Q (some (vr (some (57 + 7 * kb)))) (J, K, R2, 57 + 7 * kb + 7)) : Wp mX8_newDraft 0 [some (vr (some 4)), some (vi a), some (vi b), some (vi day)] [] (I, L, R, n) (7, 1873) Q := by
  subst hn
  have h18 : ∀ (I1 : Nat → Int → Int) (L1 : Nat → Int → BitVec 64) (R1 : Nat → Int → Option Nat), (∀ (o : Nat) (z : Int), o < 57 + 7 * kb → I1 o z = I o z) → (∀ (o : Nat) (z : Int), o < 57 + 7 * kb → L1 o z = L o z) → (∀ (o : Nat) (z : Int), o < 57 + 7 * kb → ¬ (o = 4 ∧ z = 1) → R1 o z = R o z) → R1 4 1 = some (57 + 7 * kb) → Bk R1 kb → Wp mX8_newDraft 18 [some (vr (some 4)), some (vi a), some (vi b), some (vi day)] [] (I1, L1, R1, 57 + 7 * kb + 7) (0, 0) Q := by
    intro I1 L1 R1 hI hL hR h1 hBk
    refine Wp.aload_n rfl dX8_newDraft_18 ?_
    refine Wp.gr (kz := 1) rfl dX8_newDraft_19 fkX8_17 (by first | rfl | exact kd_b0 _ | exact kd_b1 _ | exact kd_b2 _ | exact kd_b3 _ | exact kd_b4 _ | exact kd_b5 _ | exact kd_b6 _) (by omega) h1 ?_
    refine Wp.iload_n rfl dX8_newDraft_22 ?_
    refine Wp.iload_n rfl dX8_newDraft_23 ?_
    refine Wp.iload_n rfl dX8_newDraft_24 ?_
    refine Wp.callV (As := [_, _, _]) (ls0 := [_, _, _, _, _]) (bd := (0, 0)) (bd' := (0, 0)) dX8_newDraft_25 kmX0_restart lkX8_33 (by decide) (by decide) (Nat.le_of_ble_eq_true rfl) (by first | rfl | exact kd_b0 _ | exact kd_b1 _ | exact kd_b2 _ | exact kd_b3 _ | exact kd_b4 _ | exact kd_b5 _ | exact kd_b6 _) (by omega) rfl rfl (Nat.le_of_ble_eq_true rfl) rfl ?_
    refine ct_X0_restart (by omega) hBk (fun J hJ hf hz => ?_)
    show Wp _ _ _ _ _ _ _
    refine Wp.aload_n rfl dX8_newDraft_28 ?_
    refine Wp.gr (kz := 1) rfl dX8_newDraft_29 fkX8_17 (by first | rfl | exact kd_b0 _ | exact kd_b1 _ | exact kd_b2 _ | exact kd_b3 _ | exact kd_b4 _ | exact kd_b5 _ | exact kd_b6 _) (by omega) h1 ?_
    refine Wp.areturn dX8_newDraft_32 rfl ?_
    first | (exfalso; omega) | (exact hq J _ R1 ⟨fun o z ho => (hJ o z (by omega) (by omega)).trans (hI o z ho), fun o z ho => (up_o _ _ _ _ (by omega)).trans (hL o z ho), hR, h1, hBk, hf, hz, up_same _ _ _ _⟩)
  refine Wp.aload_n rfl dX8_newDraft_0 ?_
  refine Wp.gr (kz := 1) rfl dX8_newDraft_1 fkX8_17 (by first | rfl | exact kd_b0 _ | exact kd_b1 _ | exact kd_b2 _ | exact kd_b3 _ | exact kd_b4 _ | exact kd_b5 _ | exact kd_b6 _) (by omega) h41 ?_
  refine Wp.ifnonnullN dX8_newDraft_4 ?_
  refine Wp.aload_n rfl dX8_newDraft_7 ?_
  refine Wp.new (c := 0) (bd := (6, 1860)) dX8_newDraft_8 nkX8_9 (by first | rfl | exact kd_b0 _ | exact kd_b1 _ | exact kd_b2 _ | exact kd_b3 _ | exact kd_b4 _ | exact kd_b5 _ | exact kd_b6 _) (by omega) ?_
  first | refine Wp.dupR dX8_newDraft_11 ?_ | refine Wp.dupI dX8_newDraft_11 ?_
  refine Wp.callI (As := []) (ls0 := [_]) (bd := (0, 0)) (bd' := (6, 1860)) dX8_newDraft_12 kmX0_init lkX8_32 (by decide) (by decide) (Nat.le_of_ble_eq_true rfl) (by omega) rfl rfl (Nat.le_of_ble_eq_true rfl) rfl ?_
  refine Wp.aload_n rfl dX0_init_0 ?_
  refine Wp.objInit dX0_init_1 loX0_3 lo_i lo_c (by decide) (by decide) ?_
  refine Wp.aload_n rfl dX0_init_4 ?_
  refine Wp.bipush rfl dX0_init_5 ?_
  refine Wp.newI (bd := (5, 1800)) dX0_init_7 ka_int (by first | rfl | exact kd_b0 _ | exact kd_b1 _ | exact kd_b2 _ | exact kd_b3 _ | exact kd_b4 _ | exact kd_b5 _ | exact kd_b6 _) rfl (by omega) ?_
  refine Wp.pr (kz := 7) rfl dX0_init_9 fkX0_9 fnX0_9 (by first | rfl | exact kd_b0 _ | exact kd_b1 _ | exact kd_b2 _ | exact kd_b3 _ | exact kd_b4 _ | exact kd_b5 _ | exact kd_b6 _) (by omega) ?_
  refine Wp.aload_n rfl dX0_init_12 ?_
  refine Wp.sipush rfl dX0_init_13 ?_
  refine Wp.newI (bd := (4, 1620)) dX0_init_16 ka_int (by first | rfl | exact kd_b0 _ | exact kd_b1 _ | exact kd_b2 _ | exact kd_b3 _ | exact kd_b4 _ | exact kd_b5 _ | exact kd_b6 _) rfl (by omega) ?_
  refine Wp.pr (kz := 8) rfl dX0_init_18 fkX0_15 fnX0_15 (by first | rfl | exact kd_b0 _ | exact kd_b1 _ | exact kd_b2 _ | exact kd_b3 _ | exact kd_b4 _ | exact kd_b5 _ | exact kd_b6 _) (by omega) ?_
  refine Wp.aload_n rfl dX0_init_21 ?_
  refine Wp.sipush rfl dX0_init_22 ?_
  refine Wp.newI (bd := (3, 1440)) dX0_init_25 ka_int (by first | rfl | exact kd_b0 _ | exact kd_b1 _ | exact kd_b2 _ | exact kd_b3 _ | exact kd_b4 _ | exact kd_b5 _ | exact kd_b6 _) rfl (by omega) ?_
  refine Wp.pr (kz := 9) rfl dX0_init_27 fkX0_18 fnX0_18 (by first | rfl | exact kd_b0 _ | exact kd_b1 _ | exact kd_b2 _ | exact kd_b3 _ | exact kd_b4 _ | exact kd_b5 _ | exact kd_b6 _) (by omega) ?_
  refine Wp.aload_n rfl dX0_init_30 ?_
  refine Wp.sipush rfl dX0_init_31 ?_
  refine Wp.newI (bd := (2, 360)) dX0_init_34 ka_int (by first | rfl | exact kd_b0 _ | exact kd_b1 _ | exact kd_b2 _ | exact kd_b3 _ | exact kd_b4 _ | exact kd_b5 _ | exact kd_b6 _) rfl (by omega) ?_
  refine Wp.pr (kz := 10) rfl dX0_init_36 fkX0_21 fnX0_21 (by first | rfl | exact kd_b0 _ | exact kd_b1 _ | exact kd_b2 _ | exact kd_b3 _ | exact kd_b4 _ | exact kd_b5 _ | exact kd_b6 _) (by omega) ?_
  refine Wp.aload_n rfl dX0_init_39 ?_
  refine Wp.sipush rfl dX0_init_40 ?_
  refine Wp.newL (bd := (1, 180)) dX0_init_43 ka_long (by first | rfl | exact kd_b0 _ | exact kd_b1 _ | exact kd_b2 _ | exact kd_b3 _ | exact kd_b4 _ | exact kd_b5 _ | exact kd_b6 _) rfl (by omega) ?_
  refine Wp.pr (kz := 11) rfl dX0_init_45 fkX0_24 fnX0_24 (by first | rfl | exact kd_b0 _ | exact kd_b1 _ | exact kd_b2 _ | exact kd_b3 _ | exact kd_b4 _ | exact kd_b5 _ | exact kd_b6 _) (by omega) ?_
  refine Wp.aload_n rfl dX0_init_48 ?_
  refine Wp.sipush rfl dX0_init_49 ?_
  refine Wp.newL (bd := (0, 0)) dX0_init_52 ka_long (by first | rfl | exact kd_b0 _ | exact kd_b1 _ | exact kd_b2 _ | exact kd_b3 _ | exact kd_b4 _ | exact kd_b5 _ | exact kd_b6 _) rfl (by omega) ?_
  refine Wp.pr (kz := 12) rfl dX0_init_54 fkX0_28 fnX0_28 (by first | rfl | exact kd_b0 _ | exact kd_b1 _ | exact kd_b2 _ | exact kd_b3 _ | exact kd_b4 _ | exact kd_b5 _ | exact kd_b6 _) (by omega) ?_
  refine Wp.vreturn dX0_init_57 rfl ?_
  skip
  show Wp _ _ _ _ _ _ _
  refine Wp.pr (kz := 1) rfl dX8_newDraft_15 fkX8_17 (Or.inl rfl) (by first | rfl | exact kd_b0 _ | exact kd_b1 _ | exact kd_b2 _ | exact kd_b3 _ | exact kd_b4 _ | exact kd_b5 _ | exact kd_b6 _) (by omega) ?_
  refine h18 _ _ _ (fun o z ho => ?_) (fun o z ho => ?_) (fun o z ho hne => ?_) (up_same _ _ _ _) ⟨?_, ?_, ?_, ?_, ?_, ?_⟩
  · simp (disch := omega) only [up_same, up_o, up_k, zr_s, zr_o]
  · simp (disch := omega) only [up_same, up_o, up_k, zr_s, zr_o]
  · by_cases h4 : o = 4
    · subst h4; rw [up_k _ _ _ _ (fun q => hne ⟨rfl, q⟩)]; simp (disch := omega) only [up_same, up_o, up_k, zr_s, zr_o]
    · simp (disch := omega) only [up_same, up_o, up_k, zr_s, zr_o]
  all_goals simp (disch := omega) only [up_same, up_o, up_k, zr_s, zr_o]
/-- the draft is put on the shelf -/
theorem ct_X8_keepDraft (hn : 57 + 7 * kb + 7 ≤ n) (hFx : Fx R) (h41 : R 4 1 = some (57 + 7 * kb)) (h2 : I 4 2 = kb) (hk8 : kb < 8) (hq : Q (some (vi (kb : Int))) (up I 4 2 ((kb : Int) + 1), L, up (up R 5 kb (some (57 + 7 * kb))) 4 1 none, n)) : Wp mX8_keepDraft 0 [some (vr (some 4))] [] (I, L, R, n) (0, 0) Q := by
  refine Wp.aload_n rfl dX8_keepDraft_0 ?_
  refine Wp.gr (kz := 1) rfl dX8_keepDraft_1 fkX8_17 (by first | rfl | exact kd_b0 _ | exact kd_b1 _ | exact kd_b2 _ | exact kd_b3 _ | exact kd_b4 _ | exact kd_b5 _ | exact kd_b6 _) (by omega) h41 ?_
  refine Wp.ifnullS dX8_keepDraft_4 ?_
  refine Wp.aload_n rfl dX8_keepDraft_7 ?_
  refine Wp.gi (kz := 2) rfl dX8_keepDraft_8 fkX8_21 (by first | rfl | exact kd_b0 _ | exact kd_b1 _ | exact kd_b2 _ | exact kd_b3 _ | exact kd_b4 _ | exact kd_b5 _ | exact kd_b6 _) (by omega) ?_
  rw [h2]
  refine Wp.if_lt (tgt := 23) dX8_keepDraft_11 (by decide) (by first | omega | exact bI_R _ | exact cmp_R _ _ | assumption) (fun c11 => ?_) (fun c11 => ?_)
  · refine Wp.sipush rfl dX8_keepDraft_23 ?_
    refine Wp.ireturn dX8_keepDraft_26 rfl ?_
    first | (exfalso; omega) | (exact qI hq (by omega))
  · refine Wp.aload_n rfl dX8_keepDraft_14 ?_
    refine Wp.gi (kz := 2) rfl dX8_keepDraft_15 fkX8_21 (by first | rfl | exact kd_b0 _ | exact kd_b1 _ | exact kd_b2 _ | exact kd_b3 _ | exact kd_b4 _ | exact kd_b5 _ | exact kd_b6 _) (by omega) ?_
    rw [h2]
    refine Wp.bipush rfl dX8_keepDraft_18 ?_
    refine Wp.icmp_lt (tgt := 27) dX8_keepDraft_20 (by decide) (by first | omega | exact bI_R _ | exact cmp_R _ _ | assumption) (by first | omega | exact bI_R _ | exact cmp_R _ _ | assumption) (fun c20 => ?_) (fun c20 => ?_)
    · refine Wp.aload_n rfl dX8_keepDraft_27 ?_
      refine Wp.gr (kz := 0) rfl dX8_keepDraft_28 fkX8_11 (by first | rfl | exact kd_b0 _ | exact kd_b1 _ | exact kd_b2 _ | exact kd_b3 _ | exact kd_b4 _ | exact kd_b5 _ | exact kd_b6 _) (by omega) (by first | exact hFx _ 0 _ rfl | assumption | exact hBk.1 | exact hBk.2.1 | exact hBk.2.2.1 | exact hBk.2.2.2.1 | exact hBk.2.2.2.2.1 | exact hBk.2.2.2.2.2) ?_
      refine Wp.aload_n rfl dX8_keepDraft_31 ?_
      refine Wp.gi (kz := 2) rfl dX8_keepDraft_32 fkX8_21 (by first | rfl | exact kd_b0 _ | exact kd_b1 _ | exact kd_b2 _ | exact kd_b3 _ | exact kd_b4 _ | exact kd_b5 _ | exact kd_b6 _) (by omega) ?_
      rw [h2]
      refine Wp.aload_n rfl dX8_keepDraft_35 ?_
      refine Wp.gr (kz := 1) rfl dX8_keepDraft_36 fkX8_17 (by first | rfl | exact kd_b0 _ | exact kd_b1 _ | exact kd_b2 _ | exact kd_b3 _ | exact kd_b4 _ | exact kd_b5 _ | exact kd_b6 _) (by omega) h41 ?_
      refine Wp.aastore dX8_keepDraft_39 (by first | rfl | exact kd_b0 _ | exact kd_b1 _ | exact kd_b2 _ | exact kd_b3 _ | exact kd_b4 _ | exact kd_b5 _ | exact kd_b6 _) (by omega) (by omega) (by omega) (by first | rfl | exact kd_b0 _ | exact kd_b1 _ | exact kd_b2 _ | exact kd_b3 _ | exact kd_b4 _ | exact kd_b5 _ | exact kd_b6 _) (by omega) ?_
      refine Wp.aload_n rfl dX8_keepDraft_40 ?_
      refine Wp.aconst_null dX8_keepDraft_41 ?_
      refine Wp.pr (kz := 1) rfl dX8_keepDraft_42 fkX8_17 (Or.inl rfl) (by first | rfl | exact kd_b0 _ | exact kd_b1 _ | exact kd_b2 _ | exact kd_b3 _ | exact kd_b4 _ | exact kd_b5 _ | exact kd_b6 _) (by omega) ?_
      refine Wp.aload_n rfl dX8_keepDraft_45 ?_
      first | refine Wp.dupR dX8_keepDraft_46 ?_ | refine Wp.dupI dX8_keepDraft_46 ?_
      refine Wp.gi (kz := 2) rfl dX8_keepDraft_47 fkX8_21 (by first | rfl | exact kd_b0 _ | exact kd_b1 _ | exact kd_b2 _ | exact kd_b3 _ | exact kd_b4 _ | exact kd_b5 _ | exact kd_b6 _) (by omega) ?_
      try simp (disch := omega) only [up_same, up_o, up_k]
      rw [h2]
      refine Wp.iconst dX8_keepDraft_50 ?_
      refine Wp.iadd dX8_keepDraft_51 ?_
      refine Wp.pi (kz := 2) rfl dX8_keepDraft_52 fkX8_21 (Or.inl rfl) (Or.inl rfl) (by first | rfl | exact kd_b0 _ | exact kd_b1 _ | exact kd_b2 _ | exact kd_b3 _ | exact kd_b4 _ | exact kd_b5 _ | exact kd_b6 _) (by omega) ?_
      refine Wp.aload_n rfl dX8_keepDraft_55 ?_
      refine Wp.gi (kz := 2) rfl dX8_keepDraft_56 fkX8_21 (by first | rfl | exact kd_b0 _ | exact kd_b1 _ | exact kd_b2 _ | exact kd_b3 _ | exact kd_b4 _ | exact kd_b5 _ | exact kd_b6 _) (by omega) ?_
      try simp (disch := omega) only [up_same, up_o, up_k]
      refine Wp.iconst dX8_keepDraft_59 ?_
      refine Wp.isub dX8_keepDraft_60 ?_
      refine Wp.ireturn dX8_keepDraft_61 rfl ?_
      first | (exfalso; omega) | (exact qI hq (by omega))
    · refine Wp.sipush rfl dX8_keepDraft_23 ?_
      refine Wp.ireturn dX8_keepDraft_26 rfl ?_
      first | (exfalso; omega) | (exact qI hq (by omega))
end

