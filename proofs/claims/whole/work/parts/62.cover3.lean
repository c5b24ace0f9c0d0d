/-! ===== the class: promise 28, the search ===== -/
section
variable {I J : Nat → Int → Int} {L K : Nat → Int → BitVec 64} {R : Nat → Int → Option Nat} {n k : Nat} {m : Mm} {Q : Option AV → Mm → Prop}
theorem Ivl_0 {s : Nat} {b : Int} {S : Int → BitVec 64} (hb : tgP b) (h : ∀ q : Nat, q < 4 → S q = if (q : Int) = b then ALLW else 0#64) : Ivl I s b S := by
  have h' : ∀ q : Int, tgP q → S q = if q = b then ALLW else 0#64 := fun q hq => by
    have := h q.toNat (by omega); rw [show ((q.toNat : Nat) : Int) = q by omega] at this; exact this
  refine ⟨by rw [h' b hb, if_pos rfl], fun p hp i hi => ?_, fun T hT p hp w hw hbit => ?_⟩
  · rw [h' p hp]
    split
    · rw [ALLW_bit]; simp; omega
    · simp
  · rw [h' p hp] at hbit
    split at hbit
    · rename_i e; rw [e]; exact hT.1 w hw
    · simp at hbit
theorem pc_all : pcN ALLW 60 = 60 := by decide +kernel
theorem cnt_1 {s : Nat} {b : Int} {S : Int → BitVec 64} (hb : tgP b) (h : Ivl I s b S) : 1 ≤ cntF S := by
  have h0 := pcN_B (S 0) 60
  have h1 := pcN_B (S 1) 60
  have h2 := pcN_B (S 2) 60
  have h3 := pcN_B (S 3) 60
  have hp := pc_all
  rw [← h.1] at hp
  unfold cntF
  rcases (show b = 0 ∨ b = 1 ∨ b = 2 ∨ b = 3 by omega) with rfl | rfl | rfl | rfl <;> omega
theorem ct_X1_allCome {s : Nat} {a b : Int} {set : BitVec 64} (hS : ShR I L R n) (hs : s < 256) (hg : gdB I s = true) (ha : tgP a) (hb : tgP b) (hset : ∀ i : Nat, 60 ≤ i → set.getLsbD i = false) (hq : ∀ K, EqvL L K → Q (some (vi (bI (covB I s a b set = true)))) (I, K, R, n)) : Wp mX1_allCome 0 [some (vr (some 29)), some (vr (some 4)), some (vi (s : Int)), some (vi a), some (vi b), some (vl set), none, none, none] [] (I, L, R, n) (0, 0) Q := by
  have hn := hS.1
  have hFx := hS.2.1
  have hW := hS.2.2.1
  have fin : ∀ (K : Nat → Int → BitVec 64) (x7 x8 : Option AV), EqvL L K → Lst I s b (K 31) → Wp mX1_allCome 108 [some (vr (some 29)), some (vr (some 4)), some (vi (s : Int)), some (vi a), some (vi b), some (vl set), none, x7, x8] [] (I, K, R, n) (0, 0) Q := by
    intro K x7 x8 eK hL
    have hcv := Lst_cov (a := a) (s := set) hL ha hset
    refine Wp.lload rfl dX1_allCome_108 ?_
    refine Wp.aload_n rfl dX1_allCome_110 ?_
    refine Wp.gr (kz := 1) rfl dX1_allCome_111 fkX1_15 (by first | rfl | exact kd_b0 _ | exact kd_b1 _ | exact kd_b2 _ | exact kd_b3 _ | exact kd_b4 _ | exact kd_b5 _ | exact kd_b6 _) (by omega) (by first | exact hFx _ 1 _ rfl | assumption | exact hBk.1 | exact hBk.2.1 | exact hBk.2.2.1 | exact hBk.2.2.2.1 | exact hBk.2.2.2.2.1 | exact hBk.2.2.2.2.2) ?_
    refine Wp.iload_n rfl dX1_allCome_114 ?_
    refine Wp.laload dX1_allCome_115 (by first | rfl | exact kd_b0 _ | exact kd_b1 _ | exact kd_b2 _ | exact kd_b3 _ | exact kd_b4 _ | exact kd_b5 _ | exact kd_b6 _) (by omega) (by omega) (by omega) ?_
    refine Wp.ldc2_w (b := 18446744073709551615#64) ckX1_58 rfl dX1_allCome_116 ?_
    refine Wp.lxor dX1_allCome_119 ?_
    refine Wp.land dX1_allCome_120 ?_
    refine Wp.lconst0 dX1_allCome_121 ?_
    refine Wp.lcmp dX1_allCome_122 ?_
    refine Wp.if_neC (tgt := 130) dX1_allCome_123 (by decide) (fun c123 => ?_) (fun c123 => ?_)
    · refine Wp.iconst dX1_allCome_130 ?_
      refine Wp.zreturn dX1_allCome_131 rfl (by first | omega | exact bI_01 _) ?_
      first | (exfalso; omega) | (first | exact qB_t (hq K eK) (covB_iff.mpr (hcv.mp c123)) | exact qB_f (hq K eK) (fun q => c123 (hcv.mpr (covB_iff.mp q))))
    · refine Wp.iconst dX1_allCome_126 ?_
      refine Wp.goto (tgt := 131) dX1_allCome_127 (by decide) ?_
      refine Wp.zreturn dX1_allCome_131 rfl (by first | omega | exact bI_01 _) ?_
      first | (exfalso; omega) | (first | exact qB_t (hq K eK) (covB_iff.mpr (hcv.mp c123)) | exact qB_f (hq K eK) (fun q => c123 (hcv.mpr (covB_iff.mp q))))
  have lw : ∀ (tt k : Nat) (z : Int) (K : Nat → Int → BitVec 64) (gr : Int), k + tt = 240 → z = k → EqvL L K → (∀ k : Nat, k < 8 → chP I s k (K 30 k)) → Ivl I s b (K 31) → ((gr = 0 ∧ Clo I s b (K 31)) ∨ (gr = 1 ∧ (k : Int) + 1 ≤ cntF (K 31))) → Wp mX1_allCome 82 [some (vr (some 29)), some (vr (some 4)), some (vi (s : Int)), some (vi a), some (vi b), some (vl set), none, some (vi gr), some (vi z)] [] (I, K, R, n) (0, 0) Q := by
    intro tt
    induction tt with
    | zero =>
      intro k z K gr hkt hz e0 e1 e2 e3
      obtain rfl : k = 240 := by omega
      have hcB := cntF_B (K 31)
      refine Wp.iload rfl dX1_allCome_82 ?_
      refine Wp.sipush rfl dX1_allCome_84 ?_
      refine Wp.icmp_ge (tgt := 108) dX1_allCome_87 (by decide) (by first | omega | exact bI_R _ | exact cmp_R _ _ | assumption) (by first | omega | exact bI_R _ | exact cmp_R _ _ | assumption) (fun c87 => ?_) (fun c87 => ?_)
      · exact fin K _ _ e0 ⟨e2, (e3.resolve_right (fun q => by have := q.2; omega)).2⟩
      · exfalso; omega
    | succ tt ih =>
      intro k z K gr hkt hz e0 e1 e2 e3
      subst hz
      have hSK := ShR_cg (Eqv.rf I) e0 hS
      have hgr : gr = 0 ∨ gr = 1 := e3.imp (fun h => h.1) (fun h => h.1)
      refine Wp.iload rfl dX1_allCome_82 ?_
      refine Wp.sipush rfl dX1_allCome_84 ?_
      refine Wp.icmp_ge (tgt := 108) dX1_allCome_87 (by decide) (by first | omega | exact bI_R _ | exact cmp_R _ _ | assumption) (by first | omega | exact bI_R _ | exact cmp_R _ _ | assumption) (fun c87 => ?_) (fun c87 => ?_)
      · first | (exfalso; omega) | exact fin K _ _ e0 ⟨e2, (e3.resolve_right (fun q => absurd q.1 (by omega))).2⟩
      · refine Wp.iload rfl dX1_allCome_90 ?_
        refine Wp.if_eq (tgt := 108) dX1_allCome_92 (by decide) (by first | omega | exact bI_R _ | exact cmp_R _ _ | assumption) (fun c92 => ?_) (fun c92 => ?_)
        · first | (exfalso; omega) | exact fin K _ _ e0 ⟨e2, (e3.resolve_right (fun q => absurd q.1 (by omega))).2⟩
        · refine Wp.aload_n rfl dX1_allCome_95 ?_
          refine Wp.aload_n rfl dX1_allCome_96 ?_
          refine Wp.callV (As := [_]) (ls0 := [_, _, _, _, _, _, _, _, _]) (bd := (0, 0)) (bd' := (0, 0)) dX1_allCome_97 kmX1_widen lkX1_54 (by decide) (by decide) (Nat.le_of_ble_eq_true rfl) (by first | rfl | exact kd_b0 _ | exact kd_b1 _ | exact kd_b2 _ | exact kd_b3 _ | exact kd_b4 _ | exact kd_b5 _ | exact kd_b6 _) (by omega) rfl rfl (Nat.le_of_ble_eq_true rfl) rfl ?_
          refine ct_X1_widen hSK hs hg hb e1 e2 (fun K2 r eK2 e30 hI2 hr => ?_)
          have hlt : cntF (K 31) < cntF (K2 31) → (k : Int) + 1 + 1 ≤ cntF (K2 31) := fun h => by have := (e3.resolve_left (fun q => absurd q.1 c92)).2; omega
          show Wp _ _ _ (_ :: _) _ _ _
          refine Wp.istore (ls' := [_, _, _, _, _, _, _, _, _]) dX1_allCome_100 (by decide) rfl ?_
          refine Wp.iinc (ls' := [_, _, _, _, _, _, _, _, _]) rfl dX1_allCome_102 (by decide) rfl ?_
          refine Wp.goto (tgt := 82) dX1_allCome_105 (by decide) ?_
          exact ih (k + 1) _ K2 r (by omega) (by omega) (e0.tr eK2) (fun k hk => by rw [e30]; exact e1 k hk) hI2 (hr.imp id (fun h => ⟨h.1, by have := hlt h.2; omega⟩))
  have l2 : ∀ (tt k : Nat) (z : Int) (K : Nat → Int → BitVec 64), k + tt = 4 → z = k → EqvL L K → (∀ k : Nat, k < 8 → chP I s k (K 30 k)) → (∀ q : Nat, q < k → K 31 q = if (q : Int) = b then ALLW else 0#64) → Wp mX1_allCome 43 [some (vr (some 29)), some (vr (some 4)), some (vi (s : Int)), some (vi a), some (vi b), some (vl set), none, some (vi z), none] [] (I, K, R, n) (0, 0) Q := by
    intro tt
    induction tt with
    | zero =>
      intro k z K hkt hz e0 e1 e2
      obtain rfl : k = 4 := by omega
      refine Wp.iload rfl dX1_allCome_43 ?_
      refine Wp.iconst dX1_allCome_45 ?_
      refine Wp.icmp_ge (tgt := 76) dX1_allCome_46 (by decide) (by first | omega | exact bI_R _ | exact cmp_R _ _ | assumption) (by first | omega | exact bI_R _ | exact cmp_R _ _ | assumption) (fun c46 => ?_) (fun c46 => ?_)
      · refine Wp.iconst dX1_allCome_76 ?_
        refine Wp.istore (ls' := [_, _, _, _, _, _, _, _, _]) dX1_allCome_77 (by decide) rfl ?_
        refine Wp.iconst dX1_allCome_79 ?_
        refine Wp.istore (ls' := [_, _, _, _, _, _, _, _, _]) dX1_allCome_80 (by decide) rfl ?_
        exact lw 240 0 _ K _ (by omega) (by omega) e0 e1 (Ivl_0 hb e2) (Or.inr ⟨rfl, by have := cnt_1 hb (Ivl_0 (I := I) (s := s) hb e2); omega⟩)
      · exfalso; omega
    | succ tt ih =>
      intro k z K hkt hz e0 e1 e2
      subst hz
      refine Wp.iload rfl dX1_allCome_43 ?_
      refine Wp.iconst dX1_allCome_45 ?_
      refine Wp.icmp_ge (tgt := 76) dX1_allCome_46 (by decide) (by first | omega | exact bI_R _ | exact cmp_R _ _ | assumption) (by first | omega | exact bI_R _ | exact cmp_R _ _ | assumption) (fun c46 => ?_) (fun c46 => ?_)
      · exfalso; omega
      · refine Wp.aload_n rfl dX1_allCome_49 ?_
        refine Wp.gr (kz := 1) rfl dX1_allCome_50 fkX1_15 (by first | rfl | exact kd_b0 _ | exact kd_b1 _ | exact kd_b2 _ | exact kd_b3 _ | exact kd_b4 _ | exact kd_b5 _ | exact kd_b6 _) (by omega) (by first | exact hFx _ 1 _ rfl | assumption | exact hBk.1 | exact hBk.2.1 | exact hBk.2.2.1 | exact hBk.2.2.2.1 | exact hBk.2.2.2.2.1 | exact hBk.2.2.2.2.2) ?_
        refine Wp.iload rfl dX1_allCome_53 ?_
        refine Wp.iload rfl dX1_allCome_55 ?_
        refine Wp.iload rfl dX1_allCome_57 ?_
        refine Wp.icmp_ne (tgt := 68) dX1_allCome_59 (by decide) (by first | omega | exact bI_R _ | exact cmp_R _ _ | assumption) (by first | omega | exact bI_R _ | exact cmp_R _ _ | assumption) (fun c59 => ?_) (fun c59 => ?_)
        · refine Wp.lconst0 dX1_allCome_68 ?_
          refine Wp.lastore dX1_allCome_69 (by first | rfl | exact kd_b0 _ | exact kd_b1 _ | exact kd_b2 _ | exact kd_b3 _ | exact kd_b4 _ | exact kd_b5 _ | exact kd_b6 _) (by omega) (by omega) (by omega) ?_
          refine Wp.iinc (ls' := [_, _, _, _, _, _, _, _, _]) rfl dX1_allCome_70 (by decide) rfl ?_
          refine Wp.goto (tgt := 43) dX1_allCome_73 (by decide) ?_
          refine ih (k + 1) _ _ (by omega) (by omega) (e0.wr (by omega)) (fun j hj => by simp (disch := omega) only [up_same, up_o, up_k]; exact e1 j hj) (fun q hqk => ?_)
          by_cases hyk : q = k
          · subst hyk
            simp (disch := omega) only [up_same, up_o, up_k]
            first | rw [if_pos (by omega)] | rw [if_neg (by omega)]
          · simp (disch := omega) only [up_same, up_o, up_k]
            exact e2 q (by omega)
        · refine Wp.ldc2_w (b := 1152921504606846975#64) ckX1_52 rfl dX1_allCome_62 ?_
          refine Wp.goto (tgt := 69) dX1_allCome_65 (by decide) ?_
          refine Wp.lastore dX1_allCome_69 (by first | rfl | exact kd_b0 _ | exact kd_b1 _ | exact kd_b2 _ | exact kd_b3 _ | exact kd_b4 _ | exact kd_b5 _ | exact kd_b6 _) (by omega) (by omega) (by omega) ?_
          refine Wp.iinc (ls' := [_, _, _, _, _, _, _, _, _]) rfl dX1_allCome_70 (by decide) rfl ?_
          refine Wp.goto (tgt := 43) dX1_allCome_73 (by decide) ?_
          refine ih (k + 1) _ _ (by omega) (by omega) (e0.wr (by omega)) (fun j hj => by simp (disch := omega) only [up_same, up_o, up_k]; exact e1 j hj) (fun q hqk => ?_)
          by_cases hyk : q = k
          · subst hyk
            simp (disch := omega) only [up_same, up_o, up_k]
            first | rw [if_pos (by omega)] | rw [if_neg (by omega)]
          · simp (disch := omega) only [up_same, up_o, up_k]
            exact e2 q (by omega)
  have l1 : ∀ (tt k : Nat) (z : Int) (K : Nat → Int → BitVec 64), k + tt = 8 → z = k → EqvL L K → (∀ j : Nat, j < k → chP I s j (K 30 j)) → Wp mX1_allCome 12 [some (vr (some 29)), some (vr (some 4)), some (vi (s : Int)), some (vi a), some (vi b), some (vl set), none, some (vi z), none] [] (I, K, R, n) (0, 0) Q := by
    intro tt
    induction tt with
    | zero =>
      intro k z K hkt hz e0 e1
      obtain rfl : k = 8 := by omega
      refine Wp.iload rfl dX1_allCome_12 ?_
      refine Wp.bipush rfl dX1_allCome_14 ?_
      refine Wp.icmp_ge (tgt := 40) dX1_allCome_16 (by decide) (by first | omega | exact bI_R _ | exact cmp_R _ _ | assumption) (by first | omega | exact bI_R _ | exact cmp_R _ _ | assumption) (fun c16 => ?_) (fun c16 => ?_)
      · refine Wp.iconst dX1_allCome_40 ?_
        refine Wp.istore (ls' := [_, _, _, _, _, _, _, _, _]) dX1_allCome_41 (by decide) rfl ?_
        exact l2 4 0 _ K (by omega) (by omega) e0 e1 (fun q hq => by omega)
      · exfalso; omega
    | succ tt ih =>
      intro k z K hkt hz e0 e1
      subst hz
      have hSK := ShR_cg (Eqv.rf I) e0 hS
      refine Wp.iload rfl dX1_allCome_12 ?_
      refine Wp.bipush rfl dX1_allCome_14 ?_
      refine Wp.icmp_ge (tgt := 40) dX1_allCome_16 (by decide) (by first | omega | exact bI_R _ | exact cmp_R _ _ | assumption) (by first | omega | exact bI_R _ | exact cmp_R _ _ | assumption) (fun c16 => ?_) (fun c16 => ?_)
      · exfalso; omega
      · refine Wp.aload_n rfl dX1_allCome_19 ?_
        refine Wp.gr (kz := 0) rfl dX1_allCome_20 fkX1_9 (by first | rfl | exact kd_b0 _ | exact kd_b1 _ | exact kd_b2 _ | exact kd_b3 _ | exact kd_b4 _ | exact kd_b5 _ | exact kd_b6 _) (by omega) (by first | exact hFx _ 0 _ rfl | assumption | exact hBk.1 | exact hBk.2.1 | exact hBk.2.2.1 | exact hBk.2.2.2.1 | exact hBk.2.2.2.2.1 | exact hBk.2.2.2.2.2) ?_
        refine Wp.iload rfl dX1_allCome_23 ?_
        refine Wp.aload_n rfl dX1_allCome_25 ?_
        refine Wp.aload_n rfl dX1_allCome_26 ?_
        refine Wp.iload_n rfl dX1_allCome_27 ?_
        refine Wp.iload rfl dX1_allCome_28 ?_
        refine Wp.callV (As := [_, _, _]) (ls0 := [_, _, _, _, _, _, _, _, _, _]) (bd := (0, 0)) (bd' := (0, 0)) dX1_allCome_30 kmX1_countingHeads lkX1_48 (by decide) (by decide) (Nat.le_of_ble_eq_true rfl) (by first | rfl | exact kd_b0 _ | exact kd_b1 _ | exact kd_b2 _ | exact kd_b3 _ | exact kd_b4 _ | exact kd_b5 _ | exact kd_b6 _) (by omega) rfl rfl (Nat.le_of_ble_eq_true rfl) rfl ?_
        refine ct_X1_countingHeads hSK hs (by omega) (fun x hx => ?_)
        show Wp _ _ _ (_ :: _) _ _ _
        refine Wp.lastore dX1_allCome_33 (by first | rfl | exact kd_b0 _ | exact kd_b1 _ | exact kd_b2 _ | exact kd_b3 _ | exact kd_b4 _ | exact kd_b5 _ | exact kd_b6 _) (by omega) (by omega) (by omega) ?_
        refine Wp.iinc (ls' := [_, _, _, _, _, _, _, _, _]) rfl dX1_allCome_34 (by decide) rfl ?_
        refine Wp.goto (tgt := 12) dX1_allCome_37 (by decide) ?_
        refine ih (k + 1) _ _ (by omega) (by omega) (e0.wr (by omega)) (fun j hj => ?_)
        by_cases hyk : j = k
        · subst hyk
          simp (disch := omega) only [up_same, up_o, up_k]
          exact hx
        · simp (disch := omega) only [up_same, up_o, up_k]
          exact e1 j (by omega)
  refine Wp.iload_n rfl dX1_allCome_0 ?_
  refine Wp.callS (As := [_]) (ls0 := [_]) (bd := (0, 0)) (bd' := (0, 0)) dX1_allCome_1 kmX11_isTongue lkX1_44 (by decide) (by decide) (Nat.le_of_ble_eq_true rfl) rfl rfl (Nat.le_of_ble_eq_true rfl) rfl ?_
  refine ct_X11_isTongue (by omega) ?_
  show Wp _ _ _ (_ :: _) _ _ _
  refine Wp.if_neB (tgt := 9) dX1_allCome_4 (by decide) (fun c4 => ?_) (fun c4 => ?_)
  · refine Wp.iconst dX1_allCome_9 ?_
    refine Wp.istore (ls' := [_, _, _, _, _, _, _, _, _]) dX1_allCome_10 (by decide) rfl ?_
    exact l1 8 0 _ L (by omega) (by omega) (EqvL.rf L) (fun j hj => by omega)
  · refine Wp.iconst dX1_allCome_7 ?_
    refine Wp.zreturn dX1_allCome_8 rfl (by first | omega | exact bI_01 _) ?_
    first | (exfalso; omega) | (exfalso; omega)
theorem pc8 {s : Nat} (hs : s < 256) : pcN (BitVec.ofInt 64 (s : Int)) 60 ≤ 8 := by
  have key : ∀ s : Fin 256, pcN (BitVec.ofInt 64 (s.val : Int)) 60 ≤ 8 := by decide +kernel
  exact key ⟨s, hs⟩
theorem cfN_B (I : Nat → Int → Int) (a b : Int) (set : BitVec 64) : ∀ k : Nat, -1 ≤ cfN I a b set k ∧ cfN I a b set k < k
  | 0 => by simp [cfN]
  | k + 1 => by
    have ih := cfN_B I a b set k
    simp only [cfN]
    split <;> omega
theorem cf_t {a b : Int} {set : BitVec 64} (h : k &&& usN I b 8 = k ∧ (cfN I a b set k < 0 ∨ pcN (BitVec.ofInt 64 (k : Int)) 60 < pcN (BitVec.ofInt 64 (cfN I a b set k)) 60) ∧ covB I k a b set = true) : cfN I a b set (k + 1) = k := by simp only [cfN]; rw [if_pos h]
theorem cf_f {a b : Int} {set : BitVec 64} (h : ¬ (k &&& usN I b 8 = k ∧ (cfN I a b set k < 0 ∨ pcN (BitVec.ofInt 64 (k : Int)) 60 < pcN (BitVec.ofInt 64 (cfN I a b set k)) 60) ∧ covB I k a b set = true)) : cfN I a b set (k + 1) = cfN I a b set k := by simp only [cfN]; rw [if_neg h]
theorem ct_X1_least {a b : Int} {set : BitVec 64} (hS : ShR I L R n) (ha : tgP a) (hb : tgP b) (hset : ∀ i : Nat, 60 ≤ i → set.getLsbD i = false) (hq : ∀ K, EqvL L K → Q (some (vi (fwN I a b set (2 ^ (I 32 0).toNat)))) (I, K, R, n)) : Wp mX1_least 0 [some (vr (some 29)), some (vr (some 4)), some (vi a), some (vi b), some (vl set), none, none, none, none, none, none] [] (I, L, R, n) (0, 0) Q := by
  have hn := hS.1
  have hW := hS.2.2.1
  have hus : usN I b 8 < 256 := usN_lt b 8
  have lp : ∀ (tt k : Nat) (z : Int) (K : Nat → Int → BitVec 64) (f : Int) (l : Int) (x10 : Option AV), k + tt = 256 → z = k → EqvL L K → f = cfN I a b set k → (l = if cfN I a b set k < 0 then 9 else pcN (BitVec.ofInt 64 (cfN I a b set k)) 60) → Wp mX1_least 18 [some (vr (some 29)), some (vr (some 4)), some (vi a), some (vi b), some (vl set), none, some (vi ((usN I b 8 : Nat) : Int)), some (vi f), some (vi l), some (vi z), x10] [] (I, K, R, n) (0, 0) Q := by
    intro tt
    induction tt with
    | zero =>
      intro k z K f l x10 hkt hz e0 e1 e2
      obtain rfl : k = 256 := by omega
      refine Wp.iload rfl dX1_least_18 ?_
      refine Wp.sipush rfl dX1_least_20 ?_
      refine Wp.icmp_ge (tgt := 78) dX1_least_23 (by decide) (by first | omega | exact bI_R _ | exact cmp_R _ _ | assumption) (by first | omega | exact bI_R _ | exact cmp_R _ _ | assumption) (fun c23 => ?_) (fun c23 => ?_)
      · refine Wp.iload rfl dX1_least_78 ?_
        refine Wp.ireturn dX1_least_80 rfl ?_
        first | (exfalso; omega) | (exact qI (hq K e0) (e1.trans (fw_256 hW)))
      · exfalso; omega
    | succ tt ih =>
      intro k z K f l x10 hkt hz e0 e1 e2
      subst hz
      subst e1
      have hSK := ShR_cg (Eqv.rf I) e0 hS
      have hp0 := pcN_B (BitVec.ofInt 64 (k : Int)) 60
      have hp8 := pc8 (s := k) (by omega)
      have hfB := cfN_B I a b set k
      have hpf := pcN_B (BitVec.ofInt 64 (cfN I a b set k)) 60
      have hlB : 0 ≤ l ∧ l ≤ 60 := by rw [e2]; split <;> omega
      have hsub := sub_s (s := k) (u := usN I b 8) (by omega) hus
      have hxR : inR (andI (k : Int) (xorI ((usN I b 8 : Nat) : Int) (-1))) := w_rng _
      have hll : pcN (BitVec.ofInt 64 (k : Int)) 60 < l ↔ (cfN I a b set k < 0 ∨ pcN (BitVec.ofInt 64 (k : Int)) 60 < pcN (BitVec.ofInt 64 (cfN I a b set k)) 60) := by rw [e2]; split <;> omega
      refine Wp.iload rfl dX1_least_18 ?_
      refine Wp.sipush rfl dX1_least_20 ?_
      refine Wp.icmp_ge (tgt := 78) dX1_least_23 (by decide) (by first | omega | exact bI_R _ | exact cmp_R _ _ | assumption) (by first | omega | exact bI_R _ | exact cmp_R _ _ | assumption) (fun c23 => ?_) (fun c23 => ?_)
      · exfalso; omega
      · refine Wp.iload rfl dX1_least_26 ?_
        refine Wp.callS (As := [_]) (ls0 := [_]) (bd := (0, 0)) (bd' := (0, 0)) dX1_least_28 kmJ6_bitCount_0f7a4 lkX1_22 (by decide) (by decide) (Nat.le_of_ble_eq_true rfl) rfl rfl (Nat.le_of_ble_eq_true rfl) rfl ?_
        refine ct_J6 (by omega) (by omega) ?_
        show Wp _ _ _ (_ :: _) _ _ _
        refine Wp.istore (ls' := [_, _, _, _, _, _, _, _, _, _, _]) dX1_least_31 (by decide) rfl ?_
        refine Wp.iload rfl dX1_least_33 ?_
        refine Wp.iload rfl dX1_least_35 ?_
        refine Wp.iconst dX1_least_37 ?_
        refine Wp.ixor dX1_least_38 ?_
        refine Wp.iand dX1_least_39 ?_
        refine Wp.if_ne (tgt := 72) dX1_least_40 (by decide) (by first | omega | exact bI_R _ | exact cmp_R _ _ | assumption) (fun c40 => ?_) (fun c40 => ?_)
        · refine Wp.iinc (ls' := [_, _, _, _, _, _, _, _, _, _, _]) rfl dX1_least_72 (by decide) rfl ?_
          refine Wp.goto (tgt := 18) dX1_least_75 (by decide) ?_
          first | (have hc := cf_t (I := I) (a := a) (b := b) (set := set) ⟨hsub.mp c40, hll.mp (by omega), c61⟩; exact ih (k + 1) _ _ _ _ _ (by omega) (by omega) (e0.tr eK2) hc.symm (by rw [hc, if_neg (by omega)])) | (have hc := cf_f (I := I) (a := a) (b := b) (set := set) (k := k) (fun q => c61 q.2.2); exact ih (k + 1) _ _ _ _ _ (by omega) (by omega) (e0.tr eK2) hc.symm (by rw [hc]; exact e2)) | (have hc := cf_f (I := I) (a := a) (b := b) (set := set) (k := k) (fun q => c40 (hsub.mpr q.1)); exact ih (k + 1) _ _ _ _ _ (by omega) (by omega) e0 hc.symm (by rw [hc]; exact e2)) | (have hc := cf_f (I := I) (a := a) (b := b) (set := set) (k := k) (fun q => absurd (hll.mpr q.2.1) (by omega)); exact ih (k + 1) _ _ _ _ _ (by omega) (by omega) e0 hc.symm (by rw [hc]; exact e2))
        · refine Wp.iload rfl dX1_least_43 ?_
          refine Wp.iload rfl dX1_least_45 ?_
          refine Wp.icmp_ge (tgt := 72) dX1_least_47 (by decide) (by first | omega | exact bI_R _ | exact cmp_R _ _ | assumption) (by first | omega | exact bI_R _ | exact cmp_R _ _ | assumption) (fun c47 => ?_) (fun c47 => ?_)
          · refine Wp.iinc (ls' := [_, _, _, _, _, _, _, _, _, _, _]) rfl dX1_least_72 (by decide) rfl ?_
            refine Wp.goto (tgt := 18) dX1_least_75 (by decide) ?_
            first | (have hc := cf_t (I := I) (a := a) (b := b) (set := set) ⟨hsub.mp c40, hll.mp (by omega), c61⟩; exact ih (k + 1) _ _ _ _ _ (by omega) (by omega) (e0.tr eK2) hc.symm (by rw [hc, if_neg (by omega)])) | (have hc := cf_f (I := I) (a := a) (b := b) (set := set) (k := k) (fun q => c61 q.2.2); exact ih (k + 1) _ _ _ _ _ (by omega) (by omega) (e0.tr eK2) hc.symm (by rw [hc]; exact e2)) | (have hc := cf_f (I := I) (a := a) (b := b) (set := set) (k := k) (fun q => c40 (hsub.mpr q.1)); exact ih (k + 1) _ _ _ _ _ (by omega) (by omega) e0 hc.symm (by rw [hc]; exact e2)) | (have hc := cf_f (I := I) (a := a) (b := b) (set := set) (k := k) (fun q => absurd (hll.mpr q.2.1) (by omega)); exact ih (k + 1) _ _ _ _ _ (by omega) (by omega) e0 hc.symm (by rw [hc]; exact e2))
          · refine Wp.aload_n rfl dX1_least_50 ?_
            refine Wp.aload_n rfl dX1_least_51 ?_
            refine Wp.iload rfl dX1_least_52 ?_
            refine Wp.iload_n rfl dX1_least_54 ?_
            refine Wp.iload_n rfl dX1_least_55 ?_
            refine Wp.lload rfl dX1_least_56 ?_
            refine Wp.callV (As := [_, _, _, _, _]) (ls0 := [_, _, _, _, _, _, _, _, _]) (bd := (0, 0)) (bd' := (0, 0)) dX1_least_58 kmX1_allCome lkX1_28 (by decide) (by decide) (Nat.le_of_ble_eq_true rfl) (by first | rfl | exact kd_b0 _ | exact kd_b1 _ | exact kd_b2 _ | exact kd_b3 _ | exact kd_b4 _ | exact kd_b5 _ | exact kd_b6 _) (by omega) rfl rfl (Nat.le_of_ble_eq_true rfl) rfl ?_
            refine ct_X1_allCome hSK (by omega) (us_gd hW (by omega) (hsub.mp c40)) ha hb hset (fun K2 eK2 => ?_)
            show Wp _ _ _ (_ :: _) _ _ _
            refine Wp.if_eqB (tgt := 72) dX1_least_61 (by decide) (fun c61 => ?_) (fun c61 => ?_)
            · refine Wp.iinc (ls' := [_, _, _, _, _, _, _, _, _, _, _]) rfl dX1_least_72 (by decide) rfl ?_
              refine Wp.goto (tgt := 18) dX1_least_75 (by decide) ?_
              first | (have hc := cf_t (I := I) (a := a) (b := b) (set := set) ⟨hsub.mp c40, hll.mp (by omega), c61⟩; exact ih (k + 1) _ _ _ _ _ (by omega) (by omega) (e0.tr eK2) hc.symm (by rw [hc, if_neg (by omega)])) | (have hc := cf_f (I := I) (a := a) (b := b) (set := set) (k := k) (fun q => c61 q.2.2); exact ih (k + 1) _ _ _ _ _ (by omega) (by omega) (e0.tr eK2) hc.symm (by rw [hc]; exact e2)) | (have hc := cf_f (I := I) (a := a) (b := b) (set := set) (k := k) (fun q => c40 (hsub.mpr q.1)); exact ih (k + 1) _ _ _ _ _ (by omega) (by omega) e0 hc.symm (by rw [hc]; exact e2)) | (have hc := cf_f (I := I) (a := a) (b := b) (set := set) (k := k) (fun q => absurd (hll.mpr q.2.1) (by omega)); exact ih (k + 1) _ _ _ _ _ (by omega) (by omega) e0 hc.symm (by rw [hc]; exact e2))
            · refine Wp.iload rfl dX1_least_64 ?_
              refine Wp.istore (ls' := [_, _, _, _, _, _, _, _, _, _, _]) dX1_least_66 (by decide) rfl ?_
              refine Wp.iload rfl dX1_least_68 ?_
              refine Wp.istore (ls' := [_, _, _, _, _, _, _, _, _, _, _]) dX1_least_70 (by decide) rfl ?_
              refine Wp.iinc (ls' := [_, _, _, _, _, _, _, _, _, _, _]) rfl dX1_least_72 (by decide) rfl ?_
              refine Wp.goto (tgt := 18) dX1_least_75 (by decide) ?_
              first | (have hc := cf_t (I := I) (a := a) (b := b) (set := set) ⟨hsub.mp c40, hll.mp (by omega), c61⟩; exact ih (k + 1) _ _ _ _ _ (by omega) (by omega) (e0.tr eK2) hc.symm (by rw [hc, if_neg (by omega)])) | (have hc := cf_f (I := I) (a := a) (b := b) (set := set) (k := k) (fun q => c61 q.2.2); exact ih (k + 1) _ _ _ _ _ (by omega) (by omega) (e0.tr eK2) hc.symm (by rw [hc]; exact e2)) | (have hc := cf_f (I := I) (a := a) (b := b) (set := set) (k := k) (fun q => c40 (hsub.mpr q.1)); exact ih (k + 1) _ _ _ _ _ (by omega) (by omega) e0 hc.symm (by rw [hc]; exact e2)) | (have hc := cf_f (I := I) (a := a) (b := b) (set := set) (k := k) (fun q => absurd (hll.mpr q.2.1) (by omega)); exact ih (k + 1) _ _ _ _ _ (by omega) (by omega) e0 hc.symm (by rw [hc]; exact e2))
  refine Wp.aload_n rfl dX1_least_0 ?_
  refine Wp.aload_n rfl dX1_least_1 ?_
  refine Wp.iload_n rfl dX1_least_2 ?_
  refine Wp.callV (As := [_, _]) (ls0 := [_, _, _, _, _, _]) (bd := (0, 0)) (bd' := (0, 0)) dX1_least_3 kmX1_usefulBooks lkX1_18 (by decide) (by decide) (Nat.le_of_ble_eq_true rfl) (by first | rfl | exact kd_b0 _ | exact kd_b1 _ | exact kd_b2 _ | exact kd_b3 _ | exact kd_b4 _ | exact kd_b5 _ | exact kd_b6 _) (by omega) rfl rfl (Nat.le_of_ble_eq_true rfl) rfl ?_
  refine ct_X1_usefulBooks hS (by omega) ?_
  show Wp _ _ _ (_ :: _) _ _ _
  refine Wp.istore (ls' := [_, _, _, _, _, _, _, _, _, _, _]) dX1_least_6 (by decide) rfl ?_
  refine Wp.iconst dX1_least_8 ?_
  refine Wp.istore (ls' := [_, _, _, _, _, _, _, _, _, _, _]) dX1_least_9 (by decide) rfl ?_
  refine Wp.bipush rfl dX1_least_11 ?_
  refine Wp.istore (ls' := [_, _, _, _, _, _, _, _, _, _, _]) dX1_least_13 (by decide) rfl ?_
  refine Wp.iconst dX1_least_15 ?_
  refine Wp.istore (ls' := [_, _, _, _, _, _, _, _, _, _, _]) dX1_least_16 (by decide) rfl ?_
  exact lp 256 0 _ L _ _ _ (by omega) (by omega) (EqvL.rf L) rfl (by simp [cfN])
theorem set_ok {set : BitVec 64} : set &&& 17293822569102704640#64 = 0#64 ↔ (0 ≤ set.toInt ∧ set.toInt ≤ 1152921504606846975) := by
  have key : ∀ i : Fin 64, (17293822569102704640#64 : BitVec 64).getLsbD i.val = decide (60 ≤ i.val) := by decide +kernel
  have h2 := set.isLt
  have h3 := BitVec.toInt_eq_toNat_cond set
  have hlt : set &&& 17293822569102704640#64 = 0#64 ↔ set.toNat < 2 ^ 60 := by
    constructor
    · intro h
      apply Nat.lt_pow_two_of_testBit
      intro i hi
      rcases Nat.lt_or_ge i 64 with h4 | h4
      · have h5 := congrArg (fun y => y.getLsbD i) h
        simp only [BitVec.getLsbD_and, BitVec.getLsbD_zero] at h5
        rw [key ⟨i, h4⟩] at h5
        simp only [hi, decide_true, Bool.and_true] at h5
        exact h5
      · exact Nat.testBit_lt_two_pow (Nat.lt_of_lt_of_le h2 (Nat.pow_le_pow_right (by decide) h4))
    · intro h
      apply BitVec.eq_of_getLsbD_eq
      intro i hi
      rw [BitVec.getLsbD_and, key ⟨i, hi⟩, BitVec.getLsbD_zero]
      by_cases h60 : 60 ≤ i
      · have : set.getLsbD i = false := by rw [BitVec.getLsbD]; exact Nat.testBit_lt_two_pow (Nat.lt_of_lt_of_le h (Nat.pow_le_pow_right (by decide) h60))
        rw [this]; rfl
      · simp [h60]
  rw [hlt]
  split at h3 <;> omega
theorem ct_X11_fewest {a b : Int} {set : BitVec 64} (hS : ShR I L R n) (ha : inR a) (hb : inR b) (hq : ∀ K, EqvL L K → Q (some (vi (aFewest I a b set))) (I, K, R, n)) : Wp mX11_fewest 0 [some (vr (some 0)), some (vi a), some (vi b), some (vl set), none] [] (I, L, R, n) (0, 0) Q := by
  have hn := hS.1
  have hFx := hS.2.1
  unfold aFewest at hq
  refine Wp.iload_n rfl dX11_fewest_0 ?_
  refine Wp.callS (As := [_]) (ls0 := [_]) (bd := (0, 0)) (bd' := (0, 0)) dX11_fewest_1 kmX11_isTongue lkX11_94 (by decide) (by decide) (Nat.le_of_ble_eq_true rfl) rfl rfl (Nat.le_of_ble_eq_true rfl) rfl ?_
  refine ct_X11_isTongue (by omega) ?_
  show Wp _ _ _ (_ :: _) _ _ _
  refine Wp.if_eqB (tgt := 24) dX11_fewest_4 (by decide) (fun c4 => ?_) (fun c4 => ?_)
  · refine Wp.sipush rfl dX11_fewest_24 ?_
    refine Wp.ireturn dX11_fewest_27 rfl ?_
    first | (exfalso; omega) | (first | (rw [if_neg (fun q => c21 (set_ok.mpr q.2.2))] at hq; exact hq L (EqvL.rf L)) | (rw [if_neg (fun q => absurd q.1 (by omega))] at hq; exact hq L (EqvL.rf L)) | (rw [if_neg (fun q => absurd q.2.1 (by omega))] at hq; exact hq L (EqvL.rf L)))
  · refine Wp.iload_n rfl dX11_fewest_7 ?_
    refine Wp.callS (As := [_]) (ls0 := [_]) (bd := (0, 0)) (bd' := (0, 0)) dX11_fewest_8 kmX11_isTongue lkX11_94 (by decide) (by decide) (Nat.le_of_ble_eq_true rfl) rfl rfl (Nat.le_of_ble_eq_true rfl) rfl ?_
    refine ct_X11_isTongue (by omega) ?_
    show Wp _ _ _ (_ :: _) _ _ _
    refine Wp.if_eqB (tgt := 24) dX11_fewest_11 (by decide) (fun c11 => ?_) (fun c11 => ?_)
    · refine Wp.sipush rfl dX11_fewest_24 ?_
      refine Wp.ireturn dX11_fewest_27 rfl ?_
      first | (exfalso; omega) | (first | (rw [if_neg (fun q => c21 (set_ok.mpr q.2.2))] at hq; exact hq L (EqvL.rf L)) | (rw [if_neg (fun q => absurd q.1 (by omega))] at hq; exact hq L (EqvL.rf L)) | (rw [if_neg (fun q => absurd q.2.1 (by omega))] at hq; exact hq L (EqvL.rf L)))
    · refine Wp.lload_n rfl dX11_fewest_14 ?_
      refine Wp.ldc2_w (b := 17293822569102704640#64) ckX11_307 rfl dX11_fewest_15 ?_
      refine Wp.land dX11_fewest_18 ?_
      refine Wp.lconst0 dX11_fewest_19 ?_
      refine Wp.lcmp dX11_fewest_20 ?_
      refine Wp.if_eqC (tgt := 28) dX11_fewest_21 (by decide) (fun c21 => ?_) (fun c21 => ?_)
      · refine Wp.iload_n rfl dX11_fewest_28 ?_
        refine Wp.iload_n rfl dX11_fewest_29 ?_
        refine Wp.icmp_ne (tgt := 37) dX11_fewest_30 (by decide) (by first | omega | exact bI_R _ | exact cmp_R _ _ | assumption) (by first | omega | exact bI_R _ | exact cmp_R _ _ | assumption) (fun c30 => ?_) (fun c30 => ?_)
        · refine Wp.aload_n rfl dX11_fewest_37 ?_
          refine Wp.gr (kz := 9) rfl dX11_fewest_38 fkX11_75 (by first | rfl | exact kd_b0 _ | exact kd_b1 _ | exact kd_b2 _ | exact kd_b3 _ | exact kd_b4 _ | exact kd_b5 _ | exact kd_b6 _) (by omega) (by first | exact hFx _ 9 _ rfl | assumption | exact hBk.1 | exact hBk.2.1 | exact hBk.2.2.1 | exact hBk.2.2.2.1 | exact hBk.2.2.2.2.1 | exact hBk.2.2.2.2.2) ?_
          refine Wp.aload_n rfl dX11_fewest_41 ?_
          refine Wp.gr (kz := 2) rfl dX11_fewest_42 fkX11_26 (by first | rfl | exact kd_b0 _ | exact kd_b1 _ | exact kd_b2 _ | exact kd_b3 _ | exact kd_b4 _ | exact kd_b5 _ | exact kd_b6 _) (by omega) (by first | exact hFx _ 2 _ rfl | assumption | exact hBk.1 | exact hBk.2.1 | exact hBk.2.2.1 | exact hBk.2.2.2.1 | exact hBk.2.2.2.2.1 | exact hBk.2.2.2.2.2) ?_
          refine Wp.iload_n rfl dX11_fewest_45 ?_
          refine Wp.iload_n rfl dX11_fewest_46 ?_
          refine Wp.lload_n rfl dX11_fewest_47 ?_
          refine Wp.callV (As := [_, _, _, _]) (ls0 := [_, _, _, _, _, _, _, _, _, _, _]) (bd := (0, 0)) (bd' := (0, 0)) dX11_fewest_48 kmX1_least lkX11_309 (by decide) (by decide) (Nat.le_of_ble_eq_true rfl) (by first | rfl | exact kd_b0 _ | exact kd_b1 _ | exact kd_b2 _ | exact kd_b3 _ | exact kd_b4 _ | exact kd_b5 _ | exact kd_b6 _) (by omega) rfl rfl (Nat.le_of_ble_eq_true rfl) rfl ?_
          refine ct_X1_least hS (by omega) (by omega) (set60 (set_ok.mp c21).1 (set_ok.mp c21).2) (fun K eK => ?_)
          show Wp _ _ _ (_ :: _) _ _ _
          refine Wp.ireturn dX11_fewest_51 rfl ?_
          first | (exfalso; omega) | (rw [if_pos ⟨by omega, by omega, set_ok.mp c21⟩, if_neg (by omega)] at hq; exact hq K eK)
        · refine Wp.sipush rfl dX11_fewest_33 ?_
          refine Wp.ireturn dX11_fewest_36 rfl ?_
          first | (exfalso; omega) | (rw [if_pos ⟨by omega, by omega, set_ok.mp c21⟩, if_pos (by omega)] at hq; exact hq L (EqvL.rf L))
      · refine Wp.sipush rfl dX11_fewest_24 ?_
        refine Wp.ireturn dX11_fewest_27 rfl ?_
        first | (exfalso; omega) | (first | (rw [if_neg (fun q => c21 (set_ok.mpr q.2.2))] at hq; exact hq L (EqvL.rf L)) | (rw [if_neg (fun q => absurd q.1 (by omega))] at hq; exact hq L (EqvL.rf L)) | (rw [if_neg (fun q => absurd q.2.1 (by omega))] at hq; exact hq L (EqvL.rf L)))
end

