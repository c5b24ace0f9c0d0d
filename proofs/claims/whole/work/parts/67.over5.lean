/-! ===== the class: promise 25 ===== -/
section
variable {I J K : Nat → Int → Int} {L : Nat → Int → BitVec 64} {R : Nat → Int → Option Nat} {n k : Nat} {m : Mm} {Q : Option AV → Mm → Prop} {b : Int} {S : Nat}
/-- the choices of the first i words, and of c more of word i, are laid out -/
def ofS (I J : Nat → Int → Int) (b : Int) (S i N : Nat) : Prop := Eqv I J ∧ J 19 6 = S ∧ J 19 7 = b ∧ (∀ i' c : Nat, i' < i → c < 18 → slP I J i' (eW I b i') c) ∧ ∀ c : Nat, c < N → slP I J i (eW I b i) c
theorem bk_cg (h : Eqv I J) (a w b : Int) : bkA J (lat J 255 a w b) = bkA I (lat I 255 a w b) := by
  unfold bkA; rw [lat_cg h.se, h.se.2.1]
theorem ct_X3_solve (hS : ShR I L R n) (hU : PuR I) (hb : inR b) (hS0 : 0 < I 32 35) (hSI : (S : Int) = I 32 35) (hq : ∀ K, OvS I K b S → ltP I K b S 0 → (∀ j : Nat, j < S → choP I K b S j) → Q none (K, L, R, n)) : Wp mX3_solve 0 [some (vr (some 19)), some (vr (some 17)), some (vi b), some (vr (some 4)), some (vr (some 12)), none, none, none, none] [] (I, L, R, n) (0, 0) Q := by
  have hn := hS.1
  have hFx := hS.2.1
  have hW := hS.2.2.1
  have h10 := hU.2.2.2.2.2.2.1
  have hT := hU.2.1 hS0
  have hTR := hU.2.2.2.2.2.2.2.1
  have h172 := hU.1
  -- choosing
  have l3 : ∀ (tt k : Nat) (z : Int) (J : Nat → Int → Int) (x6 : Option AV) (x7 : Option AV) (x8 : Option AV), k + tt = S → z = k → OvS I J b S → ltP I J b S 0 → (∀ j : Nat, j < k → choP I J b S j) → Wp mX3_solve 123 [some (vr (some 19)), some (vr (some 17)), some (vi b), some (vr (some 4)), some (vr (some 12)), some (vi z), x6, x7, x8] [] (J, L, R, n) (0, 0) Q := by
    intro tt
    induction tt with
    | zero =>
      intro k z J x6 x7 x8 hkt hz e0 e1 e2
      obtain rfl : k = S := by omega
      have hsz := e0.2.1
      refine Wp.iload rfl dX3_solve_123 ?_
      refine Wp.aload_n rfl dX3_solve_125 ?_
      refine Wp.gi (kz := 6) rfl dX3_solve_126 fkX3_30 (by first | rfl | exact kd_b0 _ | exact kd_b1 _ | exact kd_b2 _ | exact kd_b3 _ | exact kd_b4 _ | exact kd_b5 _ | exact kd_b6 _) (by omega) ?_
      refine Wp.icmp_ge (tgt := 146) dX3_solve_129 (by decide) (by first | omega | exact bI_R _ | exact cmp_R _ _ | assumption) (by first | omega | exact bI_R _ | exact cmp_R _ _ | assumption) (fun c129 => ?_) (fun c129 => ?_)
      · refine Wp.vreturn dX3_solve_146 rfl ?_
        first | (exfalso; omega) | (exact hq J e0 e1 e2)
      · exfalso; omega
    | succ tt ih =>
      intro k z J x6 x7 x8 hkt hz e0 e1 e2
      subst hz
      have hsz := e0.2.1
      refine Wp.iload rfl dX3_solve_123 ?_
      refine Wp.aload_n rfl dX3_solve_125 ?_
      refine Wp.gi (kz := 6) rfl dX3_solve_126 fkX3_30 (by first | rfl | exact kd_b0 _ | exact kd_b1 _ | exact kd_b2 _ | exact kd_b3 _ | exact kd_b4 _ | exact kd_b5 _ | exact kd_b6 _) (by omega) ?_
      refine Wp.icmp_ge (tgt := 146) dX3_solve_129 (by decide) (by first | omega | exact bI_R _ | exact cmp_R _ _ | assumption) (by first | omega | exact bI_R _ | exact cmp_R _ _ | assumption) (fun c129 => ?_) (fun c129 => ?_)
      · exfalso; omega
      · refine Wp.aload_n rfl dX3_solve_132 ?_
        refine Wp.iload rfl dX3_solve_133 ?_
        refine Wp.aload rfl dX3_solve_135 ?_
        refine Wp.callV (As := [_, _]) (ls0 := [_, _, _, _, _, _, _]) (bd := (0, 0)) (bd' := (0, 0)) dX3_solve_137 kmX3_choose lkX3_73 (by decide) (by decide) (Nat.le_of_ble_eq_true rfl) (by first | rfl | exact kd_b0 _ | exact kd_b1 _ | exact kd_b2 _ | exact kd_b3 _ | exact kd_b4 _ | exact kd_b5 _ | exact kd_b6 _) (by omega) rfl rfl (Nat.le_of_ble_eq_true rfl) rfl ?_
        refine ct_X3_choose hn hFx hW hU hb e0 hSI (by omega) e1 e2 (fun K k0 k1 k2 => ?_)
        show Wp _ _ _ _ _ _ _
        refine Wp.iinc (ls' := [_, _, _, _, _, _, _, _, _]) rfl dX3_solve_140 (by decide) rfl ?_
        refine Wp.goto (tgt := 123) dX3_solve_143 (by decide) ?_
        exact ih (k + 1) _ K _ _ _ (by omega) (by omega) k0 k1 k2
  -- sums, from the end
  have l2 : ∀ (tt k : Nat) (z : Int) (J : Nat → Int → Int) (x6 : Option AV) (x7 : Option AV) (x8 : Option AV), k + tt = S → z = (S : Int) - 1 - k → OvS I J b S → ltP I J b S (S - k) → Wp mX3_solve 101 [some (vr (some 19)), some (vr (some 17)), some (vi b), some (vr (some 4)), some (vr (some 12)), some (vi z), x6, x7, x8] [] (J, L, R, n) (0, 0) Q := by
    intro tt
    induction tt with
    | zero =>
      intro k z J x6 x7 x8 hkt hz e0 e1
      obtain rfl : k = S := by omega
      refine Wp.iload rfl dX3_solve_101 ?_
      refine Wp.if_lt (tgt := 120) dX3_solve_103 (by decide) (by first | omega | exact bI_R _ | exact cmp_R _ _ | assumption) (fun c103 => ?_) (fun c103 => ?_)
      · refine Wp.iconst dX3_solve_120 ?_
        refine Wp.istore (ls' := [_, _, _, _, _, _, _, _, _]) dX3_solve_121 (by decide) rfl ?_
        exact l3 k 0 _ J _ _ _ (by omega) (by omega) e0 (by rw [Nat.sub_self] at e1; exact e1) (fun j hj => by omega)
      · exfalso; omega
    | succ tt ih =>
      intro k z J x6 x7 x8 hkt hz e0 e1
      subst hz
      have hzz : (S : Int) - 1 - k = ((S - (k + 1) : Nat) : Int) := by omega
      rw [hzz]
      refine Wp.iload rfl dX3_solve_101 ?_
      refine Wp.if_lt (tgt := 120) dX3_solve_103 (by decide) (by first | omega | exact bI_R _ | exact cmp_R _ _ | assumption) (fun c103 => ?_) (fun c103 => ?_)
      · exfalso; omega
      · refine Wp.aload_n rfl dX3_solve_106 ?_
        refine Wp.iload rfl dX3_solve_107 ?_
        refine Wp.aload rfl dX3_solve_109 ?_
        refine Wp.callV (As := [_, _]) (ls0 := [_, _, _, _, _, _]) (bd := (0, 0)) (bd' := (0, 0)) dX3_solve_111 kmX3_sumUp lkX3_69 (by decide) (by decide) (Nat.le_of_ble_eq_true rfl) (by first | rfl | exact kd_b0 _ | exact kd_b1 _ | exact kd_b2 _ | exact kd_b3 _ | exact kd_b4 _ | exact kd_b5 _ | exact kd_b6 _) (by omega) rfl rfl (Nat.le_of_ble_eq_true rfl) rfl ?_
        refine ct_X3_sumUp hn hFx hW hU hb e0 hSI (i := S - (k + 1)) (by omega) (by rw [show S - (k + 1) + 1 = S - k by omega]; exact e1) (fun K k0 k1 => ?_)
        show Wp _ _ _ _ _ _ _
        refine Wp.iinc (ls' := [_, _, _, _, _, _, _, _, _]) rfl dX3_solve_114 (by decide) rfl ?_
        refine Wp.goto (tgt := 101) dX3_solve_117 (by decide) ?_
        exact ih (k + 1) _ K _ _ _ (by omega) (by omega) k0 k1
  -- what may be chosen: of one word
  have li : ∀ (i : Nat) (hi : i < S) (hc' : ∀ (J : Nat → Int → Int), ofS I J b S (i + 1) 0 → Wp mX3_solve 87 [some (vr (some 19)), some (vr (some 17)), some (vi b), some (vr (some 4)), some (vr (some 12)), some (vi (i : Int)), some (vi (I 51 i)), some (vr (bkA I (lat I 255 (I 32 36) (I 51 i) b))), some (vi 18)] [] (J, L, R, n) (0, 0) Q) , ∀ (tt k : Nat) (z : Int) (J : Nat → Int → Int), k + tt = 18 → z = k → ofS I J b S i k → Wp mX3_solve 58 [some (vr (some 19)), some (vr (some 17)), some (vi b), some (vr (some 4)), some (vr (some 12)), some (vi (i : Int)), some (vi (I 51 i)), some (vr (bkA I (lat I 255 (I 32 36) (I 51 i) b))), some (vi z)] [] (J, L, R, n) (0, 0) Q := by
    intro i hi hc'
    intro tt
    induction tt with
    | zero =>
      intro k z J hkt hz e0
      obtain rfl : k = 18 := by omega
      refine Wp.iload rfl dX3_solve_58 ?_
      refine Wp.bipush rfl dX3_solve_60 ?_
      refine Wp.icmp_ge (tgt := 87) dX3_solve_62 (by decide) (by first | omega | exact bI_R _ | exact cmp_R _ _ | assumption) (by first | omega | exact bI_R _ | exact cmp_R _ _ | assumption) (fun c62 => ?_) (fun c62 => ?_)
      · subst hz
        refine hc' J ⟨e0.1, e0.2.1, e0.2.2.1, fun i' c h1 h2 => ?_, fun c hc => by omega⟩
        by_cases hii : i' = i
        · subst hii; exact e0.2.2.2.2 c h2
        · exact e0.2.2.2.1 i' c (by omega) h2
      · exfalso; omega
    | succ tt ih =>
      intro k z J hkt hz e0
      subst hz
      have hSJ := ShR_cg e0.1 (EqvL.rf L) hS
      have hwd := (hU.2.2.1 i (by omega)).2
      have hbk := bk_cg e0.1 (I 32 36) (I 51 i) b
      refine Wp.iload rfl dX3_solve_58 ?_
      refine Wp.bipush rfl dX3_solve_60 ?_
      refine Wp.icmp_ge (tgt := 87) dX3_solve_62 (by decide) (by first | omega | exact bI_R _ | exact cmp_R _ _ | assumption) (by first | omega | exact bI_R _ | exact cmp_R _ _ | assumption) (fun c62 => ?_) (fun c62 => ?_)
      · exfalso; omega
      · refine Wp.aload_n rfl dX3_solve_65 ?_
        refine Wp.iload rfl dX3_solve_66 ?_
        refine Wp.iload rfl dX3_solve_68 ?_
        refine Wp.aload rfl dX3_solve_70 ?_
        refine Wp.iload rfl dX3_solve_72 ?_
        refine Wp.aload_n rfl dX3_solve_74 ?_
        refine Wp.gi (kz := 4) rfl dX3_solve_75 fkX3_61 (by first | rfl | exact kd_b0 _ | exact kd_b1 _ | exact kd_b2 _ | exact kd_b3 _ | exact kd_b4 _ | exact kd_b5 _ | exact kd_b6 _) (by omega) ?_
        rw [← hbk]
        refine Wp.callV (As := [_, _, _, _, _]) (ls0 := [_, _, _, _, _, _, _, _, _]) (bd := (0, 0)) (bd' := (0, 0)) dX3_solve_78 kmX3_offer lkX3_65 (by decide) (by decide) (Nat.le_of_ble_eq_true rfl) (by first | rfl | exact kd_b0 _ | exact kd_b1 _ | exact kd_b2 _ | exact kd_b3 _ | exact kd_b4 _ | exact kd_b5 _ | exact kd_b6 _) (by omega) rfl rfl (Nat.le_of_ble_eq_true rfl) rfl ?_
        refine ct_X3_offer (I := I) (S := S) (a := I 32 36) (b := b) hSJ e0.1 e0.2.1 (by omega) hi (by omega) hwd.1 (by omega) (fun K hK hsl => ?_)
        rw [hbk]
        have hK2 : ofS I K b S i (k + 1) := by
          refine ⟨fun o z ho => ?_, ?_, ?_, fun i' c h1 h2 => ?_, fun c hc => ?_⟩
          · rw [hK o z (fun q => ho (by unfold scr; omega))]; exact e0.1 o z ho
          · rw [hK 19 6 (by omega)]; exact e0.2.1
          · rw [hK 19 7 (by omega)]; exact e0.2.2.1
          · have := e0.2.2.2.1 i' c h1 h2
            unfold slP at this ⊢
            rw [hK 20 _ (by omega), hK 21 _ (by omega)]; exact this
          · by_cases hck : c = k
            · subst hck; exact hsl
            · have := e0.2.2.2.2 c (by omega)
              unfold slP at this ⊢
              rw [hK 20 _ (by omega), hK 21 _ (by omega)]; exact this
        show Wp _ _ _ _ _ _ _
        refine Wp.iinc (ls' := [_, _, _, _, _, _, _, _, _]) rfl dX3_solve_81 (by decide) rfl ?_
        refine Wp.goto (tgt := 58) dX3_solve_84 (by decide) ?_
        exact ih (k + 1) _ K (by omega) (by omega) hK2
  have l1 : ∀ (tt k : Nat) (z : Int) (J : Nat → Int → Int) (x6 : Option AV) (x7 : Option AV) (x8 : Option AV), k + tt = S → z = k → ofS I J b S k 0 → Wp mX3_solve 21 [some (vr (some 19)), some (vr (some 17)), some (vi b), some (vr (some 4)), some (vr (some 12)), some (vi z), x6, x7, x8] [] (J, L, R, n) (0, 0) Q := by
    intro tt
    induction tt with
    | zero =>
      intro k z J x6 x7 x8 hkt hz e0
      obtain rfl : k = S := by omega
      have hsz := e0.2.1
      refine Wp.iload rfl dX3_solve_21 ?_
      refine Wp.aload_n rfl dX3_solve_23 ?_
      refine Wp.gi (kz := 6) rfl dX3_solve_24 fkX3_30 (by first | rfl | exact kd_b0 _ | exact kd_b1 _ | exact kd_b2 _ | exact kd_b3 _ | exact kd_b4 _ | exact kd_b5 _ | exact kd_b6 _) (by omega) ?_
      refine Wp.icmp_ge (tgt := 93) dX3_solve_27 (by decide) (by first | omega | exact bI_R _ | exact cmp_R _ _ | assumption) (by first | omega | exact bI_R _ | exact cmp_R _ _ | assumption) (fun c27 => ?_) (fun c27 => ?_)
      · refine Wp.aload_n rfl dX3_solve_93 ?_
        refine Wp.gi (kz := 6) rfl dX3_solve_94 fkX3_30 (by first | rfl | exact kd_b0 _ | exact kd_b1 _ | exact kd_b2 _ | exact kd_b3 _ | exact kd_b4 _ | exact kd_b5 _ | exact kd_b6 _) (by omega) ?_
        refine Wp.iconst dX3_solve_97 ?_
        refine Wp.isub dX3_solve_98 ?_
        refine Wp.istore (ls' := [_, _, _, _, _, _, _, _, _]) dX3_solve_99 (by decide) rfl ?_
        exact l2 k 0 _ J _ _ _ (by omega) (by omega) ⟨e0.1, e0.2.1, e0.2.2.1, e0.2.2.2.1⟩ (fun i' h1 h2 => by omega)
      · exfalso; omega
    | succ tt ih =>
      intro k z J x6 x7 x8 hkt hz e0
      subst hz
      have hsz := e0.2.1
      have hSJ := ShR_cg e0.1 (EqvL.rf L) hS
      have hwd := (hU.2.2.1 k (by omega)).2
      have hw8 := (hU.2.2.1 k (by omega)).1
      have j172 : J 17 2 = I 17 2 := e0.1 17 2 (by unfold scr; omega)
      have j171 : J 17 1 = I 17 1 := e0.1 17 1 (by unfold scr; omega)
      have j18 : J 18 k = I 18 k := e0.1 18 k (by unfold scr; omega)
      have hLB := lat_B J hSJ.2.2.1.1 255 (I 32 36) (I 51 k) b
      have hN1 := hSJ.2.2.1.2.1
      have h87 : ∀ (J : Nat → Int → Int), ofS I J b S (k + 1) 0 → Wp mX3_solve 87 [some (vr (some 19)), some (vr (some 17)), some (vi b), some (vr (some 4)), some (vr (some 12)), some (vi (k : Int)), some (vi (I 51 k)), some (vr (bkA I (lat I 255 (I 32 36) (I 51 k) b))), some (vi 18)] [] (J, L, R, n) (0, 0) Q := by
        intro J hJ
        refine Wp.iinc (ls' := [_, _, _, _, _, _, _, _, _]) rfl dX3_solve_87 (by decide) rfl ?_
        refine Wp.goto (tgt := 21) dX3_solve_90 (by decide) ?_
        exact ih (k + 1) _ J _ _ _ (by omega) (by omega) hJ
      refine Wp.iload rfl dX3_solve_21 ?_
      refine Wp.aload_n rfl dX3_solve_23 ?_
      refine Wp.gi (kz := 6) rfl dX3_solve_24 fkX3_30 (by first | rfl | exact kd_b0 _ | exact kd_b1 _ | exact kd_b2 _ | exact kd_b3 _ | exact kd_b4 _ | exact kd_b5 _ | exact kd_b6 _) (by omega) ?_
      refine Wp.icmp_ge (tgt := 93) dX3_solve_27 (by decide) (by first | omega | exact bI_R _ | exact cmp_R _ _ | assumption) (by first | omega | exact bI_R _ | exact cmp_R _ _ | assumption) (fun c27 => ?_) (fun c27 => ?_)
      · exfalso; omega
      · refine Wp.aload_n rfl dX3_solve_30 ?_
        refine Wp.iload rfl dX3_solve_31 ?_
        refine Wp.callV (As := [_]) (ls0 := [_, _]) (bd := (0, 0)) (bd' := (0, 0)) dX3_solve_33 kmX7_wordAt lkX3_46 (by decide) (by decide) (Nat.le_of_ble_eq_true rfl) (by first | rfl | exact kd_b0 _ | exact kd_b1 _ | exact kd_b2 _ | exact kd_b3 _ | exact kd_b4 _ | exact kd_b5 _ | exact kd_b6 _) (by omega) rfl rfl (Nat.le_of_ble_eq_true rfl) rfl ?_
        refine ct_X7_wordAt hn hFx (by omega) (by omega) (by omega) ?_
        rw [if_pos (by omega), j18, hw8]
        show Wp _ _ _ (_ :: _) _ _ _
        refine Wp.istore (ls' := [_, _, _, _, _, _, _, _, _]) dX3_solve_36 (by decide) rfl ?_
        refine Wp.aload_n rfl dX3_solve_38 ?_
        refine Wp.aload_n rfl dX3_solve_39 ?_
        refine Wp.aload_n rfl dX3_solve_40 ?_
        refine Wp.gi (kz := 1) rfl dX3_solve_41 fkX3_50 (by first | rfl | exact kd_b0 _ | exact kd_b1 _ | exact kd_b2 _ | exact kd_b3 _ | exact kd_b4 _ | exact kd_b5 _ | exact kd_b6 _) (by omega) ?_
        refine Wp.iload rfl dX3_solve_44 ?_
        refine Wp.iload_n rfl dX3_solve_46 ?_
        rw [j171, hT]
        refine Wp.callV (As := [_, _, _]) (ls0 := [_, _, _, _, _, _, _]) (bd := (0, 0)) (bd' := (0, 0)) dX3_solve_47 kmX8_latest lkX3_51 (by decide) (by decide) (Nat.le_of_ble_eq_true rfl) (by first | rfl | exact kd_b0 _ | exact kd_b1 _ | exact kd_b2 _ | exact kd_b3 _ | exact kd_b4 _ | exact kd_b5 _ | exact kd_b6 _) (by omega) rfl rfl (Nat.le_of_ble_eq_true rfl) rfl ?_
        refine ct_X8_latest hSJ (by omega) (by omega) (by omega) (by omega) ?_
        show Wp _ _ _ (_ :: _) _ _ _
        refine Wp.callV (As := [_]) (ls0 := [_, _]) (bd := (0, 0)) (bd' := (0, 0)) dX3_solve_50 kmX8_bookAt lkX3_57 (by decide) (by decide) (Nat.le_of_ble_eq_true rfl) (by first | rfl | exact kd_b0 _ | exact kd_b1 _ | exact kd_b2 _ | exact kd_b3 _ | exact kd_b4 _ | exact kd_b5 _ | exact kd_b6 _) (by omega) rfl rfl (Nat.le_of_ble_eq_true rfl) rfl ?_
        refine ct_X8_bookAt hSJ (by omega) ?_
        rw [bk_cg e0.1]
        show Wp _ _ _ (_ :: _) _ _ _
        refine Wp.astore (ls' := [_, _, _, _, _, _, _, _, _]) dX3_solve_53 (by decide) rfl ?_
        refine Wp.iconst dX3_solve_55 ?_
        refine Wp.istore (ls' := [_, _, _, _, _, _, _, _, _]) dX3_solve_56 (by decide) rfl ?_
        exact li k (by omega) h87 18 0 _ J (by omega) (by omega) e0
  refine Wp.aload_n rfl dX3_solve_0 ?_
  refine Wp.aload_n rfl dX3_solve_1 ?_
  refine Wp.gi (kz := 2) rfl dX3_solve_2 fkX3_37 (by first | rfl | exact kd_b0 _ | exact kd_b1 _ | exact kd_b2 _ | exact kd_b3 _ | exact kd_b4 _ | exact kd_b5 _ | exact kd_b6 _) (by omega) ?_
  refine Wp.bipush rfl dX3_solve_5 ?_
  refine Wp.mM false dX3_solve_7 lkX3_40 ka_math (by decide) (Nat.le_of_ble_eq_true rfl) (by omega) (by omega) ?_
  rw [show (if false = true then max (I 17 2) 10 else min (I 17 2) 10) = (S : Int) from (by show min (I 17 2) 10 = (S : Int); omega)]
  refine Wp.pi (kz := 6) rfl dX3_solve_10 fkX3_30 (Or.inl rfl) (Or.inl rfl) (by first | rfl | exact kd_b0 _ | exact kd_b1 _ | exact kd_b2 _ | exact kd_b3 _ | exact kd_b4 _ | exact kd_b5 _ | exact kd_b6 _) (by omega) ?_
  refine Wp.aload_n rfl dX3_solve_13 ?_
  refine Wp.iload_n rfl dX3_solve_14 ?_
  refine Wp.pi (kz := 7) rfl dX3_solve_15 fkX3_34 (Or.inl rfl) (Or.inl rfl) (by first | rfl | exact kd_b0 _ | exact kd_b1 _ | exact kd_b2 _ | exact kd_b3 _ | exact kd_b4 _ | exact kd_b5 _ | exact kd_b6 _) (by omega) ?_
  refine Wp.iconst dX3_solve_18 ?_
  refine Wp.istore (ls' := [_, _, _, _, _, _, _, _, _]) dX3_solve_19 (by decide) rfl ?_
  refine l1 S 0 _ _ _ _ _ (by omega) (by omega) ⟨?_, ?_, ?_, fun i' c h1 => by omega, fun c hc => by omega⟩
  · exact ((Eqv.rf I).wr (by unfold scr; omega)).wr (by unfold scr; omega)
  · simp (disch := omega) only [up_same, up_o, up_k]
  · simp (disch := omega) only [up_same, up_o, up_k]
/-- the word chosen -/
theorem pw {i : Int} (hn : 57 ≤ n) (hFx : Fx R) (hW : RW I) (hU : PuR I) (hO : OvS I J b S) (hSI : (S : Int) = I 32 35) (hS0 : 0 < S) (hch : ∀ j : Nat, j < S → choP I J b S j) (hi : inR i) (hq : Q (some (vi (if 0 ≤ i ∧ i < I 32 35 then (match cz I b (chL I 255 b) S i.toNat with | none => -1 | some q => I 39 q) else -1))) (J, L, R, n)) : Wp mX3_chosenWord 0 [some (vr (some 19)), some (vi i)] [] (J, L, R, n) (0, 0) Q := by
  have h10 := hU.2.2.2.2.2.2.1
  have hsz := hO.2.1
  by_cases hin : 0 ≤ i ∧ i < I 32 35
  · rw [if_pos hin] at hq
    have hc := hch i.toNat (by omega)
    unfold choP at hc
    have ei : ((i.toNat : Nat) : Int) = i := by omega
    rw [ei] at hc
    rcases hc with ⟨hz, h24⟩ | ⟨c, hc, hv, hz, h24⟩
    · rw [hz] at hq
      refine Wp.aload_n rfl dX3_chosenWord_0 ?_
      refine Wp.aload_n rfl dX3_chosenWord_1 ?_
      refine Wp.iload_n rfl dX3_chosenWord_2 ?_
      refine Wp.aload_n rfl dX3_chosenWord_3 ?_
      refine Wp.iload_n rfl dX3_chosenWord_4 ?_
      refine Wp.callV (As := [_]) (ls0 := [_, _]) (bd := (0, 0)) (bd' := (0, 0)) dX3_chosenWord_5 kmX3_choiceOf lkX3_124 (by decide) (by decide) (Nat.le_of_ble_eq_true rfl) (by first | rfl | exact kd_b0 _ | exact kd_b1 _ | exact kd_b2 _ | exact kd_b3 _ | exact kd_b4 _ | exact kd_b5 _ | exact kd_b6 _) (by omega) rfl rfl (Nat.le_of_ble_eq_true rfl) rfl ?_
      refine ct_X3_choiceOf hn hFx (by omega) (by omega) (by omega) ?_
      rw [if_pos (by omega), h24]
      show Wp _ _ _ (_ :: _) _ _ _
      refine Wp.callV (As := [_, _]) (ls0 := [_, _, _]) (bd := (0, 0)) (bd' := (0, 0)) dX3_chosenWord_8 kmX3_slot lkX3_76 (by decide) (by decide) (Nat.le_of_ble_eq_true rfl) (by first | rfl | exact kd_b0 _ | exact kd_b1 _ | exact kd_b2 _ | exact kd_b3 _ | exact kd_b4 _ | exact kd_b5 _ | exact kd_b6 _) (by omega) rfl rfl (Nat.le_of_ble_eq_true rfl) rfl ?_
      refine ct_X3_slot hn (by omega) (by omega) (by omega) (by omega) ?_
      rw [if_neg (by omega)]
      show Wp _ _ _ (_ :: _) _ _ _
      refine Wp.callV (As := [_]) (ls0 := [_, _]) (bd := (0, 0)) (bd' := (0, 0)) dX3_chosenWord_11 kmX3_wordIn lkX3_94 (by decide) (by decide) (Nat.le_of_ble_eq_true rfl) (by first | rfl | exact kd_b0 _ | exact kd_b1 _ | exact kd_b2 _ | exact kd_b3 _ | exact kd_b4 _ | exact kd_b5 _ | exact kd_b6 _) (by omega) rfl rfl (Nat.le_of_ble_eq_true rfl) rfl ?_
      refine ct_X3_wordIn hn hFx (by omega) ?_
      rw [if_neg (by omega)]
      show Wp _ _ _ (_ :: _) _ _ _
      refine Wp.ireturn dX3_chosenWord_14 rfl ?_
      first | (exfalso; omega) | (exact hq)
    · rw [hz] at hq
      have h1 := (hO.2.2.2 i.toNat c (by omega) hc).1 hv
      rw [ei] at h1
      refine Wp.aload_n rfl dX3_chosenWord_0 ?_
      refine Wp.aload_n rfl dX3_chosenWord_1 ?_
      refine Wp.iload_n rfl dX3_chosenWord_2 ?_
      refine Wp.aload_n rfl dX3_chosenWord_3 ?_
      refine Wp.iload_n rfl dX3_chosenWord_4 ?_
      refine Wp.callV (As := [_]) (ls0 := [_, _]) (bd := (0, 0)) (bd' := (0, 0)) dX3_chosenWord_5 kmX3_choiceOf lkX3_124 (by decide) (by decide) (Nat.le_of_ble_eq_true rfl) (by first | rfl | exact kd_b0 _ | exact kd_b1 _ | exact kd_b2 _ | exact kd_b3 _ | exact kd_b4 _ | exact kd_b5 _ | exact kd_b6 _) (by omega) rfl rfl (Nat.le_of_ble_eq_true rfl) rfl ?_
      refine ct_X3_choiceOf hn hFx (by omega) (by omega) (by omega) ?_
      rw [if_pos (by omega), h24]
      show Wp _ _ _ (_ :: _) _ _ _
      refine Wp.callV (As := [_, _]) (ls0 := [_, _, _]) (bd := (0, 0)) (bd' := (0, 0)) dX3_chosenWord_8 kmX3_slot lkX3_76 (by decide) (by decide) (Nat.le_of_ble_eq_true rfl) (by first | rfl | exact kd_b0 _ | exact kd_b1 _ | exact kd_b2 _ | exact kd_b3 _ | exact kd_b4 _ | exact kd_b5 _ | exact kd_b6 _) (by omega) rfl rfl (Nat.le_of_ble_eq_true rfl) rfl ?_
      refine ct_X3_slot hn (by omega) (by omega) (by omega) (by omega) ?_
      rw [if_pos ⟨⟨by omega, by omega⟩, by omega, by omega⟩, show i * 18 + (c : Int) = 18 * i + c by omega]
      show Wp _ _ _ (_ :: _) _ _ _
      refine Wp.callV (As := [_]) (ls0 := [_, _]) (bd := (0, 0)) (bd' := (0, 0)) dX3_chosenWord_11 kmX3_wordIn lkX3_94 (by decide) (by decide) (Nat.le_of_ble_eq_true rfl) (by first | rfl | exact kd_b0 _ | exact kd_b1 _ | exact kd_b2 _ | exact kd_b3 _ | exact kd_b4 _ | exact kd_b5 _ | exact kd_b6 _) (by omega) rfl rfl (Nat.le_of_ble_eq_true rfl) rfl ?_
      refine ct_X3_wordIn hn hFx (by omega) ?_
      rw [if_pos (by omega)]
      show Wp _ _ _ (_ :: _) _ _ _
      refine Wp.ireturn dX3_chosenWord_14 rfl ?_
      first | (exfalso; omega) | (exact qI hq h1.1)
  · rw [if_neg hin] at hq
    refine Wp.aload_n rfl dX3_chosenWord_0 ?_
    refine Wp.aload_n rfl dX3_chosenWord_1 ?_
    refine Wp.iload_n rfl dX3_chosenWord_2 ?_
    refine Wp.aload_n rfl dX3_chosenWord_3 ?_
    refine Wp.iload_n rfl dX3_chosenWord_4 ?_
    refine Wp.callV (As := [_]) (ls0 := [_, _]) (bd := (0, 0)) (bd' := (0, 0)) dX3_chosenWord_5 kmX3_choiceOf lkX3_124 (by decide) (by decide) (Nat.le_of_ble_eq_true rfl) (by first | rfl | exact kd_b0 _ | exact kd_b1 _ | exact kd_b2 _ | exact kd_b3 _ | exact kd_b4 _ | exact kd_b5 _ | exact kd_b6 _) (by omega) rfl rfl (Nat.le_of_ble_eq_true rfl) rfl ?_
    refine ct_X3_choiceOf hn hFx (by omega) (by omega) (by omega) ?_
    rw [if_neg (by omega)]
    show Wp _ _ _ (_ :: _) _ _ _
    refine Wp.callV (As := [_, _]) (ls0 := [_, _, _]) (bd := (0, 0)) (bd' := (0, 0)) dX3_chosenWord_8 kmX3_slot lkX3_76 (by decide) (by decide) (Nat.le_of_ble_eq_true rfl) (by first | rfl | exact kd_b0 _ | exact kd_b1 _ | exact kd_b2 _ | exact kd_b3 _ | exact kd_b4 _ | exact kd_b5 _ | exact kd_b6 _) (by omega) rfl rfl (Nat.le_of_ble_eq_true rfl) rfl ?_
    refine ct_X3_slot hn (by omega) (by omega) (by omega) (by omega) ?_
    rw [if_neg (by omega)]
    show Wp _ _ _ (_ :: _) _ _ _
    refine Wp.callV (As := [_]) (ls0 := [_, _]) (bd := (0, 0)) (bd' := (0, 0)) dX3_chosenWord_11 kmX3_wordIn lkX3_94 (by decide) (by decide) (Nat.le_of_ble_eq_true rfl) (by first | rfl | exact kd_b0 _ | exact kd_b1 _ | exact kd_b2 _ | exact kd_b3 _ | exact kd_b4 _ | exact kd_b5 _ | exact kd_b6 _) (by omega) rfl rfl (Nat.le_of_ble_eq_true rfl) rfl ?_
    refine ct_X3_wordIn hn hFx (by omega) ?_
    rw [if_neg (by omega)]
    show Wp _ _ _ (_ :: _) _ _ _
    refine Wp.ireturn dX3_chosenWord_14 rfl ?_
    first | (exfalso; omega) | (exact hq)
/-- its sense -/
theorem psn {i : Int} (hn : 57 ≤ n) (hFx : Fx R) (hW : RW I) (hU : PuR I) (hO : OvS I J b S) (hSI : (S : Int) = I 32 35) (hS0 : 0 < S) (hch : ∀ j : Nat, j < S → choP I J b S j) (hi : inR i) (hq : Q (some (vi (if 0 ≤ i ∧ i < I 32 35 then (match cz I b (chL I 255 b) S i.toNat with | none => -1 | some q => (q.tdiv 6) - (q.tdiv 6).tdiv 3 * 3) else -1))) (J, L, R, n)) : Wp mX3_chosenSense 0 [some (vr (some 19)), some (vi i), none] [] (J, L, R, n) (0, 0) Q := by
  have h10 := hU.2.2.2.2.2.2.1
  have hsz := hO.2.1
  by_cases hin : 0 ≤ i ∧ i < I 32 35
  · rw [if_pos hin] at hq
    have hc := hch i.toNat (by omega)
    unfold choP at hc
    have ei : ((i.toNat : Nat) : Int) = i := by omega
    rw [ei] at hc
    rcases hc with ⟨hz, h24⟩ | ⟨c, hc, hv, hz, h24⟩
    · rw [hz] at hq
      refine Wp.aload_n rfl dX3_chosenSense_0 ?_
      refine Wp.iload_n rfl dX3_chosenSense_1 ?_
      refine Wp.callV (As := [_]) (ls0 := [_, _]) (bd := (0, 0)) (bd' := (0, 0)) dX3_chosenSense_2 kmX3_choiceOf lkX3_124 (by decide) (by decide) (Nat.le_of_ble_eq_true rfl) (by first | rfl | exact kd_b0 _ | exact kd_b1 _ | exact kd_b2 _ | exact kd_b3 _ | exact kd_b4 _ | exact kd_b5 _ | exact kd_b6 _) (by omega) rfl rfl (Nat.le_of_ble_eq_true rfl) rfl ?_
      refine ct_X3_choiceOf hn hFx (by omega) (by omega) (by omega) ?_
      rw [if_pos (by omega), h24]
      show Wp _ _ _ (_ :: _) _ _ _
      refine Wp.istore_n (ls' := [_, _, _]) dX3_chosenSense_5 (by decide) rfl ?_
      refine Wp.iload_n rfl dX3_chosenSense_6 ?_
      refine Wp.iconst dX3_chosenSense_7 ?_
      refine Wp.icmp_ne (tgt := 15) dX3_chosenSense_8 (by decide) (by first | omega | exact bI_R _ | exact cmp_R _ _ | assumption) (by first | omega | exact bI_R _ | exact cmp_R _ _ | assumption) (fun c8 => ?_) (fun c8 => ?_)
      · exfalso; omega
      · refine Wp.iconst dX3_chosenSense_11 ?_
        refine Wp.goto (tgt := 19) dX3_chosenSense_12 (by decide) ?_
        refine Wp.ireturn dX3_chosenSense_19 rfl ?_
        first | (exfalso; omega) | (exact hq)
    · rw [hz] at hq
      have hb1 := vl_B (eW_ok hW hU (by omega)) hv
      have h3 : (18 * eW I b i.toNat + (c : Int)).tdiv 6 - ((18 * eW I b i.toNat + (c : Int)).tdiv 6).tdiv 3 * 3 = ((c / 6 : Nat) : Int) := by
        rw [hb1.2.2.2.2.1, Int.tdiv_eq_ediv_of_nonneg (by omega)]; omega
      have hcd : ((c : Int)).tdiv 6 = ((c / 6 : Nat) : Int) := rfl
      refine Wp.aload_n rfl dX3_chosenSense_0 ?_
      refine Wp.iload_n rfl dX3_chosenSense_1 ?_
      refine Wp.callV (As := [_]) (ls0 := [_, _]) (bd := (0, 0)) (bd' := (0, 0)) dX3_chosenSense_2 kmX3_choiceOf lkX3_124 (by decide) (by decide) (Nat.le_of_ble_eq_true rfl) (by first | rfl | exact kd_b0 _ | exact kd_b1 _ | exact kd_b2 _ | exact kd_b3 _ | exact kd_b4 _ | exact kd_b5 _ | exact kd_b6 _) (by omega) rfl rfl (Nat.le_of_ble_eq_true rfl) rfl ?_
      refine ct_X3_choiceOf hn hFx (by omega) (by omega) (by omega) ?_
      rw [if_pos (by omega), h24]
      show Wp _ _ _ (_ :: _) _ _ _
      refine Wp.istore_n (ls' := [_, _, _]) dX3_chosenSense_5 (by decide) rfl ?_
      refine Wp.iload_n rfl dX3_chosenSense_6 ?_
      refine Wp.iconst dX3_chosenSense_7 ?_
      refine Wp.icmp_ne (tgt := 15) dX3_chosenSense_8 (by decide) (by first | omega | exact bI_R _ | exact cmp_R _ _ | assumption) (by first | omega | exact bI_R _ | exact cmp_R _ _ | assumption) (fun c8 => ?_) (fun c8 => ?_)
      · refine Wp.iload_n rfl dX3_chosenSense_15 ?_
        refine Wp.bipush rfl dX3_chosenSense_16 ?_
        refine Wp.idiv (by omega) (by omega) (by omega) dX3_chosenSense_18 ?_
        refine Wp.ireturn dX3_chosenSense_19 rfl ?_
        first | (exfalso; omega) | (exact qI hq (hcd.trans h3.symm))
      · exfalso; omega
  · rw [if_neg hin] at hq
    refine Wp.aload_n rfl dX3_chosenSense_0 ?_
    refine Wp.iload_n rfl dX3_chosenSense_1 ?_
    refine Wp.callV (As := [_]) (ls0 := [_, _]) (bd := (0, 0)) (bd' := (0, 0)) dX3_chosenSense_2 kmX3_choiceOf lkX3_124 (by decide) (by decide) (Nat.le_of_ble_eq_true rfl) (by first | rfl | exact kd_b0 _ | exact kd_b1 _ | exact kd_b2 _ | exact kd_b3 _ | exact kd_b4 _ | exact kd_b5 _ | exact kd_b6 _) (by omega) rfl rfl (Nat.le_of_ble_eq_true rfl) rfl ?_
    refine ct_X3_choiceOf hn hFx (by omega) (by omega) (by omega) ?_
    rw [if_neg (by omega)]
    show Wp _ _ _ (_ :: _) _ _ _
    refine Wp.istore_n (ls' := [_, _, _]) dX3_chosenSense_5 (by decide) rfl ?_
    refine Wp.iload_n rfl dX3_chosenSense_6 ?_
    refine Wp.iconst dX3_chosenSense_7 ?_
    refine Wp.icmp_ne (tgt := 15) dX3_chosenSense_8 (by decide) (by first | omega | exact bI_R _ | exact cmp_R _ _ | assumption) (by first | omega | exact bI_R _ | exact cmp_R _ _ | assumption) (fun c8 => ?_) (fun c8 => ?_)
    · exfalso; omega
    · refine Wp.iconst dX3_chosenSense_11 ?_
      refine Wp.goto (tgt := 19) dX3_chosenSense_12 (by decide) ?_
      refine Wp.ireturn dX3_chosenSense_19 rfl ?_
      first | (exfalso; omega) | (exact hq)
theorem ct_X11_put {i what : Int} (hS : ShR I L R n) (hU : PuR I) (hb : inR b) (hi : inR i) (hwh : inR what) (hq : ∀ J, Eqv I J → Q (some (vi (aPut I 255 b i what))) (J, L, R, n)) : Wp mX11_put 0 [some (vr (some 0)), some (vi b), some (vi i), some (vi what)] [] (I, L, R, n) (0, 0) Q := by
  have hn := hS.1
  have hFx := hS.2.1
  have hW := hS.2.2.1
  have h10 := hU.2.2.2.2.2.2.1
  have hT := hU.2.1
  have hT1 := hU.2.2.2.2.2.2.2.1
  have hT2 := hU.2.2.2.2.2.2.2.2
  have h172 := hU.1
  unfold aPut at hq
  have hwB := fun d (hd : d ≤ 10) p => wv_B2 hU.2.2.2.2.2.1 b (chL I 255 b) (S := (I 32 35).toNat) (d := d) hd p
  refine Wp.iload_n rfl dX11_put_0 ?_
  refine Wp.callS (As := [_]) (ls0 := [_]) (bd := (0, 0)) (bd' := (0, 0)) dX11_put_1 kmX11_isTongue lkX11_94 (by decide) (by decide) (Nat.le_of_ble_eq_true rfl) rfl rfl (Nat.le_of_ble_eq_true rfl) rfl ?_
  refine ct_X11_isTongue (by omega) ?_
  show Wp _ _ _ (_ :: _) _ _ _
  refine Wp.if_neB (tgt := 11) dX11_put_4 (by decide) (fun c4 => ?_) (fun c4 => ?_)
  · refine Wp.iload_n rfl dX11_put_11 ?_
    refine Wp.if_lt (tgt := 20) dX11_put_12 (by decide) (by first | omega | exact bI_R _ | exact cmp_R _ _ | assumption) (fun c12 => ?_) (fun c12 => ?_)
    · refine Wp.sipush rfl dX11_put_20 ?_
      refine Wp.ireturn dX11_put_23 rfl ?_
      first | (exfalso; omega) | (rw [if_pos (by omega), if_neg (by omega)] at hq; exact hq I (Eqv.rf I))
    · refine Wp.iload_n rfl dX11_put_15 ?_
      refine Wp.iconst dX11_put_16 ?_
      refine Wp.icmp_le (tgt := 24) dX11_put_17 (by decide) (by first | omega | exact bI_R _ | exact cmp_R _ _ | assumption) (by first | omega | exact bI_R _ | exact cmp_R _ _ | assumption) (fun c17 => ?_) (fun c17 => ?_)
      · refine Wp.aload_n rfl dX11_put_24 ?_
        refine Wp.gr (kz := 6) rfl dX11_put_25 fkX11_54 (by first | rfl | exact kd_b0 _ | exact kd_b1 _ | exact kd_b2 _ | exact kd_b3 _ | exact kd_b4 _ | exact kd_b5 _ | exact kd_b6 _) (by omega) (by first | exact hFx _ 6 _ rfl | assumption | exact hBk.1 | exact hBk.2.1 | exact hBk.2.2.1 | exact hBk.2.2.2.1 | exact hBk.2.2.2.2.1 | exact hBk.2.2.2.2.2) ?_
        refine Wp.gi (kz := 2) rfl dX11_put_28 fkX11_161 (by first | rfl | exact kd_b0 _ | exact kd_b1 _ | exact kd_b2 _ | exact kd_b3 _ | exact kd_b4 _ | exact kd_b5 _ | exact kd_b6 _) (by omega) ?_
        refine Wp.if_eq (tgt := 45) dX11_put_31 (by decide) (by first | omega | exact bI_R _ | exact cmp_R _ _ | assumption) (fun c31 => ?_) (fun c31 => ?_)
        · refine Wp.sipush rfl dX11_put_45 ?_
          refine Wp.ireturn dX11_put_48 rfl ?_
          first | (exfalso; omega) | (rw [if_pos (by omega), if_pos (by omega), if_pos (by omega)] at hq; exact hq I (Eqv.rf I))
        · refine Wp.aload_n rfl dX11_put_34 ?_
          refine Wp.gr (kz := 6) rfl dX11_put_35 fkX11_54 (by first | rfl | exact kd_b0 _ | exact kd_b1 _ | exact kd_b2 _ | exact kd_b3 _ | exact kd_b4 _ | exact kd_b5 _ | exact kd_b6 _) (by omega) (by first | exact hFx _ 6 _ rfl | assumption | exact hBk.1 | exact hBk.2.1 | exact hBk.2.2.1 | exact hBk.2.2.2.1 | exact hBk.2.2.2.2.1 | exact hBk.2.2.2.2.2) ?_
          refine Wp.gi (kz := 1) rfl dX11_put_38 fkX11_270 (by first | rfl | exact kd_b0 _ | exact kd_b1 _ | exact kd_b2 _ | exact kd_b3 _ | exact kd_b4 _ | exact kd_b5 _ | exact kd_b6 _) (by omega) ?_
          refine Wp.iload_n rfl dX11_put_41 ?_
          refine Wp.icmp_ne (tgt := 49) dX11_put_42 (by decide) (by first | omega | exact bI_R _ | exact cmp_R _ _ | assumption) (by first | omega | exact bI_R _ | exact cmp_R _ _ | assumption) (fun c42 => ?_) (fun c42 => ?_)
          · refine Wp.aload_n rfl dX11_put_49 ?_
            refine Wp.gr (kz := 7) rfl dX11_put_50 fkX11_61 (by first | rfl | exact kd_b0 _ | exact kd_b1 _ | exact kd_b2 _ | exact kd_b3 _ | exact kd_b4 _ | exact kd_b5 _ | exact kd_b6 _) (by omega) (by first | exact hFx _ 7 _ rfl | assumption | exact hBk.1 | exact hBk.2.1 | exact hBk.2.2.1 | exact hBk.2.2.2.1 | exact hBk.2.2.2.2.1 | exact hBk.2.2.2.2.2) ?_
            refine Wp.aload_n rfl dX11_put_53 ?_
            refine Wp.gr (kz := 6) rfl dX11_put_54 fkX11_54 (by first | rfl | exact kd_b0 _ | exact kd_b1 _ | exact kd_b2 _ | exact kd_b3 _ | exact kd_b4 _ | exact kd_b5 _ | exact kd_b6 _) (by omega) (by first | exact hFx _ 6 _ rfl | assumption | exact hBk.1 | exact hBk.2.1 | exact hBk.2.2.1 | exact hBk.2.2.2.1 | exact hBk.2.2.2.2.1 | exact hBk.2.2.2.2.2) ?_
            refine Wp.iload_n rfl dX11_put_57 ?_
            refine Wp.aload_n rfl dX11_put_58 ?_
            refine Wp.gr (kz := 2) rfl dX11_put_59 fkX11_26 (by first | rfl | exact kd_b0 _ | exact kd_b1 _ | exact kd_b2 _ | exact kd_b3 _ | exact kd_b4 _ | exact kd_b5 _ | exact kd_b6 _) (by omega) (by first | exact hFx _ 2 _ rfl | assumption | exact hBk.1 | exact hBk.2.1 | exact hBk.2.2.1 | exact hBk.2.2.2.1 | exact hBk.2.2.2.2.1 | exact hBk.2.2.2.2.2) ?_
            refine Wp.aload_n rfl dX11_put_62 ?_
            refine Wp.gr (kz := 5) rfl dX11_put_63 fkX11_47 (by first | rfl | exact kd_b0 _ | exact kd_b1 _ | exact kd_b2 _ | exact kd_b3 _ | exact kd_b4 _ | exact kd_b5 _ | exact kd_b6 _) (by omega) (by first | exact hFx _ 5 _ rfl | assumption | exact hBk.1 | exact hBk.2.1 | exact hBk.2.2.1 | exact hBk.2.2.2.1 | exact hBk.2.2.2.2.1 | exact hBk.2.2.2.2.2) ?_
            refine Wp.callV (As := [_, _, _, _]) (ls0 := [_, _, _, _, _, _, _, _, _]) (bd := (0, 0)) (bd' := (0, 0)) dX11_put_66 kmX3_solve lkX11_275 (by decide) (by decide) (Nat.le_of_ble_eq_true rfl) (by first | rfl | exact kd_b0 _ | exact kd_b1 _ | exact kd_b2 _ | exact kd_b3 _ | exact kd_b4 _ | exact kd_b5 _ | exact kd_b6 _) (by omega) rfl rfl (Nat.le_of_ble_eq_true rfl) rfl ?_
            refine ct_X3_solve (S := (I 32 35).toNat) hS hU hb (by omega) (by omega) (fun K k0 k1 k2 => ?_)
            have hsz := k0.2.1
            rw [if_pos (by omega), if_pos (by omega), if_neg (by omega)] at hq
            have hcB : 0 ≤ i → i < I 32 35 → -1 ≤ K 24 i ∧ K 24 i < 18 := fun h0 h1 => by
              have := k2 i.toNat (by omega)
              unfold choP at this
              rw [show ((i.toNat : Nat) : Int) = i by omega] at this
              rcases this with h | ⟨c, hc, _, _, h⟩
              · rw [h.2]; omega
              · rw [h]; omega
            show Wp _ _ _ _ _ _ _
            refine Wp.iload_n rfl dX11_put_69 ?_
            refine Wp.iconst dX11_put_70 ?_
            refine Wp.icmp_ne (tgt := 83) dX11_put_71 (by decide) (by first | omega | exact bI_R _ | exact cmp_R _ _ | assumption) (by first | omega | exact bI_R _ | exact cmp_R _ _ | assumption) (fun c71 => ?_) (fun c71 => ?_)
            · refine Wp.iload_n rfl dX11_put_83 ?_
              refine Wp.if_ne (tgt := 98) dX11_put_84 (by decide) (by first | omega | exact bI_R _ | exact cmp_R _ _ | assumption) (fun c84 => ?_) (fun c84 => ?_)
              · refine Wp.aload_n rfl dX11_put_98 ?_
                refine Wp.gr (kz := 7) rfl dX11_put_99 fkX11_61 (by first | rfl | exact kd_b0 _ | exact kd_b1 _ | exact kd_b2 _ | exact kd_b3 _ | exact kd_b4 _ | exact kd_b5 _ | exact kd_b6 _) (by omega) (by first | exact hFx _ 7 _ rfl | assumption | exact hBk.1 | exact hBk.2.1 | exact hBk.2.2.1 | exact hBk.2.2.2.1 | exact hBk.2.2.2.2.1 | exact hBk.2.2.2.2.2) ?_
                refine Wp.iload_n rfl dX11_put_102 ?_
                refine Wp.callV (As := [_]) (ls0 := [_, _, _]) (bd := (0, 0)) (bd' := (0, 0)) dX11_put_103 kmX3_chosenSense lkX11_285 (by decide) (by decide) (Nat.le_of_ble_eq_true rfl) (by first | rfl | exact kd_b0 _ | exact kd_b1 _ | exact kd_b2 _ | exact kd_b3 _ | exact kd_b4 _ | exact kd_b5 _ | exact kd_b6 _) (by omega) rfl rfl (Nat.le_of_ble_eq_true rfl) rfl ?_
                refine psn hn hFx hW hU k0 (by omega) (by omega) k2 hi ?_
                show Wp _ _ _ (_ :: _) _ _ _
                refine Wp.ireturn dX11_put_106 rfl ?_
                first | (exfalso; omega) | (rw [if_neg (by omega)] at hq; refine qI (hq K k0.1) ?_; split; (cases hc : cz I b (chL I 255 b) (I 32 35).toNat i.toNat with | none => rfl | some q => (first | rfl | (show _ = (if what = 0 then _ else _); rw [if_pos (by omega)]) | (show _ = (if what = 0 then _ else _); rw [if_neg (by omega)]))); rfl)
              · refine Wp.aload_n rfl dX11_put_87 ?_
                refine Wp.gr (kz := 7) rfl dX11_put_88 fkX11_61 (by first | rfl | exact kd_b0 _ | exact kd_b1 _ | exact kd_b2 _ | exact kd_b3 _ | exact kd_b4 _ | exact kd_b5 _ | exact kd_b6 _) (by omega) (by first | exact hFx _ 7 _ rfl | assumption | exact hBk.1 | exact hBk.2.1 | exact hBk.2.2.1 | exact hBk.2.2.2.1 | exact hBk.2.2.2.2.1 | exact hBk.2.2.2.2.2) ?_
                refine Wp.iload_n rfl dX11_put_91 ?_
                refine Wp.callV (As := [_]) (ls0 := [_, _]) (bd := (0, 0)) (bd' := (0, 0)) dX11_put_92 kmX3_chosenWord lkX11_282 (by decide) (by decide) (Nat.le_of_ble_eq_true rfl) (by first | rfl | exact kd_b0 _ | exact kd_b1 _ | exact kd_b2 _ | exact kd_b3 _ | exact kd_b4 _ | exact kd_b5 _ | exact kd_b6 _) (by omega) rfl rfl (Nat.le_of_ble_eq_true rfl) rfl ?_
                refine pw hn hFx hW hU k0 (by omega) (by omega) k2 hi ?_
                show Wp _ _ _ (_ :: _) _ _ _
                refine Wp.goto (tgt := 106) dX11_put_95 (by decide) ?_
                refine Wp.ireturn dX11_put_106 rfl ?_
                first | (exfalso; omega) | (rw [if_neg (by omega)] at hq; refine qI (hq K k0.1) ?_; split; (cases hc : cz I b (chL I 255 b) (I 32 35).toNat i.toNat with | none => rfl | some q => (first | rfl | (show _ = (if what = 0 then _ else _); rw [if_pos (by omega)]) | (show _ = (if what = 0 then _ else _); rw [if_neg (by omega)]))); rfl)
            · refine Wp.aload_n rfl dX11_put_74 ?_
              refine Wp.gr (kz := 7) rfl dX11_put_75 fkX11_61 (by first | rfl | exact kd_b0 _ | exact kd_b1 _ | exact kd_b2 _ | exact kd_b3 _ | exact kd_b4 _ | exact kd_b5 _ | exact kd_b6 _) (by omega) (by first | exact hFx _ 7 _ rfl | assumption | exact hBk.1 | exact hBk.2.1 | exact hBk.2.2.1 | exact hBk.2.2.2.1 | exact hBk.2.2.2.2.1 | exact hBk.2.2.2.2.2) ?_
              refine Wp.iconst dX11_put_78 ?_
              refine Wp.callV (As := [_]) (ls0 := [_, _]) (bd := (0, 0)) (bd' := (0, 0)) dX11_put_79 kmX3_most lkX11_279 (by decide) (by decide) (Nat.le_of_ble_eq_true rfl) (by first | rfl | exact kd_b0 _ | exact kd_b1 _ | exact kd_b2 _ | exact kd_b3 _ | exact kd_b4 _ | exact kd_b5 _ | exact kd_b6 _) (by omega) rfl rfl (Nat.le_of_ble_eq_true rfl) rfl ?_
              refine ct_X3_most hn hFx (by omega) (by omega) (by omega) ?_
              show Wp _ _ _ (_ :: _) _ _ _
              refine Wp.ireturn dX11_put_82 rfl ?_
              first | (exfalso; omega) | (rw [if_pos (by omega)] at hq; refine qI (hq K k0.1) ?_; rw [if_pos (by omega)]; exact (k1 0 (by omega) (by omega)).2)
          · refine Wp.sipush rfl dX11_put_45 ?_
            refine Wp.ireturn dX11_put_48 rfl ?_
            first | (exfalso; omega) | (rw [if_pos (by omega), if_pos (by omega), if_pos (by omega)] at hq; exact hq I (Eqv.rf I))
      · refine Wp.sipush rfl dX11_put_20 ?_
        refine Wp.ireturn dX11_put_23 rfl ?_
        first | (exfalso; omega) | (rw [if_pos (by omega), if_neg (by omega)] at hq; exact hq I (Eqv.rf I))
  · refine Wp.sipush rfl dX11_put_7 ?_
    refine Wp.ireturn dX11_put_10 rfl ?_
    first | (exfalso; omega) | (rw [if_neg (by omega)] at hq; exact hq I (Eqv.rf I))
end

