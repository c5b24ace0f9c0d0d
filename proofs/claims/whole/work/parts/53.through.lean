/-! ===== the class: ways through a third tongue ===== -/
section
variable {I J : Nat → Int → Int} {L K : Nat → Int → BitVec 64} {R : Nat → Int → Option Nat} {n k : Nat} {m : Mm} {Q : Option AV → Mm → Prop}
theorem BR_cg (h : Eqv I J) (hL : EqvL L K) (hB : BR I L R n k) : BR J K R n k := by
  have e : ∀ (o : Nat) (z : Int), 33 ≤ o ∧ o ≤ 40 ∨ 57 ≤ o → J o z = I o z := fun o z ho => h o z (by unfold scr; omega)
  have eL : ∀ (o : Nat) (z : Int), 57 ≤ o → K o z = L o z := fun o z ho => hL o z (by omega)
  have eS : shf J (k : Int) = shf I (k : Int) := by
    funext o z
    unfold shf
    rw [e 36 _ (by omega)]
    split
    · rfl
    · split
      · rename_i h2; exact e o _ (by omega)
      · split
        · rename_i h2; exact e o _ (by omega)
        · rfl
  obtain ⟨h1, h2, h3, h4, h5, h6, h7⟩ := hB
  refine ⟨h1, h2, h3, ?_, ?_, ?_, ?_⟩
  · rw [e _ _ (by omega), e 33 _ (by omega)]; exact h4
  · rw [e _ _ (by omega), e 34 _ (by omega)]; exact h5
  · rw [e _ _ (by omega), e 35 _ (by omega)]; exact h6
  · rw [eS]
    unfold CB at h7 ⊢
    simp only [e _ _ (show 33 ≤ 57 + 7 * k ∧ 57 + 7 * k ≤ 40 ∨ 57 ≤ 57 + 7 * k by omega), e _ _ (show 33 ≤ 57 + 7 * k + 1 ∧ 57 + 7 * k + 1 ≤ 40 ∨ 57 ≤ 57 + 7 * k + 1 by omega), e _ _ (show 33 ≤ 57 + 7 * k + 2 ∧ 57 + 7 * k + 2 ≤ 40 ∨ 57 ≤ 57 + 7 * k + 2 by omega), e _ _ (show 33 ≤ 57 + 7 * k + 3 ∧ 57 + 7 * k + 3 ≤ 40 ∨ 57 ≤ 57 + 7 * k + 3 by omega), e _ _ (show 33 ≤ 57 + 7 * k + 4 ∧ 57 + 7 * k + 4 ≤ 40 ∨ 57 ≤ 57 + 7 * k + 4 by omega), eL _ _ (show 57 ≤ 57 + 7 * k by omega), eL _ _ (show 57 ≤ 57 + 7 * k + 5 by omega), eL _ _ (show 57 ≤ 57 + 7 * k + 6 by omega)]
    exact h7
theorem ShR_cg (h : Eqv I J) (hL : EqvL L K) (hS : ShR I L R n) : ShR J K R n := by
  obtain ⟨h1, h2, h3, h4, h5, h6, h7⟩ := hS
  have e : ∀ (z : Int), J 4 z = I 4 z := fun z => h 4 z (by unfold scr; omega)
  have e0 : J 32 0 = I 32 0 := h 32 0 (by unfold scr; omega)
  refine ⟨h1, h2, RW_cg h.se h3, ?_, ?_, ?_, fun k hk => BR_cg h hL (h7 k (by omega))⟩
  · rw [e, e0]; exact h4
  · rw [e, h 32 9 (by unfold scr; omega)]; exact h5
  · rw [e, h 32 10 (by unfold scr; omega)]; exact h6
theorem wo_t {s t f e : Int} (hE : EOk I e) (hfs : I 37 s = f) (hf : -1 ≤ f) (hc : f = -1 ∨ fst' I e k = -1 ∨ f = fst' I e k) (hh : hasW (sst I (I 32 10) e k) t) : wtU I (I 32 10) s t e (min k (cntE I e)) + 1 = wtU I (I 32 10) s t e (min (k + 1) (cntE I e)) := by
  have hb := hh.2.2
  unfold sst at hb
  rw [ite_bit] at hb
  have hcn : cntE I e = (I 36 e).toNat := if_neg (by have := hE.1; omega)
  unfold fst' at hc
  rw [if_pos hb.1] at hc
  rw [hcn, show min k (I 36 e).toNat = k by omega, show min (k + 1) (I 36 e).toNat = k + 1 by omega]
  have := wtU_t (I := I) (ag := I 32 10) (s := s) (t := t) (o := e) (n0 := 0) (k := k) ⟨by omega, hb.2⟩
  omega
theorem wo_f {s t f e : Int} (hE : EOk I e) (hfs : I 37 s = f) (hf : -1 ≤ f) (ht0 : 0 ≤ t) (ht1 : t < 60) (hc : ¬ ((f = -1 ∨ fst' I e k = -1 ∨ f = fst' I e k) ∧ hasW (sst I (I 32 10) e k) t)) : wtU I (I 32 10) s t e (min k (cntE I e)) = wtU I (I 32 10) s t e (min (k + 1) (cntE I e)) := by
  have hcn : cntE I e = (I 36 e).toNat := if_neg (by have := hE.1; omega)
  have hE1 := hE.1
  rw [hcn]
  by_cases hk : (k : Int) < I 36 e
  · have hso := (hE.2 k (by omega) hk).1
    rw [show min k (I 36 e).toNat = k by omega, show min (k + 1) (I 36 e).toNat = k + 1 by omega]
    have := wtU_f (I := I) (ag := I 32 10) (s := s) (t := t) (o := e) (n0 := 0) (k := k) (fun q => hc ⟨by unfold fst'; rw [if_pos ⟨by omega, hk⟩]; omega, ht0, ht1, by unfold sst; rw [if_pos ⟨by omega, hk⟩]; exact q.2⟩)
    omega
  · rw [show min k (I 36 e).toNat = min (k + 1) (I 36 e).toNat by omega]
theorem ct_X10_waysOn {mm x c t f s : Int} (hS : ShR I L R n) (hm : inR mm) (hc : inR c) (hx0 : 0 ≤ x) (hx1 : x < 60) (ht0 : 0 ≤ t) (ht1 : t < 60) (hfs : I 37 s = f) (hf : -1 ≤ f) (hf5 : f ≤ 5) (hq : Q (some (vi (wtU I (I 32 10) s t (ent I 255 mm x c) (cntE I (ent I 255 mm x c))))) (I, L, R, n)) : Wp mX10_waysOn 0 [some (vr (some 6)), some (vr (some 4)), some (vi mm), some (vi x), some (vi c), some (vi t), some (vi f), none, none, none, none, none] [] (I, L, R, n) (0, 0) Q := by
  have hn := hS.1
  have hW := hS.2.2.1
  have hA := hW.2.2.2.2.1
  have s4 := hS.2.2.2.2.2.1
  have hE := ent_lat hW (lk := 255) (a := mm) (b := c) hx0
  have hB := lat_B I hW.1 255 mm x c
  have hN1 := hW.2.1
  have lp : ∀ (kb : Nat) (hkb : (kb : Int) < I 32 0 ∧ ent I 255 mm x c = 60 * kb + x) , ∀ (tt k : Nat) (z : Int) (acc : Int) (x10 : Option AV) (x11 : Option AV), k + tt = 3 → z = k → acc = wtU I (I 32 10) s t (ent I 255 mm x c) (min k (cntE I (ent I 255 mm x c))) → Wp mX10_waysOn 27 [some (vr (some 6)), some (vr (some 4)), some (vi mm), some (vi x), some (vi c), some (vi t), some (vi f), some (vr (some (57 + 7 * kb))), some (vi acc), some (vi z), x10, x11] [] (I, L, R, n) (0, 0) Q := by
    intro kb hkb
    intro tt
    induction tt with
    | zero =>
      intro k z acc x10 x11 hkt hz e0
      obtain rfl : k = 3 := by omega
      have hc3 := hW.cnt 255 mm c hx0 hx1
      refine Wp.iload rfl dX10_waysOn_27 ?_
      refine Wp.iconst dX10_waysOn_29 ?_
      refine Wp.icmp_ge (tgt := 103) dX10_waysOn_30 (by decide) (by first | omega | exact bI_R _ | exact cmp_R _ _ | assumption) (by first | omega | exact bI_R _ | exact cmp_R _ _ | assumption) (fun c30 => ?_) (fun c30 => ?_)
      · refine Wp.iload rfl dX10_waysOn_103 ?_
        refine Wp.ireturn dX10_waysOn_105 rfl ?_
        first | (exfalso; omega) | (rw [show min 3 (cntE I (ent I 255 mm x c)) = cntE I (ent I 255 mm x c) by omega] at e0; exact qI hq e0)
      · exfalso; omega
    | succ tt ih =>
      intro k z acc x10 x11 hkt hz e0
      subst hz
      subst e0
      have hBB := hS.2.2.2.2.2.2 kb hkb.1
      have hn7 := hBB.2.2.1
      have hEO : EOk I (ent I 255 mm x c) := (hW.entOk hx0 hx1).resolve_left (by omega)
      have hfB : -1 ≤ fst' I (ent I 255 mm x c) k ∧ fst' I (ent I 255 mm x c) k ≤ 5 := by
        unfold fst'
        split
        · rename_i hh; have := (hEO.2 k hh.1 hh.2).1; omega
        · omega
      refine Wp.iload rfl dX10_waysOn_27 ?_
      refine Wp.iconst dX10_waysOn_29 ?_
      refine Wp.icmp_ge (tgt := 103) dX10_waysOn_30 (by decide) (by first | omega | exact bI_R _ | exact cmp_R _ _ | assumption) (by first | omega | exact bI_R _ | exact cmp_R _ _ | assumption) (fun c30 => ?_) (fun c30 => ?_)
      · exfalso; omega
      · refine Wp.aload rfl dX10_waysOn_33 ?_
        refine Wp.iload_n rfl dX10_waysOn_35 ?_
        refine Wp.iload rfl dX10_waysOn_36 ?_
        refine Wp.callV (As := [_, _]) (ls0 := [_, _, _, _]) (bd := (0, 0)) (bd' := (0, 0)) dX10_waysOn_38 kmX0_fieldOf lkX10_60 (by decide) (by decide) (Nat.le_of_ble_eq_true rfl) (by first | rfl | exact kd_b0 _ | exact kd_b1 _ | exact kd_b2 _ | exact kd_b3 _ | exact kd_b4 _ | exact kd_b5 _ | exact kd_b6 _) (by omega) rfl rfl (Nat.le_of_ble_eq_true rfl) rfl ?_
        refine ct_fst hBB hW hkb.1 hx0 hx1 (by omega) ?_
        rw [← hkb.2]
        show Wp _ _ _ (_ :: _) _ _ _
        refine Wp.istore (ls' := [_, _, _, _, _, _, _, _, _, _, _, _]) dX10_waysOn_41 (by decide) rfl ?_
        refine Wp.iload rfl dX10_waysOn_43 ?_
        refine Wp.iconst dX10_waysOn_45 ?_
        refine Wp.icmp_eq (tgt := 62) dX10_waysOn_46 (by decide) (by first | omega | exact bI_R _ | exact cmp_R _ _ | assumption) (by first | omega | exact bI_R _ | exact cmp_R _ _ | assumption) (fun c46 => ?_) (fun c46 => ?_)
        · refine Wp.iconst dX10_waysOn_62 ?_
          refine Wp.goto (tgt := 67) dX10_waysOn_63 (by decide) ?_
          refine Wp.istore (ls' := [_, _, _, _, _, _, _, _, _, _, _, _]) dX10_waysOn_67 (by decide) rfl ?_
          refine Wp.iload rfl dX10_waysOn_69 ?_
          refine Wp.if_eq (tgt := 97) dX10_waysOn_71 (by decide) (by first | omega | exact bI_R _ | exact cmp_R _ _ | assumption) (fun c71 => ?_) (fun c71 => ?_)
          · refine Wp.iinc (ls' := [_, _, _, _, _, _, _, _, _, _, _, _]) rfl dX10_waysOn_97 (by decide) rfl ?_
            refine Wp.goto (tgt := 27) dX10_waysOn_100 (by decide) ?_
            first | exact ih (k + 1) _ _ _ _ (by omega) (by omega) (wo_t hEO hfs hf (by omega) c91) | exact ih (k + 1) _ _ _ _ (by omega) (by omega) (wo_f hEO hfs hf ht0 ht1 (fun q => c91 q.2)) | exact ih (k + 1) _ _ _ _ (by omega) (by omega) (wo_f hEO hfs hf ht0 ht1 (fun q => absurd q.1 (by omega))) | (exfalso; omega)
          · refine Wp.aload rfl dX10_waysOn_74 ?_
            refine Wp.iload_n rfl dX10_waysOn_76 ?_
            refine Wp.iload rfl dX10_waysOn_77 ?_
            refine Wp.aload_n rfl dX10_waysOn_79 ?_
            refine Wp.gi (kz := 4) rfl dX10_waysOn_80 fkX10_43 (by first | rfl | exact kd_b0 _ | exact kd_b1 _ | exact kd_b2 _ | exact kd_b3 _ | exact kd_b4 _ | exact kd_b5 _ | exact kd_b6 _) (by omega) ?_
            refine Wp.callV (As := [_, _, _]) (ls0 := [_, _, _, _, _]) (bd := (0, 0)) (bd' := (0, 0)) dX10_waysOn_83 kmX0_senseSet lkX10_47 (by decide) (by decide) (Nat.le_of_ble_eq_true rfl) (by first | rfl | exact kd_b0 _ | exact kd_b1 _ | exact kd_b2 _ | exact kd_b3 _ | exact kd_b4 _ | exact kd_b5 _ | exact kd_b6 _) (by omega) rfl rfl (Nat.le_of_ble_eq_true rfl) rfl ?_
            refine ct_sst hBB hW hkb.1 hx0 hx1 (by omega) (by omega) ?_
            rw [← hkb.2, s4]
            show Wp _ _ _ (_ :: _) _ _ _
            refine Wp.iload rfl dX10_waysOn_86 ?_
            refine Wp.callS (As := [_, _]) (ls0 := [_, _, _]) (bd := (0, 0)) (bd' := (0, 0)) dX10_waysOn_88 kmX11_has lkX10_56 (by decide) (by decide) (Nat.le_of_ble_eq_true rfl) rfl rfl (Nat.le_of_ble_eq_true rfl) rfl ?_
            refine ct_X11_has (by omega) ?_
            show Wp _ _ _ (_ :: _) _ _ _
            refine Wp.if_eqB (tgt := 97) dX10_waysOn_91 (by decide) (fun c91 => ?_) (fun c91 => ?_)
            · refine Wp.iinc (ls' := [_, _, _, _, _, _, _, _, _, _, _, _]) rfl dX10_waysOn_97 (by decide) rfl ?_
              refine Wp.goto (tgt := 27) dX10_waysOn_100 (by decide) ?_
              first | exact ih (k + 1) _ _ _ _ (by omega) (by omega) (wo_t hEO hfs hf (by omega) c91) | exact ih (k + 1) _ _ _ _ (by omega) (by omega) (wo_f hEO hfs hf ht0 ht1 (fun q => c91 q.2)) | exact ih (k + 1) _ _ _ _ (by omega) (by omega) (wo_f hEO hfs hf ht0 ht1 (fun q => absurd q.1 (by omega))) | (exfalso; omega)
            · refine Wp.iinc (ls' := [_, _, _, _, _, _, _, _, _, _, _, _]) rfl dX10_waysOn_94 (by decide) rfl ?_
              refine Wp.iinc (ls' := [_, _, _, _, _, _, _, _, _, _, _, _]) rfl dX10_waysOn_97 (by decide) rfl ?_
              refine Wp.goto (tgt := 27) dX10_waysOn_100 (by decide) ?_
              first | exact ih (k + 1) _ _ _ _ (by omega) (by omega) (wo_t hEO hfs hf (by omega) c91) | exact ih (k + 1) _ _ _ _ (by omega) (by omega) (wo_f hEO hfs hf ht0 ht1 (fun q => c91 q.2)) | exact ih (k + 1) _ _ _ _ (by omega) (by omega) (wo_f hEO hfs hf ht0 ht1 (fun q => absurd q.1 (by omega))) | (exfalso; omega)
        · refine Wp.iload rfl dX10_waysOn_49 ?_
          refine Wp.iconst dX10_waysOn_51 ?_
          refine Wp.icmp_eq (tgt := 62) dX10_waysOn_52 (by decide) (by first | omega | exact bI_R _ | exact cmp_R _ _ | assumption) (by first | omega | exact bI_R _ | exact cmp_R _ _ | assumption) (fun c52 => ?_) (fun c52 => ?_)
          · refine Wp.iconst dX10_waysOn_62 ?_
            refine Wp.goto (tgt := 67) dX10_waysOn_63 (by decide) ?_
            refine Wp.istore (ls' := [_, _, _, _, _, _, _, _, _, _, _, _]) dX10_waysOn_67 (by decide) rfl ?_
            refine Wp.iload rfl dX10_waysOn_69 ?_
            refine Wp.if_eq (tgt := 97) dX10_waysOn_71 (by decide) (by first | omega | exact bI_R _ | exact cmp_R _ _ | assumption) (fun c71 => ?_) (fun c71 => ?_)
            · refine Wp.iinc (ls' := [_, _, _, _, _, _, _, _, _, _, _, _]) rfl dX10_waysOn_97 (by decide) rfl ?_
              refine Wp.goto (tgt := 27) dX10_waysOn_100 (by decide) ?_
              first | exact ih (k + 1) _ _ _ _ (by omega) (by omega) (wo_t hEO hfs hf (by omega) c91) | exact ih (k + 1) _ _ _ _ (by omega) (by omega) (wo_f hEO hfs hf ht0 ht1 (fun q => c91 q.2)) | exact ih (k + 1) _ _ _ _ (by omega) (by omega) (wo_f hEO hfs hf ht0 ht1 (fun q => absurd q.1 (by omega))) | (exfalso; omega)
            · refine Wp.aload rfl dX10_waysOn_74 ?_
              refine Wp.iload_n rfl dX10_waysOn_76 ?_
              refine Wp.iload rfl dX10_waysOn_77 ?_
              refine Wp.aload_n rfl dX10_waysOn_79 ?_
              refine Wp.gi (kz := 4) rfl dX10_waysOn_80 fkX10_43 (by first | rfl | exact kd_b0 _ | exact kd_b1 _ | exact kd_b2 _ | exact kd_b3 _ | exact kd_b4 _ | exact kd_b5 _ | exact kd_b6 _) (by omega) ?_
              refine Wp.callV (As := [_, _, _]) (ls0 := [_, _, _, _, _]) (bd := (0, 0)) (bd' := (0, 0)) dX10_waysOn_83 kmX0_senseSet lkX10_47 (by decide) (by decide) (Nat.le_of_ble_eq_true rfl) (by first | rfl | exact kd_b0 _ | exact kd_b1 _ | exact kd_b2 _ | exact kd_b3 _ | exact kd_b4 _ | exact kd_b5 _ | exact kd_b6 _) (by omega) rfl rfl (Nat.le_of_ble_eq_true rfl) rfl ?_
              refine ct_sst hBB hW hkb.1 hx0 hx1 (by omega) (by omega) ?_
              rw [← hkb.2, s4]
              show Wp _ _ _ (_ :: _) _ _ _
              refine Wp.iload rfl dX10_waysOn_86 ?_
              refine Wp.callS (As := [_, _]) (ls0 := [_, _, _]) (bd := (0, 0)) (bd' := (0, 0)) dX10_waysOn_88 kmX11_has lkX10_56 (by decide) (by decide) (Nat.le_of_ble_eq_true rfl) rfl rfl (Nat.le_of_ble_eq_true rfl) rfl ?_
              refine ct_X11_has (by omega) ?_
              show Wp _ _ _ (_ :: _) _ _ _
              refine Wp.if_eqB (tgt := 97) dX10_waysOn_91 (by decide) (fun c91 => ?_) (fun c91 => ?_)
              · refine Wp.iinc (ls' := [_, _, _, _, _, _, _, _, _, _, _, _]) rfl dX10_waysOn_97 (by decide) rfl ?_
                refine Wp.goto (tgt := 27) dX10_waysOn_100 (by decide) ?_
                first | exact ih (k + 1) _ _ _ _ (by omega) (by omega) (wo_t hEO hfs hf (by omega) c91) | exact ih (k + 1) _ _ _ _ (by omega) (by omega) (wo_f hEO hfs hf ht0 ht1 (fun q => c91 q.2)) | exact ih (k + 1) _ _ _ _ (by omega) (by omega) (wo_f hEO hfs hf ht0 ht1 (fun q => absurd q.1 (by omega))) | (exfalso; omega)
              · refine Wp.iinc (ls' := [_, _, _, _, _, _, _, _, _, _, _, _]) rfl dX10_waysOn_94 (by decide) rfl ?_
                refine Wp.iinc (ls' := [_, _, _, _, _, _, _, _, _, _, _, _]) rfl dX10_waysOn_97 (by decide) rfl ?_
                refine Wp.goto (tgt := 27) dX10_waysOn_100 (by decide) ?_
                first | exact ih (k + 1) _ _ _ _ (by omega) (by omega) (wo_t hEO hfs hf (by omega) c91) | exact ih (k + 1) _ _ _ _ (by omega) (by omega) (wo_f hEO hfs hf ht0 ht1 (fun q => c91 q.2)) | exact ih (k + 1) _ _ _ _ (by omega) (by omega) (wo_f hEO hfs hf ht0 ht1 (fun q => absurd q.1 (by omega))) | (exfalso; omega)
          · refine Wp.iload rfl dX10_waysOn_55 ?_
            refine Wp.iload rfl dX10_waysOn_57 ?_
            refine Wp.icmp_ne (tgt := 66) dX10_waysOn_59 (by decide) (by first | omega | exact bI_R _ | exact cmp_R _ _ | assumption) (by first | omega | exact bI_R _ | exact cmp_R _ _ | assumption) (fun c59 => ?_) (fun c59 => ?_)
            · refine Wp.iconst dX10_waysOn_66 ?_
              refine Wp.istore (ls' := [_, _, _, _, _, _, _, _, _, _, _, _]) dX10_waysOn_67 (by decide) rfl ?_
              refine Wp.iload rfl dX10_waysOn_69 ?_
              refine Wp.if_eq (tgt := 97) dX10_waysOn_71 (by decide) (by first | omega | exact bI_R _ | exact cmp_R _ _ | assumption) (fun c71 => ?_) (fun c71 => ?_)
              · refine Wp.iinc (ls' := [_, _, _, _, _, _, _, _, _, _, _, _]) rfl dX10_waysOn_97 (by decide) rfl ?_
                refine Wp.goto (tgt := 27) dX10_waysOn_100 (by decide) ?_
                first | exact ih (k + 1) _ _ _ _ (by omega) (by omega) (wo_t hEO hfs hf (by omega) c91) | exact ih (k + 1) _ _ _ _ (by omega) (by omega) (wo_f hEO hfs hf ht0 ht1 (fun q => c91 q.2)) | exact ih (k + 1) _ _ _ _ (by omega) (by omega) (wo_f hEO hfs hf ht0 ht1 (fun q => absurd q.1 (by omega))) | (exfalso; omega)
              · refine Wp.aload rfl dX10_waysOn_74 ?_
                refine Wp.iload_n rfl dX10_waysOn_76 ?_
                refine Wp.iload rfl dX10_waysOn_77 ?_
                refine Wp.aload_n rfl dX10_waysOn_79 ?_
                refine Wp.gi (kz := 4) rfl dX10_waysOn_80 fkX10_43 (by first | rfl | exact kd_b0 _ | exact kd_b1 _ | exact kd_b2 _ | exact kd_b3 _ | exact kd_b4 _ | exact kd_b5 _ | exact kd_b6 _) (by omega) ?_
                refine Wp.callV (As := [_, _, _]) (ls0 := [_, _, _, _, _]) (bd := (0, 0)) (bd' := (0, 0)) dX10_waysOn_83 kmX0_senseSet lkX10_47 (by decide) (by decide) (Nat.le_of_ble_eq_true rfl) (by first | rfl | exact kd_b0 _ | exact kd_b1 _ | exact kd_b2 _ | exact kd_b3 _ | exact kd_b4 _ | exact kd_b5 _ | exact kd_b6 _) (by omega) rfl rfl (Nat.le_of_ble_eq_true rfl) rfl ?_
                refine ct_sst hBB hW hkb.1 hx0 hx1 (by omega) (by omega) ?_
                rw [← hkb.2, s4]
                show Wp _ _ _ (_ :: _) _ _ _
                refine Wp.iload rfl dX10_waysOn_86 ?_
                refine Wp.callS (As := [_, _]) (ls0 := [_, _, _]) (bd := (0, 0)) (bd' := (0, 0)) dX10_waysOn_88 kmX11_has lkX10_56 (by decide) (by decide) (Nat.le_of_ble_eq_true rfl) rfl rfl (Nat.le_of_ble_eq_true rfl) rfl ?_
                refine ct_X11_has (by omega) ?_
                show Wp _ _ _ (_ :: _) _ _ _
                refine Wp.if_eqB (tgt := 97) dX10_waysOn_91 (by decide) (fun c91 => ?_) (fun c91 => ?_)
                · refine Wp.iinc (ls' := [_, _, _, _, _, _, _, _, _, _, _, _]) rfl dX10_waysOn_97 (by decide) rfl ?_
                  refine Wp.goto (tgt := 27) dX10_waysOn_100 (by decide) ?_
                  first | exact ih (k + 1) _ _ _ _ (by omega) (by omega) (wo_t hEO hfs hf (by omega) c91) | exact ih (k + 1) _ _ _ _ (by omega) (by omega) (wo_f hEO hfs hf ht0 ht1 (fun q => c91 q.2)) | exact ih (k + 1) _ _ _ _ (by omega) (by omega) (wo_f hEO hfs hf ht0 ht1 (fun q => absurd q.1 (by omega))) | (exfalso; omega)
                · refine Wp.iinc (ls' := [_, _, _, _, _, _, _, _, _, _, _, _]) rfl dX10_waysOn_94 (by decide) rfl ?_
                  refine Wp.iinc (ls' := [_, _, _, _, _, _, _, _, _, _, _, _]) rfl dX10_waysOn_97 (by decide) rfl ?_
                  refine Wp.goto (tgt := 27) dX10_waysOn_100 (by decide) ?_
                  first | exact ih (k + 1) _ _ _ _ (by omega) (by omega) (wo_t hEO hfs hf (by omega) c91) | exact ih (k + 1) _ _ _ _ (by omega) (by omega) (wo_f hEO hfs hf ht0 ht1 (fun q => c91 q.2)) | exact ih (k + 1) _ _ _ _ (by omega) (by omega) (wo_f hEO hfs hf ht0 ht1 (fun q => absurd q.1 (by omega))) | (exfalso; omega)
            · refine Wp.iconst dX10_waysOn_62 ?_
              refine Wp.goto (tgt := 67) dX10_waysOn_63 (by decide) ?_
              refine Wp.istore (ls' := [_, _, _, _, _, _, _, _, _, _, _, _]) dX10_waysOn_67 (by decide) rfl ?_
              refine Wp.iload rfl dX10_waysOn_69 ?_
              refine Wp.if_eq (tgt := 97) dX10_waysOn_71 (by decide) (by first | omega | exact bI_R _ | exact cmp_R _ _ | assumption) (fun c71 => ?_) (fun c71 => ?_)
              · refine Wp.iinc (ls' := [_, _, _, _, _, _, _, _, _, _, _, _]) rfl dX10_waysOn_97 (by decide) rfl ?_
                refine Wp.goto (tgt := 27) dX10_waysOn_100 (by decide) ?_
                first | exact ih (k + 1) _ _ _ _ (by omega) (by omega) (wo_t hEO hfs hf (by omega) c91) | exact ih (k + 1) _ _ _ _ (by omega) (by omega) (wo_f hEO hfs hf ht0 ht1 (fun q => c91 q.2)) | exact ih (k + 1) _ _ _ _ (by omega) (by omega) (wo_f hEO hfs hf ht0 ht1 (fun q => absurd q.1 (by omega))) | (exfalso; omega)
              · refine Wp.aload rfl dX10_waysOn_74 ?_
                refine Wp.iload_n rfl dX10_waysOn_76 ?_
                refine Wp.iload rfl dX10_waysOn_77 ?_
                refine Wp.aload_n rfl dX10_waysOn_79 ?_
                refine Wp.gi (kz := 4) rfl dX10_waysOn_80 fkX10_43 (by first | rfl | exact kd_b0 _ | exact kd_b1 _ | exact kd_b2 _ | exact kd_b3 _ | exact kd_b4 _ | exact kd_b5 _ | exact kd_b6 _) (by omega) ?_
                refine Wp.callV (As := [_, _, _]) (ls0 := [_, _, _, _, _]) (bd := (0, 0)) (bd' := (0, 0)) dX10_waysOn_83 kmX0_senseSet lkX10_47 (by decide) (by decide) (Nat.le_of_ble_eq_true rfl) (by first | rfl | exact kd_b0 _ | exact kd_b1 _ | exact kd_b2 _ | exact kd_b3 _ | exact kd_b4 _ | exact kd_b5 _ | exact kd_b6 _) (by omega) rfl rfl (Nat.le_of_ble_eq_true rfl) rfl ?_
                refine ct_sst hBB hW hkb.1 hx0 hx1 (by omega) (by omega) ?_
                rw [← hkb.2, s4]
                show Wp _ _ _ (_ :: _) _ _ _
                refine Wp.iload rfl dX10_waysOn_86 ?_
                refine Wp.callS (As := [_, _]) (ls0 := [_, _, _]) (bd := (0, 0)) (bd' := (0, 0)) dX10_waysOn_88 kmX11_has lkX10_56 (by decide) (by decide) (Nat.le_of_ble_eq_true rfl) rfl rfl (Nat.le_of_ble_eq_true rfl) rfl ?_
                refine ct_X11_has (by omega) ?_
                show Wp _ _ _ (_ :: _) _ _ _
                refine Wp.if_eqB (tgt := 97) dX10_waysOn_91 (by decide) (fun c91 => ?_) (fun c91 => ?_)
                · refine Wp.iinc (ls' := [_, _, _, _, _, _, _, _, _, _, _, _]) rfl dX10_waysOn_97 (by decide) rfl ?_
                  refine Wp.goto (tgt := 27) dX10_waysOn_100 (by decide) ?_
                  first | exact ih (k + 1) _ _ _ _ (by omega) (by omega) (wo_t hEO hfs hf (by omega) c91) | exact ih (k + 1) _ _ _ _ (by omega) (by omega) (wo_f hEO hfs hf ht0 ht1 (fun q => c91 q.2)) | exact ih (k + 1) _ _ _ _ (by omega) (by omega) (wo_f hEO hfs hf ht0 ht1 (fun q => absurd q.1 (by omega))) | (exfalso; omega)
                · refine Wp.iinc (ls' := [_, _, _, _, _, _, _, _, _, _, _, _]) rfl dX10_waysOn_94 (by decide) rfl ?_
                  refine Wp.iinc (ls' := [_, _, _, _, _, _, _, _, _, _, _, _]) rfl dX10_waysOn_97 (by decide) rfl ?_
                  refine Wp.goto (tgt := 27) dX10_waysOn_100 (by decide) ?_
                  first | exact ih (k + 1) _ _ _ _ (by omega) (by omega) (wo_t hEO hfs hf (by omega) c91) | exact ih (k + 1) _ _ _ _ (by omega) (by omega) (wo_f hEO hfs hf ht0 ht1 (fun q => c91 q.2)) | exact ih (k + 1) _ _ _ _ (by omega) (by omega) (wo_f hEO hfs hf ht0 ht1 (fun q => absurd q.1 (by omega))) | (exfalso; omega)
  refine Wp.aload_n rfl dX10_waysOn_0 ?_
  refine Wp.aload_n rfl dX10_waysOn_1 ?_
  refine Wp.iload_n rfl dX10_waysOn_2 ?_
  refine Wp.iload_n rfl dX10_waysOn_3 ?_
  refine Wp.iload rfl dX10_waysOn_4 ?_
  refine Wp.callV (As := [_, _, _]) (ls0 := [_, _, _, _, _, _, _]) (bd := (0, 0)) (bd' := (0, 0)) dX10_waysOn_6 kmX8_latest lkX10_33 (by decide) (by decide) (Nat.le_of_ble_eq_true rfl) (by first | rfl | exact kd_b0 _ | exact kd_b1 _ | exact kd_b2 _ | exact kd_b3 _ | exact kd_b4 _ | exact kd_b5 _ | exact kd_b6 _) (by omega) rfl rfl (Nat.le_of_ble_eq_true rfl) rfl ?_
  refine ct_X8_latest hS (by omega) (by omega) (by omega) (by omega) ?_
  show Wp _ _ _ (_ :: _) _ _ _
  refine Wp.callV (As := [_]) (ls0 := [_, _]) (bd := (0, 0)) (bd' := (0, 0)) dX10_waysOn_9 kmX8_bookAt lkX10_39 (by decide) (by decide) (Nat.le_of_ble_eq_true rfl) (by first | rfl | exact kd_b0 _ | exact kd_b1 _ | exact kd_b2 _ | exact kd_b3 _ | exact kd_b4 _ | exact kd_b5 _ | exact kd_b6 _) (by omega) rfl rfl (Nat.le_of_ble_eq_true rfl) rfl ?_
  refine ct_X8_bookAt hS (by omega) ?_
  show Wp _ _ _ (_ :: _) _ _ _
  refine Wp.astore (ls' := [_, _, _, _, _, _, _, _, _, _, _, _]) dX10_waysOn_12 (by decide) rfl ?_
  refine Wp.aload rfl dX10_waysOn_14 ?_
  refine Wp.ifnonnull (tgt := 21) dX10_waysOn_16 (by decide) (fun o16 c16 => ?_) (fun c16 => ?_)
  · obtain ⟨ho, hz0, hz1⟩ := bkA_s c16
    subst ho
    rw [c16]
    refine Wp.iconst dX10_waysOn_21 ?_
    refine Wp.istore (ls' := [_, _, _, _, _, _, _, _, _, _, _, _]) dX10_waysOn_22 (by decide) rfl ?_
    refine Wp.iconst dX10_waysOn_24 ?_
    refine Wp.istore (ls' := [_, _, _, _, _, _, _, _, _, _, _, _]) dX10_waysOn_25 (by decide) rfl ?_
    exact lp (lat I 255 mm x c).toNat ⟨by omega, by omega⟩ 3 0 _ _ _ _ (by omega) (by omega) (by rw [show min 0 (cntE I (ent I 255 mm x c)) = 0 by omega]; rfl)
  · refine Wp.iconst dX10_waysOn_19 ?_
    refine Wp.ireturn dX10_waysOn_20 rfl ?_
    first | (exfalso; omega) | (exact qI hq (by have := bkA_n c16; rw [show cntE I (ent I 255 mm x c) = 0 from if_pos (by omega)]; rfl))
/-- the same as wtX, place by place -/
def wpS (I : Nat → Int → Int) (lk ag s mm c t : Int) : Nat → Int
  | 0 => 0
  | p + 1 => wpS I lk ag s mm c t p + (if (ss I ag s).getLsbD (I 39 (6 * s + p)).toNat = true then wtU I ag s t (ent I lk mm (I 39 (6 * s + p)) c) (cntE I (ent I lk mm (I 39 (6 * s + p)) c)) else 0)
def smK (h : Nat → Int) : Nat → Int
  | 0 => 0
  | j + 1 => smK h j + h j
theorem smK_cg {h g : Nat → Int} : ∀ j : Nat, (∀ i, i < j → h i = g i) → smK h j = smK g j
  | 0, _ => rfl
  | j + 1, hh => by simp only [smK]; rw [smK_cg j (fun i hi => hh i (by omega)), hh j (by omega)]
theorem smK_up {h g : Nat → Int} {v : Nat} (h0 : h v = 0) (hh : ∀ i, i ≠ v → g i = h i) : ∀ j : Nat, smK g j = smK h j + (if v < j then g v else 0)
  | 0 => by simp [smK]
  | j + 1 => by
    simp only [smK]
    rw [smK_up h0 hh j]
    by_cases hv : v = j
    · subst hv
      rw [if_neg (by omega), if_pos (by omega), h0, Int.add_zero]
    · rw [hh j (fun q => hv q.symm)]
      by_cases h1 : v < j
      · rw [if_pos h1, if_pos (by omega)]; omega
      · rw [if_neg h1, if_neg (by omega)]; omega
theorem smK_pl {H : Nat → Int} {W : Nat → Nat} : ∀ j : Nat, (∀ p, p < j → W p < 60 ∧ ∀ p', p' < p → W p' ≠ W p) → smK (fun k => if anyB (fun p => decide (W p = k)) j = true then H k else 0) 60 = smK (fun p => H (W p)) j
  | 0, _ => by
    have : ∀ K, smK (fun k => if anyB (fun p => decide (W p = k)) 0 = true then H k else 0) K = 0 := fun K => by
      induction K with
      | zero => rfl
      | succ K ih => simp only [smK]; rw [ih]; simp [anyB]
    exact this 60
  | j + 1, hd => by
    have ih := smK_pl (H := H) j (fun p hp => hd p (by omega))
    have hj := hd j (by omega)
    have e2 : smK (fun p => H (W p)) (j + 1) = smK (fun p => H (W p)) j + H (W j) := rfl
    have ha : ¬ anyB (fun p => decide (W p = W j)) j = true := by
      rw [anyB_iff]
      rintro ⟨p, hp, h⟩
      exact hj.2 p hp (of_decide_eq_true h)
    have h1 := smK_up (h := fun k => if anyB (fun p => decide (W p = k)) j = true then H k else 0) (g := fun k => if anyB (fun p => decide (W p = k)) (j + 1) = true then H k else 0) (v := W j) (if_neg ha) (fun i hi => by
      have hd2 : decide (W j = i) = false := decide_eq_false (fun q => hi q.symm)
      have e3 : anyB (fun p => decide (W p = i)) (j + 1) = anyB (fun p => decide (W p = i)) j := by
        simp only [anyB]; rw [hd2, Bool.or_false]
      show (if _ then _ else _) = (if _ then _ else _)
      rw [e3]) 60
    have e4 : (fun k => if anyB (fun p => decide (W p = k)) (j + 1) = true then H k else 0) (W j) = H (W j) := by
      show (if _ then _ else _) = _
      rw [if_pos]
      exact (anyB_iff _ _).mpr ⟨j, by omega, decide_eq_true rfl⟩
    rw [h1, e2, ← ih, if_pos hj.1]; exact congrArg _ e4
theorem ssN_bit {ag s : Int} (i : Nat) : ∀ j : Nat, (∀ p : Nat, p < j → (I 39 (6 * s + p)).toNat < 64) → ((ssN I ag s j).getLsbD i = true ↔ ∃ p : Nat, p < j ∧ (ag ≠ 0 ∨ I 40 (6 * s + p) = 0) ∧ (I 39 (6 * s + p)).toNat = i)
  | 0, _ => by simp [ssN]
  | j + 1, hw => by
    simp only [ssN]
    rw [or_bit, ssN_bit i j (fun p hp => hw p (by omega)), ite_bit, one_bit (hw j (by omega))]
    constructor
    · rintro (⟨p, hp, h⟩ | h)
      · exact ⟨p, by omega, h⟩
      · exact ⟨j, by omega, h.1, h.2.symm⟩
    · rintro ⟨p, hp, h⟩
      by_cases hpj : p = j
      · subst hpj; exact Or.inr ⟨h.1, h.2.symm⟩
      · exact Or.inl ⟨p, by omega, h⟩
theorem wpS_smK (lk ag s mm c t : Int) (h : ∀ p : Nat, 0 ≤ I 39 (6 * s + p) ∨ True) : ∀ j : Nat, (∀ p : Nat, p < j → 0 ≤ I 39 (6 * s + p)) → wpS I lk ag s mm c t j = smK (fun p => (fun k : Nat => if (ss I ag s).getLsbD k = true then wtU I ag s t (ent I lk mm k c) (cntE I (ent I lk mm k c)) else 0) (I 39 (6 * s + p)).toNat) j
  | 0, _ => rfl
  | j + 1, h2 => by
    have h3 := h2 j (by omega)
    simp only [wpS, smK]
    rw [wpS_smK lk ag s mm c t h j (fun p hp => h2 p (by omega)), show (((I 39 (6 * s + j)).toNat : Nat) : Int) = I 39 (6 * s + j) by omega]
theorem wtX_smK (lk ag s mm c t : Int) : ∀ j : Nat, wtX I lk ag s mm c t j = smK (fun k : Nat => if (ss I ag s).getLsbD k = true then wtU I ag s t (ent I lk mm k c) (cntE I (ent I lk mm k c)) else 0) j
  | 0 => rfl
  | j + 1 => by simp only [wtX, smK]; rw [wtX_smK lk ag s mm c t j]
/-- place by place it is the same -/
theorem wpS_X (hW : RW I) {lk ag mm c t : Int} {kb w s : Int} (h0 : 0 ≤ kb) (h1 : kb < I 32 0) (hw0 : 0 ≤ w) (hw1 : w < 60) (hs0 : 0 ≤ s) (hs1 : s < I 36 (60 * kb + w)) : wpS I lk ag (3 * (60 * kb + w) + s) mm c t (I 38 (3 * (60 * kb + w) + s)).toNat = wtX I lk ag (3 * (60 * kb + w) + s) mm c t 60 := by
  have hs := hW.s h0 h1 hw0 hw1 hs0 hs1
  have hp : ∀ p : Nat, p < (I 38 (3 * (60 * kb + w) + s)).toNat → (0 ≤ I 39 (6 * (3 * (60 * kb + w) + s) + p) ∧ I 39 (6 * (3 * (60 * kb + w) + s) + p) < 60) ∧ ∀ p' : Nat, p' < p → I 39 (6 * (3 * (60 * kb + w) + s) + p') ≠ I 39 (6 * (3 * (60 * kb + w) + s) + p) := by
    intro p hp
    have h := hW.2.2.2.2.2 kb.toNat (by omega)
    rw [show ((kb.toNat : Nat) : Int) = kb by omega] at h
    have h2 := ((h.2 w hw0 hw1).2 s hs0 hs1).2 p (by omega) (by omega)
    exact ⟨⟨h2.1.1, h2.1.2.1⟩, fun p' hp' => h2.2 p' (by omega) (by omega)⟩
  generalize 3 * (60 * kb + w) + s = si at *
  rw [wpS_smK _ _ _ _ _ _ (fun _ => Or.inr trivial) _ (fun p h => (hp p h).1.1), wtX_smK]
  rw [← smK_pl (H := fun k : Nat => if (ss I ag si).getLsbD k = true then wtU I ag si t (ent I lk mm k c) (cntE I (ent I lk mm k c)) else 0) (W := fun p => (I 39 (6 * si + p)).toNat) (I 38 si).toNat]
  · apply smK_cg
    intro k hk
    show (if _ then (if _ then _ else _) else _) = (if _ then _ else _)
    by_cases hb : (ss I ag si).getLsbD k = true
    · rw [if_pos hb, if_pos]
      unfold ss at hb
      rw [ssN_bit k _ (fun p h => by have := (hp p h).1; omega)] at hb
      obtain ⟨p, hp1, _, hp2⟩ := hb
      exact (anyB_iff _ _).mpr ⟨p, hp1, decide_eq_true hp2⟩
    · rw [if_neg hb]; simp
  · intro p h
    have hpp := hp p h
    refine ⟨by omega, fun p' hp' q => hpp.2 p' hp' ?_⟩
    have := (hp p' (by omega)).1
    omega
end

