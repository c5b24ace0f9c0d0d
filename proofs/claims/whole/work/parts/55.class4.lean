/-! ===== the class: promises 18, 19: the best, the bridge ===== -/
/-- comparing by fractions: A ≤ B, C ≤ D, so E ≤ F, and like only if both were -/
theorem fr3 {bu bl fu fl xu xl : Int} (hb : 1 ≤ bl) (hf : 1 ≤ fl) (hx : 1 ≤ xl) (h1 : bu * fl ≤ fu * bl) (h2 : fu * xl ≤ xu * fl) : bu * xl ≤ xu * bl ∧ (bu * xl = xu * bl → bu * fl = fu * bl ∧ fu * xl = xu * fl) := by
  have e1 : bu * xl * fl = bu * fl * xl := Int.mul_right_comm _ _ _
  have e2 : xu * bl * fl = xu * fl * bl := Int.mul_right_comm _ _ _
  have e3 : fu * bl * xl = fu * xl * bl := Int.mul_right_comm _ _ _
  have a1 : bu * fl * xl ≤ fu * bl * xl := Int.mul_le_mul_of_nonneg_right h1 (by omega)
  have a2 : fu * xl * bl ≤ xu * fl * bl := Int.mul_le_mul_of_nonneg_right h2 (by omega)
  have a3 : bu * xl * fl ≤ xu * bl * fl := by omega
  refine ⟨Int.le_of_mul_le_mul_right a3 (by omega), fun h => ?_⟩
  have a4 : bu * xl * fl = xu * bl * fl := by rw [h]
  have a5 : bu * fl * xl = fu * bl * xl := by omega
  have a6 : fu * xl * bl = xu * fl * bl := by omega
  exact ⟨Int.eq_of_mul_eq_mul_right (by omega) a5, Int.eq_of_mul_eq_mul_right (by omega) a6⟩
/-- x is better than b -/
abbrev btr (x b : BS) : Prop := b.1 < 0 ∨ b.2.1 * x.2.2.1 < x.2.1 * b.2.2.1 ∨ (b.2.1 * x.2.2.1 = x.2.1 * b.2.2.1 ∧ b.2.2.2 < x.2.2.2)
theorem btr_tr {x f b : BS} (hb : 1 ≤ b.2.2.1) (hf : 1 ≤ f.2.2.1) (hx : 1 ≤ x.2.2.1) (hf0 : 0 ≤ f.1) (h1 : btr x f) (h2 : btr f b) : btr x b := by
  unfold btr at *
  rcases Int.lt_or_le b.1 0 with h | h
  · exact Or.inl h
  · have := fr3 (bu := b.2.1) (fu := f.2.1) (xu := x.2.1) hb hf hx (by omega) (by omega)
    omega
theorem btr_nt {x f b : BS} (hb : 1 ≤ b.2.2.1) (hf : 1 ≤ f.2.2.1) (hx : 1 ≤ x.2.2.1) (h1 : ¬ btr x f) (h2 : ¬ btr f b) : ¬ btr x b := by
  unfold btr at *
  have := fr3 (bu := x.2.1) (fu := f.2.1) (xu := b.2.1) hx hf hb (by omega) (by omega)
  omega
section
variable {I J : Nat → Int → Int} {L K : Nat → Int → BitVec 64} {R : Nat → Int → Option Nat} {n k : Nat} {m : Mm} {Q : Option AV → Mm → Prop}
theorem sek_best (lk a w mm c p : Int) : ∀ k : Nat, (sekN I lk a w mm c (p, (-1, 0, 1, 0)) k).2 = fbN I lk a w mm c k
  | 0 => rfl
  | k + 1 => by
    simp only [sekN, fbN, fbS]
    rw [sek_best lk a w mm c p k]
    split
    · rfl
    · exact sek_best lk a w mm c p k
theorem sek_fold (hW : RW I) (lk a mm c : Int) {w : Int} (h0 : 0 ≤ w) (h1 : w < 60) {s : Int × BS} (hs : 1 ≤ s.2.2.2.1) : ∀ k : Nat, k ≤ 60 → sekN I lk a w mm c s k = if 0 ≤ (fbN I lk a w mm c k).1 ∧ btr (fbN I lk a w mm c k) s.2 then (mm, fbN I lk a w mm c k) else s
  | 0, _ => by simp [sekN, fbN]
  | k + 1, hk => by
    have ih := sek_fold hW lk a mm c h0 h1 hs k (by omega)
    have hok := fbN_ok hW lk a mm c h0 h1 k (by omega)
    have hl := lwr_B I lk a w mm c k
    have hsek : sekN I lk a w mm c s (k + 1) = if 0 < wt I lk a w mm c k ∧ btr ((k : Int), upr I lk a w mm c k, lwr I lk a w mm c k, wt I lk a w mm c k) (sekN I lk a w mm c s k).2 then (mm, ((k : Int), upr I lk a w mm c k, lwr I lk a w mm c k, wt I lk a w mm c k)) else sekN I lk a w mm c s k := rfl
    have hfb : fbN I lk a w mm c (k + 1) = if 0 < wt I lk a w mm c k ∧ btr ((k : Int), upr I lk a w mm c k, lwr I lk a w mm c k, wt I lk a w mm c k) (fbN I lk a w mm c k) then ((k : Int), upr I lk a w mm c k, lwr I lk a w mm c k, wt I lk a w mm c k) else fbN I lk a w mm c k := rfl
    have hx1 : 1 ≤ ((k : Int), upr I lk a w mm c k, lwr I lk a w mm c k, wt I lk a w mm c k).2.2.1 := hl.1
    have hx0 : 0 ≤ ((k : Int), upr I lk a w mm c k, lwr I lk a w mm c k, wt I lk a w mm c k).1 := by show (0 : Int) ≤ k; omega
    rw [hsek, hfb, ih]
    have hf1 : 1 ≤ (fbN I lk a w mm c k).2.2.1 := by unfold bOk at hok; omega
    clear hsek hfb ih hl
    generalize ((k : Int), upr I lk a w mm c k, lwr I lk a w mm c k, wt I lk a w mm c k) = x at *
    generalize fbN I lk a w mm c k = f at *
    by_cases hw : 0 < wt I lk a w mm c k
    · simp only [hw, true_and]
      by_cases hf0 : 0 ≤ f.1
      · by_cases hfb : btr f s.2
        · rw [if_pos (show 0 ≤ f.1 ∧ btr f s.2 from ⟨hf0, hfb⟩)]
          by_cases hxf : btr x f
          · rw [if_pos hxf, if_pos (show btr x (mm, f).2 from hxf), if_pos ⟨hx0, btr_tr hs hf1 hx1 hf0 hxf hfb⟩]
          · rw [if_neg hxf, if_neg (show ¬ btr x (mm, f).2 from hxf), if_pos ⟨hf0, hfb⟩]
        · rw [if_neg (show ¬ (0 ≤ f.1 ∧ btr f s.2) from fun q => hfb q.2)]
          by_cases hxf : btr x f
          · rw [if_pos hxf]
            by_cases hxb : btr x s.2
            · rw [if_pos hxb, if_pos ⟨hx0, hxb⟩]
            · rw [if_neg hxb, if_neg (fun q => hxb q.2)]
          · rw [if_neg hxf, if_neg (btr_nt hs hf1 hx1 hxf hfb), if_neg (fun q => hfb q.2)]
      · have hxf : btr x f := Or.inl (by omega)
        rw [if_neg (show ¬ (0 ≤ f.1 ∧ btr f s.2) from fun q => hf0 q.1), if_pos hxf]
        by_cases hxb : btr x s.2
        · rw [if_pos hxb, if_pos ⟨hx0, hxb⟩]
        · rw [if_neg hxb, if_neg (fun q => hxb q.2)]
    · simp only [hw, false_and, if_false]
/-- the class's fold over the tongues -/
def bgN (I : Nat → Int → Int) (lk a w c : Int) : Nat → Int × BS
  | 0 => (-1, (-1, 0, 1, 0))
  | k + 1 => if aptP a k c then sekN I lk a w k c (bgN I lk a w c k) 60 else bgN I lk a w c k
theorem bg_br (hW : RW I) (lk a c : Int) {w : Int} (h0 : 0 ≤ w) (h1 : w < 60) : ∀ k : Nat, k ≤ 4 → ((bgN I lk a w c k).1 < 0 ↔ (bgN I lk a w c k).2.1 < 0) ∧ bOk (bgN I lk a w c k).2 ∧ (-1 ≤ (bgN I lk a w c k).1 ∧ (bgN I lk a w c k).1 ≤ 3) ∧ ((bgN I lk a w c k).1, (bgN I lk a w c k).2.2) = brN I lk a w c k
  | 0, _ => by
    refine ⟨by simp [bgN], ?_, by simp [bgN], rfl⟩
    unfold bOk; simp [bgN]
  | k + 1, hk => by
    have ih := bg_br hW lk a c h0 h1 k (by omega)
    simp only [bgN, brN, brS]
    generalize bgN I lk a w c k = s at *
    rw [← ih.2.2.2]
    by_cases ha : aptP a k c
    · have hok := fbN_ok hW lk a k c h0 h1 60 (by omega)
      have hs1 : 1 ≤ s.2.2.2.1 := by have := ih.2.1; unfold bOk at this; omega
      rw [if_pos ha, sek_fold hW lk a k c h0 h1 hs1 60 (by omega)]
      generalize fbN I lk a w k c 60 = f at *
      by_cases hf : 0 ≤ f.1 ∧ btr f s.2
      · rw [if_pos hf, if_pos]
        · exact ⟨by dsimp only; omega, hok, by dsimp only; omega, rfl⟩
        · refine ⟨ha, hf.1, ?_⟩
          have h2 := hf.2
          have h3 := ih.1
          unfold btr at h2
          dsimp only
          omega
      · rw [if_neg hf, if_neg]
        · exact ⟨ih.1, ih.2.1, ih.2.2.1, rfl⟩
        · rintro ⟨_, q1, q2⟩
          apply hf
          refine ⟨q1, ?_⟩
          have h3 := ih.1
          unfold btr
          dsimp only at q2
          omega
    · rw [if_neg ha, if_neg (fun q => ha q.1)]
      exact ⟨ih.1, ih.2.1, ih.2.2.1, rfl⟩
theorem tSt_0 : tSt (up (up (up (up (up I 6 2 0) 6 3 1) 6 4 0) 6 5 (-1)) 6 6 (-1)) (-1, (-1, 0, 1, 0)) := by
  unfold tSt
  refine ⟨?_, ?_, ?_, ?_, ?_⟩ <;> simp (disch := omega) only [up_same, up_o, up_k]
theorem Eqv_0 : Eqv I (up (up (up (up (up I 6 2 0) 6 3 1) 6 4 0) 6 5 (-1)) 6 6 (-1)) :=
  (((((Eqv.rf I).wr (by unfold scr; omega)).wr (by unfold scr; omega)).wr (by unfold scr; omega)).wr (by unfold scr; omega)).wr (by unfold scr; omega)
theorem sekN_cg (h : SE I J) (lk a w mm c : Int) (s : Int × BS) : ∀ k, sekN J lk a w mm c s k = sekN I lk a w mm c s k
  | 0 => rfl
  | k + 1 => by simp only [sekN]; rw [sekN_cg h lk a w mm c s k, wt_cg h, upr_cg h, lwr_cg h]
theorem ct_X11_best {a w mm c : Int} (hS : ShR I L R n) (ha : inR a) (hw : inR w) (hm : inR mm) (hc : inR c) (hq : ∀ J, Eqv I J → Q (some (vi (aBest I 255 a w mm c))) (J, L, R, n)) : Wp mX11_best 0 [some (vr (some 0)), some (vi a), some (vi w), some (vi mm), some (vi c)] [] (I, L, R, n) (0, 0) Q := by
  have hn := hS.1
  have hFx := hS.2.1
  have hb0 := sek_best (I := I) 255 a w mm c (-1) 60
  refine Wp.iload_n rfl dX11_best_0 ?_
  refine Wp.callS (As := [_]) (ls0 := [_]) (bd := (0, 0)) (bd' := (0, 0)) dX11_best_1 kmX11_isTongue lkX11_94 (by decide) (by decide) (Nat.le_of_ble_eq_true rfl) rfl rfl (Nat.le_of_ble_eq_true rfl) rfl ?_
  refine ct_X11_isTongue (by omega) ?_
  show Wp _ _ _ (_ :: _) _ _ _
  refine Wp.if_eqB (tgt := 29) dX11_best_4 (by decide) (fun c4 => ?_) (fun c4 => ?_)
  · refine Wp.sipush rfl dX11_best_29 ?_
    refine Wp.ireturn dX11_best_32 rfl ?_
    first | (exfalso; omega) | (first | exact qI (hq _ (Eqv.rf I)) (by unfold aBest; (repeat' split) <;> first | (exfalso; omega) | rfl) | exact qI (hq _ (e0.tr eJ)) (by unfold aBest; rw [if_pos (by omega), if_pos (by omega), ← hb0]; exact tJ.2.2.2.1))
  · refine Wp.iload_n rfl dX11_best_7 ?_
    refine Wp.callS (As := [_]) (ls0 := [_]) (bd := (0, 0)) (bd' := (0, 0)) dX11_best_8 kmX11_isWord lkX11_162 (by decide) (by decide) (Nat.le_of_ble_eq_true rfl) rfl rfl (Nat.le_of_ble_eq_true rfl) rfl ?_
    refine ct_X11_isWord (by omega) ?_
    show Wp _ _ _ (_ :: _) _ _ _
    refine Wp.if_eqB (tgt := 29) dX11_best_11 (by decide) (fun c11 => ?_) (fun c11 => ?_)
    · refine Wp.sipush rfl dX11_best_29 ?_
      refine Wp.ireturn dX11_best_32 rfl ?_
      first | (exfalso; omega) | (first | exact qI (hq _ (Eqv.rf I)) (by unfold aBest; (repeat' split) <;> first | (exfalso; omega) | rfl) | exact qI (hq _ (e0.tr eJ)) (by unfold aBest; rw [if_pos (by omega), if_pos (by omega), ← hb0]; exact tJ.2.2.2.1))
    · refine Wp.iload_n rfl dX11_best_14 ?_
      refine Wp.callS (As := [_]) (ls0 := [_]) (bd := (0, 0)) (bd' := (0, 0)) dX11_best_15 kmX11_isTongue lkX11_94 (by decide) (by decide) (Nat.le_of_ble_eq_true rfl) rfl rfl (Nat.le_of_ble_eq_true rfl) rfl ?_
      refine ct_X11_isTongue (by omega) ?_
      show Wp _ _ _ (_ :: _) _ _ _
      refine Wp.if_eqB (tgt := 29) dX11_best_18 (by decide) (fun c18 => ?_) (fun c18 => ?_)
      · refine Wp.sipush rfl dX11_best_29 ?_
        refine Wp.ireturn dX11_best_32 rfl ?_
        first | (exfalso; omega) | (first | exact qI (hq _ (Eqv.rf I)) (by unfold aBest; (repeat' split) <;> first | (exfalso; omega) | rfl) | exact qI (hq _ (e0.tr eJ)) (by unfold aBest; rw [if_pos (by omega), if_pos (by omega), ← hb0]; exact tJ.2.2.2.1))
      · refine Wp.iload rfl dX11_best_21 ?_
        refine Wp.callS (As := [_]) (ls0 := [_]) (bd := (0, 0)) (bd' := (0, 0)) dX11_best_23 kmX11_isTongue lkX11_94 (by decide) (by decide) (Nat.le_of_ble_eq_true rfl) rfl rfl (Nat.le_of_ble_eq_true rfl) rfl ?_
        refine ct_X11_isTongue (by omega) ?_
        show Wp _ _ _ (_ :: _) _ _ _
        refine Wp.if_neB (tgt := 33) dX11_best_26 (by decide) (fun c26 => ?_) (fun c26 => ?_)
        · refine Wp.iload_n rfl dX11_best_33 ?_
          refine Wp.iload_n rfl dX11_best_34 ?_
          refine Wp.iload rfl dX11_best_35 ?_
          refine Wp.callS (As := [_, _, _]) (ls0 := [_, _, _]) (bd := (0, 0)) (bd' := (0, 0)) dX11_best_37 kmX11_differ lkX11_223 (by decide) (by decide) (Nat.le_of_ble_eq_true rfl) rfl rfl (Nat.le_of_ble_eq_true rfl) rfl ?_
          refine ct_X11_differ (by omega) (by omega) (by omega) ?_
          show Wp _ _ _ (_ :: _) _ _ _
          refine Wp.if_neB (tgt := 47) dX11_best_40 (by decide) (fun c40 => ?_) (fun c40 => ?_)
          · refine Wp.aload_n rfl dX11_best_47 ?_
            refine Wp.gr (kz := 3) rfl dX11_best_48 fkX11_33 (by first | rfl | exact kd_b0 _ | exact kd_b1 _ | exact kd_b2 _ | exact kd_b3 _ | exact kd_b4 _ | exact kd_b5 _ | exact kd_b6 _) (by omega) (by first | exact hFx _ 3 _ rfl | assumption | exact hBk.1 | exact hBk.2.1 | exact hBk.2.2.1 | exact hBk.2.2.2.1 | exact hBk.2.2.2.2.1 | exact hBk.2.2.2.2.2) ?_
            refine Wp.callV (As := []) (ls0 := [_]) (bd := (0, 0)) (bd' := (0, 0)) dX11_best_51 kmX10_begin lkX11_244 (by decide) (by decide) (Nat.le_of_ble_eq_true rfl) (by first | rfl | exact kd_b0 _ | exact kd_b1 _ | exact kd_b2 _ | exact kd_b3 _ | exact kd_b4 _ | exact kd_b5 _ | exact kd_b6 _) (by omega) rfl rfl (Nat.le_of_ble_eq_true rfl) rfl ?_
            refine ct_X10_begin hn ?_
            have e0 := Eqv_0 (I := I)
            have t0 := tSt_0 (I := I)
            generalize up (up (up (up (up I 6 2 0) 6 3 1) 6 4 0) 6 5 (-1)) 6 6 (-1) = I1 at e0 t0 ⊢
            have hS1 := ShR_cg e0 (EqvL.rf L) hS
            show Wp _ _ _ _ _ _ _
            refine Wp.aload_n rfl dX11_best_54 ?_
            refine Wp.gr (kz := 3) rfl dX11_best_55 fkX11_33 (by first | rfl | exact kd_b0 _ | exact kd_b1 _ | exact kd_b2 _ | exact kd_b3 _ | exact kd_b4 _ | exact kd_b5 _ | exact kd_b6 _) (by omega) (by first | exact hFx _ 3 _ rfl | assumption | exact hBk.1 | exact hBk.2.1 | exact hBk.2.2.1 | exact hBk.2.2.2.1 | exact hBk.2.2.2.2.1 | exact hBk.2.2.2.2.2) ?_
            refine Wp.aload_n rfl dX11_best_58 ?_
            refine Wp.gr (kz := 2) rfl dX11_best_59 fkX11_26 (by first | rfl | exact kd_b0 _ | exact kd_b1 _ | exact kd_b2 _ | exact kd_b3 _ | exact kd_b4 _ | exact kd_b5 _ | exact kd_b6 _) (by omega) (by first | exact hFx _ 2 _ rfl | assumption | exact hBk.1 | exact hBk.2.1 | exact hBk.2.2.1 | exact hBk.2.2.2.1 | exact hBk.2.2.2.2.1 | exact hBk.2.2.2.2.2) ?_
            refine Wp.iload_n rfl dX11_best_62 ?_
            refine Wp.iload_n rfl dX11_best_63 ?_
            refine Wp.iload_n rfl dX11_best_64 ?_
            refine Wp.iload rfl dX11_best_65 ?_
            refine Wp.callV (As := [_, _, _, _, _]) (ls0 := [_, _, _, _, _, _, _, _, _, _]) (bd := (0, 0)) (bd' := (0, 0)) dX11_best_67 kmX10_seek lkX11_247 (by decide) (by decide) (Nat.le_of_ble_eq_true rfl) (by first | rfl | exact kd_b0 _ | exact kd_b1 _ | exact kd_b2 _ | exact kd_b3 _ | exact kd_b4 _ | exact kd_b5 _ | exact kd_b6 _) (by omega) rfl rfl (Nat.le_of_ble_eq_true rfl) rfl ?_
            refine ct_X10_seek hS1 (by omega) (by omega) (by omega) (by omega) (by omega) (by unfold bOk; dsimp only; omega) t0 (fun J eJ tJ => ?_)
            rw [sekN_cg e0.se] at tJ
            show Wp _ _ _ _ _ _ _
            refine Wp.aload_n rfl dX11_best_70 ?_
            refine Wp.gr (kz := 3) rfl dX11_best_71 fkX11_33 (by first | rfl | exact kd_b0 _ | exact kd_b1 _ | exact kd_b2 _ | exact kd_b3 _ | exact kd_b4 _ | exact kd_b5 _ | exact kd_b6 _) (by omega) (by first | exact hFx _ 3 _ rfl | assumption | exact hBk.1 | exact hBk.2.1 | exact hBk.2.2.1 | exact hBk.2.2.2.1 | exact hBk.2.2.2.2.1 | exact hBk.2.2.2.2.2) ?_
            refine Wp.gi (kz := 5) rfl dX11_best_74 fkX11_251 (by first | rfl | exact kd_b0 _ | exact kd_b1 _ | exact kd_b2 _ | exact kd_b3 _ | exact kd_b4 _ | exact kd_b5 _ | exact kd_b6 _) (by omega) ?_
            refine Wp.ireturn dX11_best_77 rfl ?_
            first | (exfalso; omega) | (first | exact qI (hq _ (Eqv.rf I)) (by unfold aBest; (repeat' split) <;> first | (exfalso; omega) | rfl) | exact qI (hq _ (e0.tr eJ)) (by unfold aBest; rw [if_pos (by omega), if_pos (by omega), ← hb0]; exact tJ.2.2.2.1))
          · refine Wp.sipush rfl dX11_best_43 ?_
            refine Wp.ireturn dX11_best_46 rfl ?_
            first | (exfalso; omega) | (first | exact qI (hq _ (Eqv.rf I)) (by unfold aBest; (repeat' split) <;> first | (exfalso; omega) | rfl) | exact qI (hq _ (e0.tr eJ)) (by unfold aBest; rw [if_pos (by omega), if_pos (by omega), ← hb0]; exact tJ.2.2.2.1))
        · refine Wp.sipush rfl dX11_best_29 ?_
          refine Wp.ireturn dX11_best_32 rfl ?_
          first | (exfalso; omega) | (first | exact qI (hq _ (Eqv.rf I)) (by unfold aBest; (repeat' split) <;> first | (exfalso; omega) | rfl) | exact qI (hq _ (e0.tr eJ)) (by unfold aBest; rw [if_pos (by omega), if_pos (by omega), ← hb0]; exact tJ.2.2.2.1))
theorem ct_X11_bridge {a w c : Int} (hS : ShR I L R n) (ha : inR a) (hw : inR w) (hc : inR c) (hq : ∀ J, Eqv I J → Q (some (vi (aBridge I 255 a w c))) (J, L, R, n)) : Wp mX11_bridge 0 [some (vr (some 0)), some (vi a), some (vi w), some (vi c), none] [] (I, L, R, n) (0, 0) Q := by
  have hn := hS.1
  have hFx := hS.2.1
  have hW := hS.2.2.1
  have lp : ∀ (hab : (tgP a ∧ wdP w ∧ tgP c) ∧ a ≠ c) , ∀ (tt k : Nat) (z : Int) (J : Nat → Int → Int), k + tt = 4 → z = k → Eqv I J → tSt J (bgN I 255 a w c k) → Wp mX11_bridge 44 [some (vr (some 0)), some (vi a), some (vi w), some (vi c), some (vi z)] [] (J, L, R, n) (0, 0) Q := by
    intro hab
    intro tt
    induction tt with
    | zero =>
      intro k z J hkt hz e0 e1
      obtain rfl : k = 4 := by omega
      have hbb := bg_br hW 255 a c (w := w) (by omega) (by omega) 4 (by omega)
      refine Wp.iload rfl dX11_bridge_44 ?_
      refine Wp.iconst dX11_bridge_46 ?_
      refine Wp.icmp_ge (tgt := 82) dX11_bridge_47 (by decide) (by first | omega | exact bI_R _ | exact cmp_R _ _ | assumption) (by first | omega | exact bI_R _ | exact cmp_R _ _ | assumption) (fun c47 => ?_) (fun c47 => ?_)
      · refine Wp.aload_n rfl dX11_bridge_82 ?_
        refine Wp.gr (kz := 3) rfl dX11_bridge_83 fkX11_33 (by first | rfl | exact kd_b0 _ | exact kd_b1 _ | exact kd_b2 _ | exact kd_b3 _ | exact kd_b4 _ | exact kd_b5 _ | exact kd_b6 _) (by omega) (by first | exact hFx _ 3 _ rfl | assumption | exact hBk.1 | exact hBk.2.1 | exact hBk.2.2.1 | exact hBk.2.2.2.1 | exact hBk.2.2.2.2.1 | exact hBk.2.2.2.2.2) ?_
        refine Wp.gi (kz := 6) rfl dX11_bridge_86 fkX11_254 (by first | rfl | exact kd_b0 _ | exact kd_b1 _ | exact kd_b2 _ | exact kd_b3 _ | exact kd_b4 _ | exact kd_b5 _ | exact kd_b6 _) (by omega) ?_
        refine Wp.ireturn dX11_bridge_89 rfl ?_
        first | (exfalso; omega) | (exact qI (hq _ e0) (by unfold aBridge; rw [if_pos hab.1, if_neg hab.2, ← hbb.2.2.2]; exact e1.2.2.2.2))
      · exfalso; omega
    | succ tt ih =>
      intro k z J hkt hz e0 e1
      subst hz
      have hbb := bg_br hW 255 a c (w := w) (by omega) (by omega) k (by omega)
      have hSJ := ShR_cg e0 (EqvL.rf L) hS
      refine Wp.iload rfl dX11_bridge_44 ?_
      refine Wp.iconst dX11_bridge_46 ?_
      refine Wp.icmp_ge (tgt := 82) dX11_bridge_47 (by decide) (by first | omega | exact bI_R _ | exact cmp_R _ _ | assumption) (by first | omega | exact bI_R _ | exact cmp_R _ _ | assumption) (fun c47 => ?_) (fun c47 => ?_)
      · exfalso; omega
      · refine Wp.iload_n rfl dX11_bridge_50 ?_
        refine Wp.iload rfl dX11_bridge_51 ?_
        refine Wp.iload_n rfl dX11_bridge_53 ?_
        refine Wp.callS (As := [_, _, _]) (ls0 := [_, _, _]) (bd := (0, 0)) (bd' := (0, 0)) dX11_bridge_54 kmX11_differ lkX11_223 (by decide) (by decide) (Nat.le_of_ble_eq_true rfl) rfl rfl (Nat.le_of_ble_eq_true rfl) rfl ?_
        refine ct_X11_differ (by omega) (by omega) (by omega) ?_
        show Wp _ _ _ (_ :: _) _ _ _
        refine Wp.if_eqB (tgt := 76) dX11_bridge_57 (by decide) (fun c57 => ?_) (fun c57 => ?_)
        · refine Wp.iinc (ls' := [_, _, _, _, _]) rfl dX11_bridge_76 (by decide) rfl ?_
          refine Wp.goto (tgt := 44) dX11_bridge_79 (by decide) ?_
          first | exact ih (k + 1) _ _ (by omega) (by omega) (e0.tr eJ) (by simp only [bgN]; rw [if_pos c57]; exact tJ) | exact ih (k + 1) _ _ (by omega) (by omega) e0 (by simp only [bgN]; rw [if_neg c57]; exact e1)
        · refine Wp.aload_n rfl dX11_bridge_60 ?_
          refine Wp.gr (kz := 3) rfl dX11_bridge_61 fkX11_33 (by first | rfl | exact kd_b0 _ | exact kd_b1 _ | exact kd_b2 _ | exact kd_b3 _ | exact kd_b4 _ | exact kd_b5 _ | exact kd_b6 _) (by omega) (by first | exact hFx _ 3 _ rfl | assumption | exact hBk.1 | exact hBk.2.1 | exact hBk.2.2.1 | exact hBk.2.2.2.1 | exact hBk.2.2.2.2.1 | exact hBk.2.2.2.2.2) ?_
          refine Wp.aload_n rfl dX11_bridge_64 ?_
          refine Wp.gr (kz := 2) rfl dX11_bridge_65 fkX11_26 (by first | rfl | exact kd_b0 _ | exact kd_b1 _ | exact kd_b2 _ | exact kd_b3 _ | exact kd_b4 _ | exact kd_b5 _ | exact kd_b6 _) (by omega) (by first | exact hFx _ 2 _ rfl | assumption | exact hBk.1 | exact hBk.2.1 | exact hBk.2.2.1 | exact hBk.2.2.2.1 | exact hBk.2.2.2.2.1 | exact hBk.2.2.2.2.2) ?_
          refine Wp.iload_n rfl dX11_bridge_68 ?_
          refine Wp.iload_n rfl dX11_bridge_69 ?_
          refine Wp.iload rfl dX11_bridge_70 ?_
          refine Wp.iload_n rfl dX11_bridge_72 ?_
          refine Wp.callV (As := [_, _, _, _, _]) (ls0 := [_, _, _, _, _, _, _, _, _, _]) (bd := (0, 0)) (bd' := (0, 0)) dX11_bridge_73 kmX10_seek lkX11_247 (by decide) (by decide) (Nat.le_of_ble_eq_true rfl) (by first | rfl | exact kd_b0 _ | exact kd_b1 _ | exact kd_b2 _ | exact kd_b3 _ | exact kd_b4 _ | exact kd_b5 _ | exact kd_b6 _) (by omega) rfl rfl (Nat.le_of_ble_eq_true rfl) rfl ?_
          refine ct_X10_seek hSJ (by omega) (by omega) (by omega) (by omega) (by omega) ⟨hbb.2.1, hbb.2.2.1.1, hbb.2.2.1.2⟩ e1 (fun J2 eJ tJ => ?_)
          rw [sekN_cg e0.se] at tJ
          show Wp _ _ _ _ _ _ _
          refine Wp.iinc (ls' := [_, _, _, _, _]) rfl dX11_bridge_76 (by decide) rfl ?_
          refine Wp.goto (tgt := 44) dX11_bridge_79 (by decide) ?_
          first | exact ih (k + 1) _ _ (by omega) (by omega) (e0.tr eJ) (by simp only [bgN]; rw [if_pos c57]; exact tJ) | exact ih (k + 1) _ _ (by omega) (by omega) e0 (by simp only [bgN]; rw [if_neg c57]; exact e1)
  refine Wp.iload_n rfl dX11_bridge_0 ?_
  refine Wp.callS (As := [_]) (ls0 := [_]) (bd := (0, 0)) (bd' := (0, 0)) dX11_bridge_1 kmX11_isTongue lkX11_94 (by decide) (by decide) (Nat.le_of_ble_eq_true rfl) rfl rfl (Nat.le_of_ble_eq_true rfl) rfl ?_
  refine ct_X11_isTongue (by omega) ?_
  show Wp _ _ _ (_ :: _) _ _ _
  refine Wp.if_eqB (tgt := 21) dX11_bridge_4 (by decide) (fun c4 => ?_) (fun c4 => ?_)
  · refine Wp.sipush rfl dX11_bridge_21 ?_
    refine Wp.ireturn dX11_bridge_24 rfl ?_
    first | (exfalso; omega) | (exact qI (hq _ (Eqv.rf I)) (by unfold aBridge; (repeat' split) <;> first | (exfalso; omega) | rfl))
  · refine Wp.iload_n rfl dX11_bridge_7 ?_
    refine Wp.callS (As := [_]) (ls0 := [_]) (bd := (0, 0)) (bd' := (0, 0)) dX11_bridge_8 kmX11_isWord lkX11_162 (by decide) (by decide) (Nat.le_of_ble_eq_true rfl) rfl rfl (Nat.le_of_ble_eq_true rfl) rfl ?_
    refine ct_X11_isWord (by omega) ?_
    show Wp _ _ _ (_ :: _) _ _ _
    refine Wp.if_eqB (tgt := 21) dX11_bridge_11 (by decide) (fun c11 => ?_) (fun c11 => ?_)
    · refine Wp.sipush rfl dX11_bridge_21 ?_
      refine Wp.ireturn dX11_bridge_24 rfl ?_
      first | (exfalso; omega) | (exact qI (hq _ (Eqv.rf I)) (by unfold aBridge; (repeat' split) <;> first | (exfalso; omega) | rfl))
    · refine Wp.iload_n rfl dX11_bridge_14 ?_
      refine Wp.callS (As := [_]) (ls0 := [_]) (bd := (0, 0)) (bd' := (0, 0)) dX11_bridge_15 kmX11_isTongue lkX11_94 (by decide) (by decide) (Nat.le_of_ble_eq_true rfl) rfl rfl (Nat.le_of_ble_eq_true rfl) rfl ?_
      refine ct_X11_isTongue (by omega) ?_
      show Wp _ _ _ (_ :: _) _ _ _
      refine Wp.if_neB (tgt := 25) dX11_bridge_18 (by decide) (fun c18 => ?_) (fun c18 => ?_)
      · refine Wp.iload_n rfl dX11_bridge_25 ?_
        refine Wp.iload_n rfl dX11_bridge_26 ?_
        refine Wp.icmp_ne (tgt := 34) dX11_bridge_27 (by decide) (by first | omega | exact bI_R _ | exact cmp_R _ _ | assumption) (by first | omega | exact bI_R _ | exact cmp_R _ _ | assumption) (fun c27 => ?_) (fun c27 => ?_)
        · refine Wp.aload_n rfl dX11_bridge_34 ?_
          refine Wp.gr (kz := 3) rfl dX11_bridge_35 fkX11_33 (by first | rfl | exact kd_b0 _ | exact kd_b1 _ | exact kd_b2 _ | exact kd_b3 _ | exact kd_b4 _ | exact kd_b5 _ | exact kd_b6 _) (by omega) (by first | exact hFx _ 3 _ rfl | assumption | exact hBk.1 | exact hBk.2.1 | exact hBk.2.2.1 | exact hBk.2.2.2.1 | exact hBk.2.2.2.2.1 | exact hBk.2.2.2.2.2) ?_
          refine Wp.callV (As := []) (ls0 := [_]) (bd := (0, 0)) (bd' := (0, 0)) dX11_bridge_38 kmX10_begin lkX11_244 (by decide) (by decide) (Nat.le_of_ble_eq_true rfl) (by first | rfl | exact kd_b0 _ | exact kd_b1 _ | exact kd_b2 _ | exact kd_b3 _ | exact kd_b4 _ | exact kd_b5 _ | exact kd_b6 _) (by omega) rfl rfl (Nat.le_of_ble_eq_true rfl) rfl ?_
          refine ct_X10_begin hn ?_
          show Wp _ _ _ _ _ _ _
          refine Wp.iconst dX11_bridge_41 ?_
          refine Wp.istore (ls' := [_, _, _, _, _]) dX11_bridge_42 (by decide) rfl ?_
          exact lp ⟨⟨by omega, by omega, by omega⟩, by omega⟩ 4 0 _ _ (by omega) (by omega) Eqv_0 tSt_0
        · refine Wp.sipush rfl dX11_bridge_30 ?_
          refine Wp.ireturn dX11_bridge_33 rfl ?_
          first | (exfalso; omega) | (exact qI (hq _ (Eqv.rf I)) (by unfold aBridge; (repeat' split) <;> first | (exfalso; omega) | rfl))
      · refine Wp.sipush rfl dX11_bridge_21 ?_
        refine Wp.ireturn dX11_bridge_24 rfl ?_
        first | (exfalso; omega) | (exact qI (hq _ (Eqv.rf I)) (by unfold aBridge; (repeat' split) <;> first | (exfalso; omega) | rfl))
end

