/-! ===== the reference: the best, the bridge, lopsided, friends ===== -/
section
variable {I : Nat → Int → Int} {L : Nat → Int → BitVec 64} {R : Nat → Int → Option Nat} {n : Nat} {m : Mm} {Q : Option AV → Mm → Prop}
/-- the memory's best is the spec's -/
def bSt (J : Nat → Int → Int) (b : BS) : Prop := J 32 21 = b.1 ∧ (0 ≤ b.1 → J 32 22 = b.2.1 ∧ J 32 23 = b.2.2.1 ∧ J 32 24 = b.2.2.2)
def bOk (b : BS) : Prop := -1 ≤ b.1 ∧ b.1 < 60 ∧ 0 ≤ b.2.1 ∧ b.2.1 ≤ 120 ∧ 1 ≤ b.2.2.1 ∧ b.2.2.1 ≤ 120 ∧ 0 ≤ b.2.2.2 ∧ b.2.2.2 ≤ 540
theorem fbN_ok (hW : RW I) (lk a mm c : Int) {w : Int} (h0 : 0 ≤ w) (h1 : w < 60) : ∀ k : Nat, k ≤ 60 → bOk (fbN I lk a w mm c k)
  | 0, _ => by unfold bOk; simp [fbN]
  | k + 1, hk => by
    have ih := fbN_ok hW lk a mm c h0 h1 k (by omega)
    have hU := upr_B I lk a w mm c k
    have hL := lwr_B I lk a w mm c k
    have hw := wt_B hW lk a mm c k h0 h1
    simp only [fbN, fbS]
    split
    · unfold bOk; dsimp only; omega
    · exact ih
theorem prod_R {x y : Int} (hx0 : 0 ≤ x) (hx1 : x ≤ 120) (hy0 : 0 ≤ y) (hy1 : y ≤ 120) : 0 ≤ x * y ∧ x * y ≤ 14400 := by
  constructor
  · exact Int.mul_nonneg hx0 hy0
  · calc x * y ≤ 120 * y := Int.mul_le_mul_of_nonneg_right hx1 hy0
      _ ≤ 120 * 120 := Int.mul_le_mul_of_nonneg_left hy1 (by omega)
      _ = 14400 := by decide
theorem upr_cg {J : Nat → Int → Int} (h : SE I J) (lk a w mm c t : Int) : upr J lk a w mm c t = upr I lk a w mm c t := by unfold upr; rw [gv_cg h, gv_cg h]
theorem lwr_cg {J : Nat → Int → Int} (h : SE I J) (lk a w mm c t : Int) : lwr J lk a w mm c t = lwr I lk a w mm c t := by unfold lwr; rw [gv_cg h, gv_cg h]
theorem fbN_cg {J : Nat → Int → Int} (h : SE I J) (lk a w mm c : Int) : ∀ k, fbN J lk a w mm c k = fbN I lk a w mm c k
  | 0 => rfl
  | k + 1 => by
    have ih := fbN_cg h lk a w mm c k
    simp only [fbN, fbS, ih, wt_cg h, upr_cg h, lwr_cg h]
theorem bs_no {J : Nat → Int → Int} {X y b : BS} {c : Prop} [Decidable c] (hs : X = if c then y else b) (h : ¬ c) (hb : bSt J b) : bSt J X := by rw [hs, if_neg h]; exact hb
theorem bs_yes {J : Nat → Int → Int} {X y b : BS} {c : Prop} [Decidable c] (hs : X = if c then y else b) (h : c) (hb : bSt J y) : bSt J X := by rw [hs, if_pos h]; exact hb
set_option maxHeartbeats 1000000 in
theorem ct_X12_findBest {a w mm c : Int} (hn : 57 ≤ n) (hFx : Fx R) (hW : RW I) (ha : inR a) (hm : inR mm) (hc : inR c) (hw0 : 0 ≤ w) (hw1 : w < 60) (hq : ∀ J, Eqv I J → bSt J (fbN I (I 32 11) a w mm c 60) → Q none (J, L, R, n)) : Wp mX12_findBest 0 [some (vr (some 32)), some (vi a), some (vi w), some (vi mm), some (vi c), none, none, none] [] (I, L, R, n) (0, 0) Q := by
  have lp : ∀ (tt k : Nat) (z : Int) (J : Nat → Int → Int) (x6 : Option AV) (x7 : Option AV), k + tt = 60 → z = k → Eqv I J → bSt J (fbN I (I 32 11) a w mm c k) → Wp mX12_findBest 8 [some (vr (some 32)), some (vi a), some (vi w), some (vi mm), some (vi c), some (vi z), x6, x7] [] (J, L, R, n) (0, 0) Q := by
    intro tt
    induction tt with
    | zero =>
      intro k z J x6 x7 hkt hz e0 e1
      obtain rfl : k = 60 := by omega
      refine Wp.iload rfl dX12_findBest_8 ?_
      refine Wp.bipush rfl dX12_findBest_10 ?_
      refine Wp.icmp_ge (tgt := 129) dX12_findBest_12 (by decide) (by first | omega | exact bI_R _ | exact cmp_R _ _ | assumption) (by first | omega | exact bI_R _ | exact cmp_R _ _ | assumption) (fun c12 => ?_) (fun c12 => ?_)
      · refine Wp.vreturn dX12_findBest_129 rfl ?_
        first | (exfalso; omega) | (exact hq _ e0 e1)
      · exfalso; omega
    | succ tt ih =>
      intro k z J x6 x7 hkt hz e0 e1
      subst hz
      have hWJ := RW_cg e0.se hW
      have hok := fbN_ok hW (I 32 11) a mm c hw0 hw1 k (by omega)
      have hU := upr_B I (I 32 11) a w mm c k
      have hL := lwr_B I (I 32 11) a w mm c k
      have hwB := wt_B hW (I 32 11) a mm c k hw0 hw1
      have hwe : wt J (J 32 11) a w mm c k = wt I (I 32 11) a w mm c k := by rw [e0.lk, wt_cg e0.se]
      have hue : upr J (J 32 11) a w mm c k = upr I (I 32 11) a w mm c k := by unfold upr; rw [e0.lk, gv_cg e0.se, gv_cg e0.se]
      have hle : lwr J (J 32 11) a w mm c k = lwr I (I 32 11) a w mm c k := by unfold lwr; rw [e0.lk, gv_cg e0.se, gv_cg e0.se]
      have hstep : fbN I (I 32 11) a w mm c (k + 1) = fbS I (I 32 11) a w mm c (fbN I (I 32 11) a w mm c k) k := rfl
      generalize fbN I (I 32 11) a w mm c k = b at e1 hok hstep
      obtain ⟨b1, b2, b3, b4⟩ := b
      unfold bOk at hok
      dsimp only at hok
      unfold bSt at e1
      dsimp only at e1
      unfold fbS at hstep
      dsimp only at hstep
      generalize wt I (I 32 11) a w mm c k = W at *
      generalize upr I (I 32 11) a w mm c k = U at *
      generalize lwr I (I 32 11) a w mm c k = V at *
      have hp1 := prod_R hU.1 hU.2 (by omega : 0 ≤ b3) (by omega)
      have hp2 := prod_R (by omega : 0 ≤ b2) (by omega) (by omega : 0 ≤ V) (by omega)
      refine Wp.iload rfl dX12_findBest_8 ?_
      refine Wp.bipush rfl dX12_findBest_10 ?_
      refine Wp.icmp_ge (tgt := 129) dX12_findBest_12 (by decide) (by first | omega | exact bI_R _ | exact cmp_R _ _ | assumption) (by first | omega | exact bI_R _ | exact cmp_R _ _ | assumption) (fun c12 => ?_) (fun c12 => ?_)
      · exfalso; omega
      · refine Wp.aload_n rfl dX12_findBest_15 ?_
        refine Wp.iload_n rfl dX12_findBest_16 ?_
        refine Wp.iload_n rfl dX12_findBest_17 ?_
        refine Wp.iload_n rfl dX12_findBest_18 ?_
        refine Wp.iload rfl dX12_findBest_19 ?_
        refine Wp.iload rfl dX12_findBest_21 ?_
        refine Wp.callV (As := [_, _, _, _, _]) (ls0 := [_, _, _, _, _, _, _, _, _, _, _, _, _, _, _]) (bd := (0, 0)) (bd' := (0, 0)) dX12_findBest_23 kmX12_weightOf lkX12_212 (by decide) (by decide) (Nat.le_of_ble_eq_true rfl) (by first | rfl | exact kd_b0 _ | exact kd_b1 _ | exact kd_b2 _ | exact kd_b3 _ | exact kd_b4 _ | exact kd_b5 _ | exact kd_b6 _) (by omega) rfl rfl (Nat.le_of_ble_eq_true rfl) rfl ?_
        refine ct_X12_weightOf hn hFx hWJ (by omega) (by omega) (by omega) (by omega) (by omega) (by omega) (by omega) ?_
        show Wp _ _ _ (_ :: _) _ _ _
        rw [hwe]
        refine Wp.istore (ls' := [_, _, _, _, _, _, _, _]) dX12_findBest_26 (by decide) rfl ?_
        refine Wp.iload rfl dX12_findBest_28 ?_
        refine Wp.if_le (tgt := 123) dX12_findBest_30 (by decide) (by first | omega | exact bI_R _ | exact cmp_R _ _ | assumption) (fun c30 => ?_) (fun c30 => ?_)
        · refine Wp.iinc (ls' := [_, _, _, _, _, _, _, _]) rfl dX12_findBest_123 (by decide) rfl ?_
          refine Wp.goto (tgt := 8) dX12_findBest_126 (by decide) ?_
          first | exact ih (k + 1) _ J _ _ (by omega) (by omega) e0 (bs_no hstep (by omega) e1) | exact ih (k + 1) _ K _ _ (by omega) (by omega) (e0.tr hK) (bs_no hstep (by omega) ⟨show K 32 21 = b1 by omega, fun h => (have e13 := e1.2 h; (show K 32 22 = b2 ∧ K 32 23 = b3 ∧ K 32 24 = b4 by omega))⟩) | exact ih (k + 1) _ _ _ _ (by omega) (by omega) (((((e0.tr hK).wr (by unfold scr; omega)).wr (by unfold scr; omega)).wr (by unfold scr; omega)).wr (by unfold scr; omega)) (bs_yes hstep (by omega) ⟨by simp (disch := omega) only [up_same, up_k], fun _ => ⟨by simp (disch := omega) only [up_same, up_k]; exact hK1, by simp (disch := omega) only [up_same, up_k]; exact hK2, by simp (disch := omega) only [up_same, up_k]⟩⟩)
        · refine Wp.aload_n rfl dX12_findBest_33 ?_
          refine Wp.iload_n rfl dX12_findBest_34 ?_
          refine Wp.iload_n rfl dX12_findBest_35 ?_
          refine Wp.iload_n rfl dX12_findBest_36 ?_
          refine Wp.iload rfl dX12_findBest_37 ?_
          refine Wp.iload rfl dX12_findBest_39 ?_
          refine Wp.callV (As := [_, _, _, _, _]) (ls0 := [_, _, _, _, _, _, _, _, _, _]) (bd := (0, 0)) (bd' := (0, 0)) dX12_findBest_41 kmX12_findSure lkX12_222 (by decide) (by decide) (Nat.le_of_ble_eq_true rfl) (by first | rfl | exact kd_b0 _ | exact kd_b1 _ | exact kd_b2 _ | exact kd_b3 _ | exact kd_b4 _ | exact kd_b5 _ | exact kd_b6 _) (by omega) rfl rfl (Nat.le_of_ble_eq_true rfl) rfl ?_
          refine ct_X12_findSure hn hFx hWJ (by omega) (by omega) (by omega) (by omega) (by omega) (by omega) (by omega) (fun K hK hK1 hK2 hK3 => ?_)
          rw [hue] at hK1
          rw [hle] at hK2
          have q1 := hK3 21 (by omega)
          have q2 := hK3 22 (by omega)
          have q3 := hK3 23 (by omega)
          have q4 := hK3 24 (by omega)
          show Wp _ _ _ _ _ _ _
          refine Wp.aload_n rfl dX12_findBest_44 ?_
          refine Wp.gi (kz := 21) rfl dX12_findBest_45 fkX12_229 (by first | rfl | exact kd_b0 _ | exact kd_b1 _ | exact kd_b2 _ | exact kd_b3 _ | exact kd_b4 _ | exact kd_b5 _ | exact kd_b6 _) (by omega) ?_
          refine Wp.if_ge (tgt := 55) dX12_findBest_48 (by decide) (by first | omega | exact bI_R _ | exact cmp_R _ _ | assumption) (fun c48 => ?_) (fun c48 => ?_)
          · have e12 := e1.2 (by omega)
            refine Wp.aload_n rfl dX12_findBest_55 ?_
            refine Wp.gi (kz := 19) rfl dX12_findBest_56 fkX12_216 (by first | rfl | exact kd_b0 _ | exact kd_b1 _ | exact kd_b2 _ | exact kd_b3 _ | exact kd_b4 _ | exact kd_b5 _ | exact kd_b6 _) (by omega) ?_
            refine Wp.aload_n rfl dX12_findBest_59 ?_
            refine Wp.gi (kz := 23) rfl dX12_findBest_60 fkX12_232 (by first | rfl | exact kd_b0 _ | exact kd_b1 _ | exact kd_b2 _ | exact kd_b3 _ | exact kd_b4 _ | exact kd_b5 _ | exact kd_b6 _) (by omega) ?_
            refine Wp.imul dX12_findBest_63 ?_
            refine Wp.aload_n rfl dX12_findBest_64 ?_
            refine Wp.gi (kz := 22) rfl dX12_findBest_65 fkX12_235 (by first | rfl | exact kd_b0 _ | exact kd_b1 _ | exact kd_b2 _ | exact kd_b3 _ | exact kd_b4 _ | exact kd_b5 _ | exact kd_b6 _) (by omega) ?_
            refine Wp.aload_n rfl dX12_findBest_68 ?_
            refine Wp.gi (kz := 20) rfl dX12_findBest_69 fkX12_219 (by first | rfl | exact kd_b0 _ | exact kd_b1 _ | exact kd_b2 _ | exact kd_b3 _ | exact kd_b4 _ | exact kd_b5 _ | exact kd_b6 _) (by omega) ?_
            refine Wp.imul dX12_findBest_72 ?_
            rw [hK1, hK2, show K 32 22 = b2 by omega, show K 32 23 = b3 by omega]
            refine Wp.isub dX12_findBest_73 ?_
            refine Wp.istore (ls' := [_, _, _, _, _, _, _, _]) dX12_findBest_74 (by decide) rfl ?_
            refine Wp.iload rfl dX12_findBest_76 ?_
            refine Wp.if_gt (tgt := 95) dX12_findBest_78 (by decide) (by first | omega | exact bI_R _ | exact cmp_R _ _ | assumption) (fun c78 => ?_) (fun c78 => ?_)
            · refine Wp.aload_n rfl dX12_findBest_95 ?_
              refine Wp.iload rfl dX12_findBest_96 ?_
              refine Wp.pi (kz := 21) rfl dX12_findBest_98 fkX12_229 (Or.inl rfl) (Or.inl rfl) (by first | rfl | exact kd_b0 _ | exact kd_b1 _ | exact kd_b2 _ | exact kd_b3 _ | exact kd_b4 _ | exact kd_b5 _ | exact kd_b6 _) (by omega) ?_
              refine Wp.aload_n rfl dX12_findBest_101 ?_
              refine Wp.aload_n rfl dX12_findBest_102 ?_
              refine Wp.gi (kz := 19) rfl dX12_findBest_103 fkX12_216 (by first | rfl | exact kd_b0 _ | exact kd_b1 _ | exact kd_b2 _ | exact kd_b3 _ | exact kd_b4 _ | exact kd_b5 _ | exact kd_b6 _) (by omega) ?_
              try simp (disch := omega) only [up_same, up_o, up_k]
              refine Wp.pi (kz := 22) rfl dX12_findBest_106 fkX12_235 (Or.inl rfl) (Or.inl rfl) (by first | rfl | exact kd_b0 _ | exact kd_b1 _ | exact kd_b2 _ | exact kd_b3 _ | exact kd_b4 _ | exact kd_b5 _ | exact kd_b6 _) (by omega) ?_
              refine Wp.aload_n rfl dX12_findBest_109 ?_
              refine Wp.aload_n rfl dX12_findBest_110 ?_
              refine Wp.gi (kz := 20) rfl dX12_findBest_111 fkX12_219 (by first | rfl | exact kd_b0 _ | exact kd_b1 _ | exact kd_b2 _ | exact kd_b3 _ | exact kd_b4 _ | exact kd_b5 _ | exact kd_b6 _) (by omega) ?_
              try simp (disch := omega) only [up_same, up_o, up_k]
              refine Wp.pi (kz := 23) rfl dX12_findBest_114 fkX12_232 (Or.inl rfl) (Or.inl rfl) (by first | rfl | exact kd_b0 _ | exact kd_b1 _ | exact kd_b2 _ | exact kd_b3 _ | exact kd_b4 _ | exact kd_b5 _ | exact kd_b6 _) (by omega) ?_
              refine Wp.aload_n rfl dX12_findBest_117 ?_
              refine Wp.iload rfl dX12_findBest_118 ?_
              refine Wp.pi (kz := 24) rfl dX12_findBest_120 fkX12_238 (Or.inl rfl) (Or.inl rfl) (by first | rfl | exact kd_b0 _ | exact kd_b1 _ | exact kd_b2 _ | exact kd_b3 _ | exact kd_b4 _ | exact kd_b5 _ | exact kd_b6 _) (by omega) ?_
              refine Wp.iinc (ls' := [_, _, _, _, _, _, _, _]) rfl dX12_findBest_123 (by decide) rfl ?_
              refine Wp.goto (tgt := 8) dX12_findBest_126 (by decide) ?_
              first | exact ih (k + 1) _ J _ _ (by omega) (by omega) e0 (bs_no hstep (by omega) e1) | exact ih (k + 1) _ K _ _ (by omega) (by omega) (e0.tr hK) (bs_no hstep (by omega) ⟨show K 32 21 = b1 by omega, fun h => (have e13 := e1.2 h; (show K 32 22 = b2 ∧ K 32 23 = b3 ∧ K 32 24 = b4 by omega))⟩) | exact ih (k + 1) _ _ _ _ (by omega) (by omega) (((((e0.tr hK).wr (by unfold scr; omega)).wr (by unfold scr; omega)).wr (by unfold scr; omega)).wr (by unfold scr; omega)) (bs_yes hstep (by omega) ⟨by simp (disch := omega) only [up_same, up_k], fun _ => ⟨by simp (disch := omega) only [up_same, up_k]; exact hK1, by simp (disch := omega) only [up_same, up_k]; exact hK2, by simp (disch := omega) only [up_same, up_k]⟩⟩)
            · refine Wp.iload rfl dX12_findBest_81 ?_
              refine Wp.if_ne (tgt := 123) dX12_findBest_83 (by decide) (by first | omega | exact bI_R _ | exact cmp_R _ _ | assumption) (fun c83 => ?_) (fun c83 => ?_)
              · refine Wp.iinc (ls' := [_, _, _, _, _, _, _, _]) rfl dX12_findBest_123 (by decide) rfl ?_
                refine Wp.goto (tgt := 8) dX12_findBest_126 (by decide) ?_
                first | exact ih (k + 1) _ J _ _ (by omega) (by omega) e0 (bs_no hstep (by omega) e1) | exact ih (k + 1) _ K _ _ (by omega) (by omega) (e0.tr hK) (bs_no hstep (by omega) ⟨show K 32 21 = b1 by omega, fun h => (have e13 := e1.2 h; (show K 32 22 = b2 ∧ K 32 23 = b3 ∧ K 32 24 = b4 by omega))⟩) | exact ih (k + 1) _ _ _ _ (by omega) (by omega) (((((e0.tr hK).wr (by unfold scr; omega)).wr (by unfold scr; omega)).wr (by unfold scr; omega)).wr (by unfold scr; omega)) (bs_yes hstep (by omega) ⟨by simp (disch := omega) only [up_same, up_k], fun _ => ⟨by simp (disch := omega) only [up_same, up_k]; exact hK1, by simp (disch := omega) only [up_same, up_k]; exact hK2, by simp (disch := omega) only [up_same, up_k]⟩⟩)
              · refine Wp.iload rfl dX12_findBest_86 ?_
                refine Wp.aload_n rfl dX12_findBest_88 ?_
                refine Wp.gi (kz := 24) rfl dX12_findBest_89 fkX12_238 (by first | rfl | exact kd_b0 _ | exact kd_b1 _ | exact kd_b2 _ | exact kd_b3 _ | exact kd_b4 _ | exact kd_b5 _ | exact kd_b6 _) (by omega) ?_
                refine Wp.icmp_le (tgt := 123) dX12_findBest_92 (by decide) (by first | omega | exact bI_R _ | exact cmp_R _ _ | assumption) (by first | omega | exact bI_R _ | exact cmp_R _ _ | assumption) (fun c92 => ?_) (fun c92 => ?_)
                · refine Wp.iinc (ls' := [_, _, _, _, _, _, _, _]) rfl dX12_findBest_123 (by decide) rfl ?_
                  refine Wp.goto (tgt := 8) dX12_findBest_126 (by decide) ?_
                  first | exact ih (k + 1) _ J _ _ (by omega) (by omega) e0 (bs_no hstep (by omega) e1) | exact ih (k + 1) _ K _ _ (by omega) (by omega) (e0.tr hK) (bs_no hstep (by omega) ⟨show K 32 21 = b1 by omega, fun h => (have e13 := e1.2 h; (show K 32 22 = b2 ∧ K 32 23 = b3 ∧ K 32 24 = b4 by omega))⟩) | exact ih (k + 1) _ _ _ _ (by omega) (by omega) (((((e0.tr hK).wr (by unfold scr; omega)).wr (by unfold scr; omega)).wr (by unfold scr; omega)).wr (by unfold scr; omega)) (bs_yes hstep (by omega) ⟨by simp (disch := omega) only [up_same, up_k], fun _ => ⟨by simp (disch := omega) only [up_same, up_k]; exact hK1, by simp (disch := omega) only [up_same, up_k]; exact hK2, by simp (disch := omega) only [up_same, up_k]⟩⟩)
                · refine Wp.aload_n rfl dX12_findBest_95 ?_
                  refine Wp.iload rfl dX12_findBest_96 ?_
                  refine Wp.pi (kz := 21) rfl dX12_findBest_98 fkX12_229 (Or.inl rfl) (Or.inl rfl) (by first | rfl | exact kd_b0 _ | exact kd_b1 _ | exact kd_b2 _ | exact kd_b3 _ | exact kd_b4 _ | exact kd_b5 _ | exact kd_b6 _) (by omega) ?_
                  refine Wp.aload_n rfl dX12_findBest_101 ?_
                  refine Wp.aload_n rfl dX12_findBest_102 ?_
                  refine Wp.gi (kz := 19) rfl dX12_findBest_103 fkX12_216 (by first | rfl | exact kd_b0 _ | exact kd_b1 _ | exact kd_b2 _ | exact kd_b3 _ | exact kd_b4 _ | exact kd_b5 _ | exact kd_b6 _) (by omega) ?_
                  try simp (disch := omega) only [up_same, up_o, up_k]
                  refine Wp.pi (kz := 22) rfl dX12_findBest_106 fkX12_235 (Or.inl rfl) (Or.inl rfl) (by first | rfl | exact kd_b0 _ | exact kd_b1 _ | exact kd_b2 _ | exact kd_b3 _ | exact kd_b4 _ | exact kd_b5 _ | exact kd_b6 _) (by omega) ?_
                  refine Wp.aload_n rfl dX12_findBest_109 ?_
                  refine Wp.aload_n rfl dX12_findBest_110 ?_
                  refine Wp.gi (kz := 20) rfl dX12_findBest_111 fkX12_219 (by first | rfl | exact kd_b0 _ | exact kd_b1 _ | exact kd_b2 _ | exact kd_b3 _ | exact kd_b4 _ | exact kd_b5 _ | exact kd_b6 _) (by omega) ?_
                  try simp (disch := omega) only [up_same, up_o, up_k]
                  refine Wp.pi (kz := 23) rfl dX12_findBest_114 fkX12_232 (Or.inl rfl) (Or.inl rfl) (by first | rfl | exact kd_b0 _ | exact kd_b1 _ | exact kd_b2 _ | exact kd_b3 _ | exact kd_b4 _ | exact kd_b5 _ | exact kd_b6 _) (by omega) ?_
                  refine Wp.aload_n rfl dX12_findBest_117 ?_
                  refine Wp.iload rfl dX12_findBest_118 ?_
                  refine Wp.pi (kz := 24) rfl dX12_findBest_120 fkX12_238 (Or.inl rfl) (Or.inl rfl) (by first | rfl | exact kd_b0 _ | exact kd_b1 _ | exact kd_b2 _ | exact kd_b3 _ | exact kd_b4 _ | exact kd_b5 _ | exact kd_b6 _) (by omega) ?_
                  refine Wp.iinc (ls' := [_, _, _, _, _, _, _, _]) rfl dX12_findBest_123 (by decide) rfl ?_
                  refine Wp.goto (tgt := 8) dX12_findBest_126 (by decide) ?_
                  first | exact ih (k + 1) _ J _ _ (by omega) (by omega) e0 (bs_no hstep (by omega) e1) | exact ih (k + 1) _ K _ _ (by omega) (by omega) (e0.tr hK) (bs_no hstep (by omega) ⟨show K 32 21 = b1 by omega, fun h => (have e13 := e1.2 h; (show K 32 22 = b2 ∧ K 32 23 = b3 ∧ K 32 24 = b4 by omega))⟩) | exact ih (k + 1) _ _ _ _ (by omega) (by omega) (((((e0.tr hK).wr (by unfold scr; omega)).wr (by unfold scr; omega)).wr (by unfold scr; omega)).wr (by unfold scr; omega)) (bs_yes hstep (by omega) ⟨by simp (disch := omega) only [up_same, up_k], fun _ => ⟨by simp (disch := omega) only [up_same, up_k]; exact hK1, by simp (disch := omega) only [up_same, up_k]; exact hK2, by simp (disch := omega) only [up_same, up_k]⟩⟩)
          · refine Wp.iconst dX12_findBest_51 ?_
            refine Wp.goto (tgt := 74) dX12_findBest_52 (by decide) ?_
            refine Wp.istore (ls' := [_, _, _, _, _, _, _, _]) dX12_findBest_74 (by decide) rfl ?_
            refine Wp.iload rfl dX12_findBest_76 ?_
            refine Wp.if_gt (tgt := 95) dX12_findBest_78 (by decide) (by first | omega | exact bI_R _ | exact cmp_R _ _ | assumption) (fun c78 => ?_) (fun c78 => ?_)
            · refine Wp.aload_n rfl dX12_findBest_95 ?_
              refine Wp.iload rfl dX12_findBest_96 ?_
              refine Wp.pi (kz := 21) rfl dX12_findBest_98 fkX12_229 (Or.inl rfl) (Or.inl rfl) (by first | rfl | exact kd_b0 _ | exact kd_b1 _ | exact kd_b2 _ | exact kd_b3 _ | exact kd_b4 _ | exact kd_b5 _ | exact kd_b6 _) (by omega) ?_
              refine Wp.aload_n rfl dX12_findBest_101 ?_
              refine Wp.aload_n rfl dX12_findBest_102 ?_
              refine Wp.gi (kz := 19) rfl dX12_findBest_103 fkX12_216 (by first | rfl | exact kd_b0 _ | exact kd_b1 _ | exact kd_b2 _ | exact kd_b3 _ | exact kd_b4 _ | exact kd_b5 _ | exact kd_b6 _) (by omega) ?_
              try simp (disch := omega) only [up_same, up_o, up_k]
              refine Wp.pi (kz := 22) rfl dX12_findBest_106 fkX12_235 (Or.inl rfl) (Or.inl rfl) (by first | rfl | exact kd_b0 _ | exact kd_b1 _ | exact kd_b2 _ | exact kd_b3 _ | exact kd_b4 _ | exact kd_b5 _ | exact kd_b6 _) (by omega) ?_
              refine Wp.aload_n rfl dX12_findBest_109 ?_
              refine Wp.aload_n rfl dX12_findBest_110 ?_
              refine Wp.gi (kz := 20) rfl dX12_findBest_111 fkX12_219 (by first | rfl | exact kd_b0 _ | exact kd_b1 _ | exact kd_b2 _ | exact kd_b3 _ | exact kd_b4 _ | exact kd_b5 _ | exact kd_b6 _) (by omega) ?_
              try simp (disch := omega) only [up_same, up_o, up_k]
              refine Wp.pi (kz := 23) rfl dX12_findBest_114 fkX12_232 (Or.inl rfl) (Or.inl rfl) (by first | rfl | exact kd_b0 _ | exact kd_b1 _ | exact kd_b2 _ | exact kd_b3 _ | exact kd_b4 _ | exact kd_b5 _ | exact kd_b6 _) (by omega) ?_
              refine Wp.aload_n rfl dX12_findBest_117 ?_
              refine Wp.iload rfl dX12_findBest_118 ?_
              refine Wp.pi (kz := 24) rfl dX12_findBest_120 fkX12_238 (Or.inl rfl) (Or.inl rfl) (by first | rfl | exact kd_b0 _ | exact kd_b1 _ | exact kd_b2 _ | exact kd_b3 _ | exact kd_b4 _ | exact kd_b5 _ | exact kd_b6 _) (by omega) ?_
              refine Wp.iinc (ls' := [_, _, _, _, _, _, _, _]) rfl dX12_findBest_123 (by decide) rfl ?_
              refine Wp.goto (tgt := 8) dX12_findBest_126 (by decide) ?_
              first | exact ih (k + 1) _ J _ _ (by omega) (by omega) e0 (bs_no hstep (by omega) e1) | exact ih (k + 1) _ K _ _ (by omega) (by omega) (e0.tr hK) (bs_no hstep (by omega) ⟨show K 32 21 = b1 by omega, fun h => (have e13 := e1.2 h; (show K 32 22 = b2 ∧ K 32 23 = b3 ∧ K 32 24 = b4 by omega))⟩) | exact ih (k + 1) _ _ _ _ (by omega) (by omega) (((((e0.tr hK).wr (by unfold scr; omega)).wr (by unfold scr; omega)).wr (by unfold scr; omega)).wr (by unfold scr; omega)) (bs_yes hstep (by omega) ⟨by simp (disch := omega) only [up_same, up_k], fun _ => ⟨by simp (disch := omega) only [up_same, up_k]; exact hK1, by simp (disch := omega) only [up_same, up_k]; exact hK2, by simp (disch := omega) only [up_same, up_k]⟩⟩)
            · refine Wp.iload rfl dX12_findBest_81 ?_
              refine Wp.if_ne (tgt := 123) dX12_findBest_83 (by decide) (by first | omega | exact bI_R _ | exact cmp_R _ _ | assumption) (fun c83 => ?_) (fun c83 => ?_)
              · refine Wp.iinc (ls' := [_, _, _, _, _, _, _, _]) rfl dX12_findBest_123 (by decide) rfl ?_
                refine Wp.goto (tgt := 8) dX12_findBest_126 (by decide) ?_
                first | exact ih (k + 1) _ J _ _ (by omega) (by omega) e0 (bs_no hstep (by omega) e1) | exact ih (k + 1) _ K _ _ (by omega) (by omega) (e0.tr hK) (bs_no hstep (by omega) ⟨show K 32 21 = b1 by omega, fun h => (have e13 := e1.2 h; (show K 32 22 = b2 ∧ K 32 23 = b3 ∧ K 32 24 = b4 by omega))⟩) | exact ih (k + 1) _ _ _ _ (by omega) (by omega) (((((e0.tr hK).wr (by unfold scr; omega)).wr (by unfold scr; omega)).wr (by unfold scr; omega)).wr (by unfold scr; omega)) (bs_yes hstep (by omega) ⟨by simp (disch := omega) only [up_same, up_k], fun _ => ⟨by simp (disch := omega) only [up_same, up_k]; exact hK1, by simp (disch := omega) only [up_same, up_k]; exact hK2, by simp (disch := omega) only [up_same, up_k]⟩⟩)
              · refine Wp.iload rfl dX12_findBest_86 ?_
                refine Wp.aload_n rfl dX12_findBest_88 ?_
                refine Wp.gi (kz := 24) rfl dX12_findBest_89 fkX12_238 (by first | rfl | exact kd_b0 _ | exact kd_b1 _ | exact kd_b2 _ | exact kd_b3 _ | exact kd_b4 _ | exact kd_b5 _ | exact kd_b6 _) (by omega) ?_
                refine Wp.icmp_le (tgt := 123) dX12_findBest_92 (by decide) (by first | omega | exact bI_R _ | exact cmp_R _ _ | assumption) (by first | omega | exact bI_R _ | exact cmp_R _ _ | assumption) (fun c92 => ?_) (fun c92 => ?_)
                · refine Wp.iinc (ls' := [_, _, _, _, _, _, _, _]) rfl dX12_findBest_123 (by decide) rfl ?_
                  refine Wp.goto (tgt := 8) dX12_findBest_126 (by decide) ?_
                  first | exact ih (k + 1) _ J _ _ (by omega) (by omega) e0 (bs_no hstep (by omega) e1) | exact ih (k + 1) _ K _ _ (by omega) (by omega) (e0.tr hK) (bs_no hstep (by omega) ⟨show K 32 21 = b1 by omega, fun h => (have e13 := e1.2 h; (show K 32 22 = b2 ∧ K 32 23 = b3 ∧ K 32 24 = b4 by omega))⟩) | exact ih (k + 1) _ _ _ _ (by omega) (by omega) (((((e0.tr hK).wr (by unfold scr; omega)).wr (by unfold scr; omega)).wr (by unfold scr; omega)).wr (by unfold scr; omega)) (bs_yes hstep (by omega) ⟨by simp (disch := omega) only [up_same, up_k], fun _ => ⟨by simp (disch := omega) only [up_same, up_k]; exact hK1, by simp (disch := omega) only [up_same, up_k]; exact hK2, by simp (disch := omega) only [up_same, up_k]⟩⟩)
                · refine Wp.aload_n rfl dX12_findBest_95 ?_
                  refine Wp.iload rfl dX12_findBest_96 ?_
                  refine Wp.pi (kz := 21) rfl dX12_findBest_98 fkX12_229 (Or.inl rfl) (Or.inl rfl) (by first | rfl | exact kd_b0 _ | exact kd_b1 _ | exact kd_b2 _ | exact kd_b3 _ | exact kd_b4 _ | exact kd_b5 _ | exact kd_b6 _) (by omega) ?_
                  refine Wp.aload_n rfl dX12_findBest_101 ?_
                  refine Wp.aload_n rfl dX12_findBest_102 ?_
                  refine Wp.gi (kz := 19) rfl dX12_findBest_103 fkX12_216 (by first | rfl | exact kd_b0 _ | exact kd_b1 _ | exact kd_b2 _ | exact kd_b3 _ | exact kd_b4 _ | exact kd_b5 _ | exact kd_b6 _) (by omega) ?_
                  try simp (disch := omega) only [up_same, up_o, up_k]
                  refine Wp.pi (kz := 22) rfl dX12_findBest_106 fkX12_235 (Or.inl rfl) (Or.inl rfl) (by first | rfl | exact kd_b0 _ | exact kd_b1 _ | exact kd_b2 _ | exact kd_b3 _ | exact kd_b4 _ | exact kd_b5 _ | exact kd_b6 _) (by omega) ?_
                  refine Wp.aload_n rfl dX12_findBest_109 ?_
                  refine Wp.aload_n rfl dX12_findBest_110 ?_
                  refine Wp.gi (kz := 20) rfl dX12_findBest_111 fkX12_219 (by first | rfl | exact kd_b0 _ | exact kd_b1 _ | exact kd_b2 _ | exact kd_b3 _ | exact kd_b4 _ | exact kd_b5 _ | exact kd_b6 _) (by omega) ?_
                  try simp (disch := omega) only [up_same, up_o, up_k]
                  refine Wp.pi (kz := 23) rfl dX12_findBest_114 fkX12_232 (Or.inl rfl) (Or.inl rfl) (by first | rfl | exact kd_b0 _ | exact kd_b1 _ | exact kd_b2 _ | exact kd_b3 _ | exact kd_b4 _ | exact kd_b5 _ | exact kd_b6 _) (by omega) ?_
                  refine Wp.aload_n rfl dX12_findBest_117 ?_
                  refine Wp.iload rfl dX12_findBest_118 ?_
                  refine Wp.pi (kz := 24) rfl dX12_findBest_120 fkX12_238 (Or.inl rfl) (Or.inl rfl) (by first | rfl | exact kd_b0 _ | exact kd_b1 _ | exact kd_b2 _ | exact kd_b3 _ | exact kd_b4 _ | exact kd_b5 _ | exact kd_b6 _) (by omega) ?_
                  refine Wp.iinc (ls' := [_, _, _, _, _, _, _, _]) rfl dX12_findBest_123 (by decide) rfl ?_
                  refine Wp.goto (tgt := 8) dX12_findBest_126 (by decide) ?_
                  first | exact ih (k + 1) _ J _ _ (by omega) (by omega) e0 (bs_no hstep (by omega) e1) | exact ih (k + 1) _ K _ _ (by omega) (by omega) (e0.tr hK) (bs_no hstep (by omega) ⟨show K 32 21 = b1 by omega, fun h => (have e13 := e1.2 h; (show K 32 22 = b2 ∧ K 32 23 = b3 ∧ K 32 24 = b4 by omega))⟩) | exact ih (k + 1) _ _ _ _ (by omega) (by omega) (((((e0.tr hK).wr (by unfold scr; omega)).wr (by unfold scr; omega)).wr (by unfold scr; omega)).wr (by unfold scr; omega)) (bs_yes hstep (by omega) ⟨by simp (disch := omega) only [up_same, up_k], fun _ => ⟨by simp (disch := omega) only [up_same, up_k]; exact hK1, by simp (disch := omega) only [up_same, up_k]; exact hK2, by simp (disch := omega) only [up_same, up_k]⟩⟩)
  refine Wp.aload_n rfl dX12_findBest_0 ?_
  refine Wp.iconst dX12_findBest_1 ?_
  refine Wp.pi (kz := 21) rfl dX12_findBest_2 fkX12_229 (Or.inl rfl) (Or.inl rfl) (by first | rfl | exact kd_b0 _ | exact kd_b1 _ | exact kd_b2 _ | exact kd_b3 _ | exact kd_b4 _ | exact kd_b5 _ | exact kd_b6 _) (by omega) ?_
  refine Wp.iconst dX12_findBest_5 ?_
  refine Wp.istore (ls' := [_, _, _, _, _, _, _, _]) dX12_findBest_6 (by decide) rfl ?_
  exact lp 60 0 _ _ _ _ (by omega) (by omega) ((Eqv.rf I).wr (by unfold scr; omega)) ⟨by rw [up_same]; rfl, fun h => absurd (show (0 : Int) ≤ -1 from h) (by decide)⟩
theorem ct_X12_best {a w mm c : Int} (hn : 57 ≤ n) (hFx : Fx R) (hW : RW I) (ha : inR a) (hw : inR w) (hm : inR mm) (hc : inR c) (hq : ∀ J, Eqv I J → Q (some (vi (aBest I (I 32 11) a w mm c))) (J, L, R, n)) : Wp mX12_best 0 [some (vr (some 32)), some (vi a), some (vi w), some (vi mm), some (vi c)] [] (I, L, R, n) (0, 0) Q := by
  refine Wp.iload_n rfl dX12_best_0 ?_
  refine Wp.callS (As := [_]) (ls0 := [_]) (bd := (0, 0)) (bd' := (0, 0)) dX12_best_1 kmX12_isTongue lkX12_147 (by decide) (by decide) (Nat.le_of_ble_eq_true rfl) rfl rfl (Nat.le_of_ble_eq_true rfl) rfl ?_
  refine ct_X12_isTongue (by omega) ?_
  show Wp _ _ _ (_ :: _) _ _ _
  refine Wp.if_eqB (tgt := 29) dX12_best_4 (by decide) (fun c4 => ?_) (fun c4 => ?_)
  · refine Wp.sipush rfl dX12_best_29 ?_
    refine Wp.ireturn dX12_best_32 rfl ?_
    first | (exfalso; omega) | (first | exact qI (hq _ (Eqv.rf I)) (by unfold aBest; (repeat' split) <;> first | rfl | (exfalso; omega)) | exact qI (hq _ hJ) (by unfold aBest; rw [if_pos (by omega), if_pos (by omega)]; exact hb.1))
  · refine Wp.iload_n rfl dX12_best_7 ?_
    refine Wp.callS (As := [_]) (ls0 := [_]) (bd := (0, 0)) (bd' := (0, 0)) dX12_best_8 kmX12_isWord lkX12_182 (by decide) (by decide) (Nat.le_of_ble_eq_true rfl) rfl rfl (Nat.le_of_ble_eq_true rfl) rfl ?_
    refine ct_X12_isWord (by omega) ?_
    show Wp _ _ _ (_ :: _) _ _ _
    refine Wp.if_eqB (tgt := 29) dX12_best_11 (by decide) (fun c11 => ?_) (fun c11 => ?_)
    · refine Wp.sipush rfl dX12_best_29 ?_
      refine Wp.ireturn dX12_best_32 rfl ?_
      first | (exfalso; omega) | (first | exact qI (hq _ (Eqv.rf I)) (by unfold aBest; (repeat' split) <;> first | rfl | (exfalso; omega)) | exact qI (hq _ hJ) (by unfold aBest; rw [if_pos (by omega), if_pos (by omega)]; exact hb.1))
    · refine Wp.iload_n rfl dX12_best_14 ?_
      refine Wp.callS (As := [_]) (ls0 := [_]) (bd := (0, 0)) (bd' := (0, 0)) dX12_best_15 kmX12_isTongue lkX12_147 (by decide) (by decide) (Nat.le_of_ble_eq_true rfl) rfl rfl (Nat.le_of_ble_eq_true rfl) rfl ?_
      refine ct_X12_isTongue (by omega) ?_
      show Wp _ _ _ (_ :: _) _ _ _
      refine Wp.if_eqB (tgt := 29) dX12_best_18 (by decide) (fun c18 => ?_) (fun c18 => ?_)
      · refine Wp.sipush rfl dX12_best_29 ?_
        refine Wp.ireturn dX12_best_32 rfl ?_
        first | (exfalso; omega) | (first | exact qI (hq _ (Eqv.rf I)) (by unfold aBest; (repeat' split) <;> first | rfl | (exfalso; omega)) | exact qI (hq _ hJ) (by unfold aBest; rw [if_pos (by omega), if_pos (by omega)]; exact hb.1))
      · refine Wp.iload rfl dX12_best_21 ?_
        refine Wp.callS (As := [_]) (ls0 := [_]) (bd := (0, 0)) (bd' := (0, 0)) dX12_best_23 kmX12_isTongue lkX12_147 (by decide) (by decide) (Nat.le_of_ble_eq_true rfl) rfl rfl (Nat.le_of_ble_eq_true rfl) rfl ?_
        refine ct_X12_isTongue (by omega) ?_
        show Wp _ _ _ (_ :: _) _ _ _
        refine Wp.if_neB (tgt := 33) dX12_best_26 (by decide) (fun c26 => ?_) (fun c26 => ?_)
        · refine Wp.iload_n rfl dX12_best_33 ?_
          refine Wp.iload_n rfl dX12_best_34 ?_
          refine Wp.iload rfl dX12_best_35 ?_
          refine Wp.callS (As := [_, _, _]) (ls0 := [_, _, _]) (bd := (0, 0)) (bd' := (0, 0)) dX12_best_37 kmX12_areApart lkX12_208 (by decide) (by decide) (Nat.le_of_ble_eq_true rfl) rfl rfl (Nat.le_of_ble_eq_true rfl) rfl ?_
          refine ct_X12_areApart (by omega) (by omega) (by omega) ?_
          show Wp _ _ _ (_ :: _) _ _ _
          refine Wp.if_neB (tgt := 47) dX12_best_40 (by decide) (fun c40 => ?_) (fun c40 => ?_)
          · refine Wp.aload_n rfl dX12_best_47 ?_
            refine Wp.iload_n rfl dX12_best_48 ?_
            refine Wp.iload_n rfl dX12_best_49 ?_
            refine Wp.iload_n rfl dX12_best_50 ?_
            refine Wp.iload rfl dX12_best_51 ?_
            refine Wp.callV (As := [_, _, _, _]) (ls0 := [_, _, _, _, _, _, _, _]) (bd := (0, 0)) (bd' := (0, 0)) dX12_best_53 kmX12_findBest lkX12_241 (by decide) (by decide) (Nat.le_of_ble_eq_true rfl) (by first | rfl | exact kd_b0 _ | exact kd_b1 _ | exact kd_b2 _ | exact kd_b3 _ | exact kd_b4 _ | exact kd_b5 _ | exact kd_b6 _) (by omega) rfl rfl (Nat.le_of_ble_eq_true rfl) rfl ?_
            refine ct_X12_findBest hn hFx hW (by omega) (by omega) (by omega) (by omega) (by omega) (fun J hJ hb => ?_)
            show Wp _ _ _ _ _ _ _
            refine Wp.aload_n rfl dX12_best_56 ?_
            refine Wp.gi (kz := 21) rfl dX12_best_57 fkX12_229 (by first | rfl | exact kd_b0 _ | exact kd_b1 _ | exact kd_b2 _ | exact kd_b3 _ | exact kd_b4 _ | exact kd_b5 _ | exact kd_b6 _) (by omega) ?_
            refine Wp.ireturn dX12_best_60 rfl ?_
            first | (exfalso; omega) | (first | exact qI (hq _ (Eqv.rf I)) (by unfold aBest; (repeat' split) <;> first | rfl | (exfalso; omega)) | exact qI (hq _ hJ) (by unfold aBest; rw [if_pos (by omega), if_pos (by omega)]; exact hb.1))
          · refine Wp.sipush rfl dX12_best_43 ?_
            refine Wp.ireturn dX12_best_46 rfl ?_
            first | (exfalso; omega) | (first | exact qI (hq _ (Eqv.rf I)) (by unfold aBest; (repeat' split) <;> first | rfl | (exfalso; omega)) | exact qI (hq _ hJ) (by unfold aBest; rw [if_pos (by omega), if_pos (by omega)]; exact hb.1))
        · refine Wp.sipush rfl dX12_best_29 ?_
          refine Wp.ireturn dX12_best_32 rfl ?_
          first | (exfalso; omega) | (first | exact qI (hq _ (Eqv.rf I)) (by unfold aBest; (repeat' split) <;> first | rfl | (exfalso; omega)) | exact qI (hq _ hJ) (by unfold aBest; rw [if_pos (by omega), if_pos (by omega)]; exact hb.1))
end

