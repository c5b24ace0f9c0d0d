/-! ===== the class: promises 21, 25 ===== -/
section
variable {I J K : Nat → Int → Int} {L : Nat → Int → BitVec 64} {R : Nat → Int → Option Nat} {n k : Nat} {m : Mm} {Q : Option AV → Mm → Prop} {b : Int} {S : Nat}
theorem OvS_cg (h : ∀ (o : Nat) (z : Int), ¬ (22 ≤ o ∧ o ≤ 25) → K o z = J o z) (hO : OvS I J b S) : OvS I K b S := by
  refine ⟨fun o z ho => ?_, by rw [h 19 6 (by omega)]; exact hO.2.1, by rw [h 19 7 (by omega)]; exact hO.2.2.1, fun i c hi hc => ?_⟩
  · by_cases h1 : 22 ≤ o ∧ o ≤ 25
    · exact absurd (show scr o z by unfold scr; omega) ho
    · rw [h o z h1]; exact hO.1 o z ho
  · have := hO.2.2.2 i c hi hc
    unfold slP at this ⊢
    rw [h 20 _ (by omega), h 21 _ (by omega)]
    exact this
theorem up_out {o : Nat} {z v : Int} (ho : 22 ≤ o ∧ o ≤ 25) : ∀ (o' : Nat) (z' : Int), ¬ (22 ≤ o' ∧ o' ≤ 25) → up J o z v o' z' = J o' z' := fun o' z' h => up_o _ _ _ _ (by omega)
theorem fl_of (hU : PuR I) (hO : OvS I J b S) {x : Int} (h : ∀ y : Nat, y < 60 → K 25 y = stN (J 13) (J 14) (J 15) (J 16) b x y (J 12 4).toNat) : flP I K b x := by
  intro y hy
  have e : ∀ (o : Nat) (z : Int), 12 ≤ o ∧ o ≤ 16 → J o z = I o z := fun o z ho => hO.1 o z (by unfold scr; omega)
  rw [h y hy, e 12 4 (by omega), hU.2.2.2.1]
  refine stN_cg _ (fun j hj => ?_)
  have h1 := hU.2.2.2.2.1 j (by have := hU.2.2.2.2.2.1.1; omega)
  rw [e 13 _ (by omega), e 14 _ (by omega), e 15 _ (by omega), e 16 _ (by omega)]
  exact h1
theorem Pr_of (hU : PuR I) (hO : OvS I J b S) : PrW (J 13) (J 14) (J 15) (J 16) (J 12 4) := by
  have e : ∀ (o : Nat) (z : Int), 12 ≤ o ∧ o ≤ 16 → J o z = I o z := fun o z ho => hO.1 o z (by unfold scr; omega)
  have hp := hU.2.2.2.2.2.1
  refine ⟨?_, ?_, fun j hj => ?_⟩
  · rw [e 12 4 (by omega), hU.2.2.2.1]; exact hp.1
  · rw [e 12 4 (by omega), hU.2.2.2.1]; exact hp.2.1
  · rw [e 12 4 (by omega), hU.2.2.2.1] at hj
    have h1 := hU.2.2.2.2.1 j hj
    rw [e 13 _ (by omega), e 14 _ (by omega), e 15 _ (by omega), e 16 _ (by omega), h1.1, h1.2.1, h1.2.2.1, h1.2.2.2]
    exact hp.2.2 j hj
theorem lt_cg {i : Nat} (h22 : ∀ z : Int, 18 * (i : Int) ≤ z → K 22 z = J 22 z) (h23 : ∀ z : Int, (i : Int) ≤ z → K 23 z = J 23 z) (h : ltP I J b S i) : ltP I K b S i := by
  intro i' h1 h2
  have h3 := h i' h1 h2
  refine ⟨fun c hc hv => ?_, ?_⟩
  · rw [h22 _ (by omega)]; exact h3.1 c hc hv
  · unfold msP; rw [h23 _ (by omega)]; exact h3.2
/-- no choice: what is behind -/
theorem wv_nn (hW : RW I) (hU : PuR I) (hSI : (S : Int) = I 32 35) {i : Nat} (hi : i < S) (h : tpN I (eW I b i) (fch I b none (sfD (chL I 255 b) S (S - (i + 1)))) 18 = -1) : wv I b (sfD (chL I 255 b) S (S - (i + 1))) none = wv I b (sfD (chL I 255 b) S (S - i)) none := by
  have hC := C_F hW hU (b := b) (i := i) (by omega)
  have hs := sfD_s (c := chL I 255 b) hi
  rw [tp_mx (fch_0 hU none _), ← hC] at h
  by_cases hl : chL I 255 b i = []
  · rw [hs, hl]; simp only [wv, if_true]
  · have hB := mxf_B hU.2.2.2.2.2.1 b (chL I 255 b) (S := S) (d := S - (i + 1)) (by have := hU.2.2.2.2.2.2.1; omega) none (chL I 255 b i) (chL I 255 b i).length
    rw [if_neg hl] at h; omega
theorem ct_X3_sumUp {i : Nat} (hn : 57 ≤ n) (hFx : Fx R) (hW : RW I) (hU : PuR I) (hb : inR b) (hO : OvS I J b S) (hSI : (S : Int) = I 32 35) (hi : i < S) (hlt : ltP I J b S (i + 1)) (hq : ∀ K, OvS I K b S → ltP I K b S i → Q none (K, L, R, n)) : Wp mX3_sumUp 0 [some (vr (some 19)), some (vi (i : Int)), some (vr (some 12)), none, none, none] [] (J, L, R, n) (0, 0) Q := by
  have h10 := hU.2.2.2.2.2.2.1
  have hwB := fun d (hd : d ≤ 10) p => wv_B2 hU.2.2.2.2.2.1 b (chL I 255 b) (S := S) (d := d) hd p
  have hf0 : ∀ q, fch I b none (sfD (chL I 255 b) S (S - (i + 1))) q = wv I b (sfD (chL I 255 b) S (S - (i + 1))) (some q) := fun q => Int.zero_add _
  have htB := fun d => tp_B (I := I) (e := eW I b i) (f := fch I b none (sfD (chL I 255 b) S (S - (i + 1)))) (M := 1199) (by omega) (fun q => fch_B (b := b) (S := S) hU (chL I 255 b) (d := S - (i + 1)) (by omega) none q) d
  have lp : ∀ (tt k : Nat) (z : Int) (J : Nat → Int → Int) (x : Int) (x5 : Option AV), k + tt = 18 → z = k → OvS I J b S → ltP I J b S (i + 1) → smP I J b S i k → x = tpN I (eW I b i) (fch I b none (sfD (chL I 255 b) S (S - (i + 1)))) k → Wp mX3_sumUp 16 [some (vr (some 19)), some (vi (i : Int)), some (vr (some 12)), some (vi x), some (vi z), x5] [] (J, L, R, n) (0, 0) Q := by
    intro tt
    induction tt with
    | zero =>
      intro k z J x x5 hkt hz e0 e1 e2 e3
      obtain rfl : k = 18 := by omega
      have htk := htB 18
      have hsz := e0.2.1
      have hmb := mb_eq hW hU (b := b) hSI hi none
      have hms : (if i + 1 < S then J 23 ((i + 1 : Nat) : Int) else 0) = wv I b (sfD (chL I 255 b) S (S - (i + 1))) none := by
        by_cases h1 : i + 1 < S
        · rw [if_pos h1]; exact (e1 (i + 1) (by omega) h1).2
        · rw [if_neg h1, show S - (i + 1) = 0 by omega]; rfl
      have hfin : ∀ v : Int, v = wv I b (sfD (chL I 255 b) S (S - i)) none → Q none (up J 23 i v, L, R, n) := fun v hv => by
        refine hq _ (OvS_cg (up_out (by omega)) e0) (fun i' h1 h2 => ?_)
        by_cases hii : i' = i
        · subst hii
          refine ⟨fun c hc hv2 => ?_, ?_⟩
          · rw [up_o _ _ _ _ (by decide)]; exact e2 c hc hv2
          · unfold msP; rw [up_same]; exact hv
        · have h3 := e1 i' (by omega) h2
          refine ⟨fun c hc hv2 => ?_, ?_⟩
          · rw [up_o _ _ _ _ (by decide)]; exact h3.1 c hc hv2
          · unfold msP; rw [up_k _ _ _ _ (by omega)]; exact h3.2
      refine Wp.iload rfl dX3_sumUp_16 ?_
      refine Wp.bipush rfl dX3_sumUp_18 ?_
      refine Wp.icmp_ge (tgt := 95) dX3_sumUp_20 (by decide) (by first | omega | exact bI_R _ | exact cmp_R _ _ | assumption) (by first | omega | exact bI_R _ | exact cmp_R _ _ | assumption) (fun c20 => ?_) (fun c20 => ?_)
      · refine Wp.aload_n rfl dX3_sumUp_95 ?_
        refine Wp.gr (kz := 3) rfl dX3_sumUp_96 fkX3_21 (by first | rfl | exact kd_b0 _ | exact kd_b1 _ | exact kd_b2 _ | exact kd_b3 _ | exact kd_b4 _ | exact kd_b5 _ | exact kd_b6 _) (by omega) (by first | exact hFx _ 3 _ rfl | assumption | exact hBk.1 | exact hBk.2.1 | exact hBk.2.2.1 | exact hBk.2.2.2.1 | exact hBk.2.2.2.2.1 | exact hBk.2.2.2.2.2) ?_
        refine Wp.iload_n rfl dX3_sumUp_99 ?_
        refine Wp.iload_n rfl dX3_sumUp_100 ?_
        refine Wp.iconst dX3_sumUp_101 ?_
        refine Wp.icmp_ne (tgt := 115) dX3_sumUp_102 (by decide) (by first | omega | exact bI_R _ | exact cmp_R _ _ | assumption) (by first | omega | exact bI_R _ | exact cmp_R _ _ | assumption) (fun c102 => ?_) (fun c102 => ?_)
        · refine Wp.iload_n rfl dX3_sumUp_115 ?_
          refine Wp.iastore dX3_sumUp_116 (by first | rfl | exact kd_b0 _ | exact kd_b1 _ | exact kd_b2 _ | exact kd_b3 _ | exact kd_b4 _ | exact kd_b5 _ | exact kd_b6 _) (by omega) (by omega) (by omega) ?_
          refine Wp.vreturn dX3_sumUp_117 rfl ?_
          first | (exfalso; omega) | (first | (rw [← e3, if_pos (by omega)] at hmb; refine hfin _ ?_; rw [← wv_nn hW hU hSI hi (by rw [← e3]; omega), ← hms]; by_cases h1 : i + 1 < S; (rw [if_pos h1, if_pos ⟨by omega, by omega⟩]; rfl); (rw [if_neg h1, if_neg (by omega)])) | (rw [← e3, if_neg (by omega)] at hmb; exact hfin _ hmb))
        · refine Wp.aload_n rfl dX3_sumUp_105 ?_
          refine Wp.iload_n rfl dX3_sumUp_106 ?_
          refine Wp.iconst dX3_sumUp_107 ?_
          refine Wp.iadd dX3_sumUp_108 ?_
          refine Wp.callV (As := [_]) (ls0 := [_, _]) (bd := (0, 0)) (bd' := (0, 0)) dX3_sumUp_109 kmX3_most lkX3_109 (by decide) (by decide) (Nat.le_of_ble_eq_true rfl) (by first | rfl | exact kd_b0 _ | exact kd_b1 _ | exact kd_b2 _ | exact kd_b3 _ | exact kd_b4 _ | exact kd_b5 _ | exact kd_b6 _) (by omega) rfl rfl (Nat.le_of_ble_eq_true rfl) rfl ?_
          refine ct_X3_most hn hFx (by omega) (by omega) (by omega) ?_
          show Wp _ _ _ (_ :: _) _ _ _
          refine Wp.goto (tgt := 116) dX3_sumUp_112 (by decide) ?_
          refine Wp.iastore dX3_sumUp_116 (by first | rfl | exact kd_b0 _ | exact kd_b1 _ | exact kd_b2 _ | exact kd_b3 _ | exact kd_b4 _ | exact kd_b5 _ | exact kd_b6 _) (by omega) (by omega) (by omega) ?_
          refine Wp.vreturn dX3_sumUp_117 rfl ?_
          first | (exfalso; omega) | (first | (rw [← e3, if_pos (by omega)] at hmb; refine hfin _ ?_; rw [← wv_nn hW hU hSI hi (by rw [← e3]; omega), ← hms]; by_cases h1 : i + 1 < S; (rw [if_pos h1, if_pos ⟨by omega, by omega⟩]; rfl); (rw [if_neg h1, if_neg (by omega)])) | (rw [← e3, if_neg (by omega)] at hmb; exact hfin _ hmb))
      · exfalso; omega
    | succ tt ih =>
      intro k z J x x5 hkt hz e0 e1 e2 e3
      subst hz
      subst e3
      have h18 : k < 18 := by omega
      have htk := htB k
      have hsz := e0.2.1
      have h7 := e0.2.2.1
      have hww := hwB (S - (i + 1)) (by omega) (some (18 * eW I b i + k))
      have hslot : (if ((0 : Int) ≤ (i : Int) ∧ (i : Int) < J 19 6) ∧ (0 : Int) ≤ k ∧ (k : Int) < 18 then (i : Int) * 18 + k else -1) = 18 * (i : Int) + k := by
        rw [if_pos ⟨⟨by omega, by omega⟩, by omega, by omega⟩]; omega
      refine Wp.iload rfl dX3_sumUp_16 ?_
      refine Wp.bipush rfl dX3_sumUp_18 ?_
      refine Wp.icmp_ge (tgt := 95) dX3_sumUp_20 (by decide) (by first | omega | exact bI_R _ | exact cmp_R _ _ | assumption) (by first | omega | exact bI_R _ | exact cmp_R _ _ | assumption) (fun c20 => ?_) (fun c20 => ?_)
      · exfalso; omega
      · refine Wp.aload_n rfl dX3_sumUp_23 ?_
        refine Wp.iload_n rfl dX3_sumUp_24 ?_
        refine Wp.iload rfl dX3_sumUp_25 ?_
        refine Wp.callV (As := [_, _]) (ls0 := [_, _, _]) (bd := (0, 0)) (bd' := (0, 0)) dX3_sumUp_27 kmX3_slot lkX3_76 (by decide) (by decide) (Nat.le_of_ble_eq_true rfl) (by first | rfl | exact kd_b0 _ | exact kd_b1 _ | exact kd_b2 _ | exact kd_b3 _ | exact kd_b4 _ | exact kd_b5 _ | exact kd_b6 _) (by omega) rfl rfl (Nat.le_of_ble_eq_true rfl) rfl ?_
        refine ct_X3_slot hn (by omega) (by omega) (by omega) (by omega) ?_
        rw [hslot]
        show Wp _ _ _ (_ :: _) _ _ _
        refine Wp.istore (ls' := [_, _, _, _, _, _]) dX3_sumUp_30 (by decide) rfl ?_
        refine Wp.aload_n rfl dX3_sumUp_32 ?_
        refine Wp.iload rfl dX3_sumUp_33 ?_
        refine Wp.callV (As := [_]) (ls0 := [_, _]) (bd := (0, 0)) (bd' := (0, 0)) dX3_sumUp_35 kmX3_wordIn lkX3_94 (by decide) (by decide) (Nat.le_of_ble_eq_true rfl) (by first | rfl | exact kd_b0 _ | exact kd_b1 _ | exact kd_b2 _ | exact kd_b3 _ | exact kd_b4 _ | exact kd_b5 _ | exact kd_b6 _) (by omega) rfl rfl (Nat.le_of_ble_eq_true rfl) rfl ?_
        refine wI hn hFx hW hU e0 hSI hi h18 rfl (fun v hv1 hv2 hvB hv3 => ?_)
        show Wp _ _ _ (_ :: _) _ _ _
        refine Wp.iconst dX3_sumUp_38 ?_
        refine Wp.icmp_ne (tgt := 45) dX3_sumUp_39 (by decide) (by first | omega | exact bI_R _ | exact cmp_R _ _ | assumption) (by first | omega | exact bI_R _ | exact cmp_R _ _ | assumption) (fun c39 => ?_) (fun c39 => ?_)
        · have hvk : vlP I (eW I b i) k := Classical.byContradiction (fun q => c39 (hv1.mpr q))
          have hvv := hv2 hvk
          refine Wp.aload_n rfl dX3_sumUp_45 ?_
          refine Wp.aload_n rfl dX3_sumUp_46 ?_
          refine Wp.gi (kz := 7) rfl dX3_sumUp_47 fkX3_34 (by first | rfl | exact kd_b0 _ | exact kd_b1 _ | exact kd_b2 _ | exact kd_b3 _ | exact kd_b4 _ | exact kd_b5 _ | exact kd_b6 _) (by omega) ?_
          refine Wp.aload_n rfl dX3_sumUp_50 ?_
          refine Wp.iload rfl dX3_sumUp_51 ?_
          refine Wp.callV (As := [_]) (ls0 := [_, _]) (bd := (0, 0)) (bd' := (0, 0)) dX3_sumUp_53 kmX3_wordIn lkX3_94 (by decide) (by decide) (Nat.le_of_ble_eq_true rfl) (by first | rfl | exact kd_b0 _ | exact kd_b1 _ | exact kd_b2 _ | exact kd_b3 _ | exact kd_b4 _ | exact kd_b5 _ | exact kd_b6 _) (by omega) rfl rfl (Nat.le_of_ble_eq_true rfl) rfl ?_
          refine ct_X3_wordIn hn hFx (by omega) ?_
          rw [if_pos (by omega), hv3, h7]
          show Wp _ _ _ (_ :: _) _ _ _
          refine Wp.aload_n rfl dX3_sumUp_56 ?_
          refine Wp.gr (kz := 5) rfl dX3_sumUp_57 fkX3_27 (by first | rfl | exact kd_b0 _ | exact kd_b1 _ | exact kd_b2 _ | exact kd_b3 _ | exact kd_b4 _ | exact kd_b5 _ | exact kd_b6 _) (by omega) (by first | exact hFx _ 5 _ rfl | assumption | exact hBk.1 | exact hBk.2.1 | exact hBk.2.2.1 | exact hBk.2.2.2.1 | exact hBk.2.2.2.2.1 | exact hBk.2.2.2.2.2) ?_
          refine Wp.callV (As := [_, _, _]) (ls0 := [_, _, _, _, _, _]) (bd := (0, 0)) (bd' := (0, 0)) dX3_sumUp_60 kmX4_writeFollowers lkX3_97 (by decide) (by decide) (Nat.le_of_ble_eq_true rfl) (by first | rfl | exact kd_b0 _ | exact kd_b1 _ | exact kd_b2 _ | exact kd_b3 _ | exact kd_b4 _ | exact kd_b5 _ | exact kd_b6 _) (by omega) rfl rfl (Nat.le_of_ble_eq_true rfl) rfl ?_
          refine ct_X4_writeFollowers hn hFx (Pr_of hU e0) hb (by omega) (fun K hK hfl => ?_)
          have hOK : OvS I K b S := OvS_cg (fun o z ho => hK o z (by omega)) e0
          have hflK := fl_of hU e0 hfl
          rw [hvv] at hflK
          have hltK : ltP I K b S (i + 1) := lt_cg (fun z _ => hK 22 z (by decide)) (fun z _ => hK 23 z (by decide)) e1
          show Wp _ _ _ _ _ _ _
          refine Wp.aload_n rfl dX3_sumUp_63 ?_
          refine Wp.gr (kz := 2) rfl dX3_sumUp_64 fkX3_18 (by first | rfl | exact kd_b0 _ | exact kd_b1 _ | exact kd_b2 _ | exact kd_b3 _ | exact kd_b4 _ | exact kd_b5 _ | exact kd_b6 _) (by omega) (by first | exact hFx _ 2 _ rfl | assumption | exact hBk.1 | exact hBk.2.1 | exact hBk.2.2.1 | exact hBk.2.2.2.1 | exact hBk.2.2.2.2.1 | exact hBk.2.2.2.2.2) ?_
          refine Wp.iload rfl dX3_sumUp_67 ?_
          refine Wp.aload_n rfl dX3_sumUp_69 ?_
          refine Wp.iload_n rfl dX3_sumUp_70 ?_
          refine Wp.iload rfl dX3_sumUp_71 ?_
          refine Wp.callV (As := [_, _]) (ls0 := [_, _, _, _, _, _]) (bd := (0, 0)) (bd' := (0, 0)) dX3_sumUp_73 kmX3_mostBehind lkX3_103 (by decide) (by decide) (Nat.le_of_ble_eq_true rfl) (by first | rfl | exact kd_b0 _ | exact kd_b1 _ | exact kd_b2 _ | exact kd_b3 _ | exact kd_b4 _ | exact kd_b5 _ | exact kd_b6 _) (by omega) rfl rfl (Nat.le_of_ble_eq_true rfl) rfl ?_
          refine ct_X3_mostBehind hn hFx hW hU hOK hSI hi h18 hvk hflK hltK ?_
          show Wp _ _ _ (_ :: _) _ _ _
          refine Wp.iastore dX3_sumUp_76 (by first | rfl | exact kd_b0 _ | exact kd_b1 _ | exact kd_b2 _ | exact kd_b3 _ | exact kd_b4 _ | exact kd_b5 _ | exact kd_b6 _) (by omega) (by omega) (by omega) ?_
          refine Wp.iload_n rfl dX3_sumUp_77 ?_
          refine Wp.aload_n rfl dX3_sumUp_78 ?_
          refine Wp.gr (kz := 2) rfl dX3_sumUp_79 fkX3_18 (by first | rfl | exact kd_b0 _ | exact kd_b1 _ | exact kd_b2 _ | exact kd_b3 _ | exact kd_b4 _ | exact kd_b5 _ | exact kd_b6 _) (by omega) (by first | exact hFx _ 2 _ rfl | assumption | exact hBk.1 | exact hBk.2.1 | exact hBk.2.2.1 | exact hBk.2.2.2.1 | exact hBk.2.2.2.2.1 | exact hBk.2.2.2.2.2) ?_
          try simp (disch := omega) only [up_same, up_o, up_k]
          refine Wp.iload rfl dX3_sumUp_82 ?_
          refine Wp.iaload dX3_sumUp_84 (by first | rfl | exact kd_b0 _ | exact kd_b1 _ | exact kd_b2 _ | exact kd_b3 _ | exact kd_b4 _ | exact kd_b5 _ | exact kd_b6 _) (by omega) (by omega) (by omega) ?_
          try simp (disch := omega) only [up_same, up_o, up_k]
          refine Wp.mM true dX3_sumUp_85 lkX3_106 ka_math (by decide) (Nat.le_of_ble_eq_true rfl) (by omega) (by omega) ?_
          refine Wp.istore_n (ls' := [_, _, _, _, _, _]) dX3_sumUp_88 (by decide) rfl ?_
          refine Wp.iinc (ls' := [_, _, _, _, _, _]) rfl dX3_sumUp_89 (by decide) rfl ?_
          refine Wp.goto (tgt := 16) dX3_sumUp_92 (by decide) ?_
          first
          | (refine ih (k + 1) _ _ _ _ (by omega) (by omega) (OvS_cg (up_out (by omega)) hOK) (lt_cg (fun z hz => up_k _ _ _ _ (by omega)) (fun z _ => up_o _ _ _ _ (by decide)) hltK) (fun c hc hv => ?_) (by rw [← tp_t hvk, hf0]; rfl); by_cases hck : c = k; (subst hck; rw [up_same]); (rw [up_k _ _ _ _ (by omega), hK 22 _ (by decide)]; exact e2 c (by omega) hv))
          | (refine ih (k + 1) _ _ _ _ (by omega) (by omega) e0 e1 (fun c hc hv => ?_) (tp_f (hv1.mp c39)); by_cases hck : c = k; (subst hck; exact absurd hv (hv1.mp c39)); (exact e2 c (by omega) hv))
        · refine Wp.goto (tgt := 89) dX3_sumUp_42 (by decide) ?_
          refine Wp.iinc (ls' := [_, _, _, _, _, _]) rfl dX3_sumUp_89 (by decide) rfl ?_
          refine Wp.goto (tgt := 16) dX3_sumUp_92 (by decide) ?_
          first
          | (refine ih (k + 1) _ _ _ _ (by omega) (by omega) (OvS_cg (up_out (by omega)) hOK) (lt_cg (fun z hz => up_k _ _ _ _ (by omega)) (fun z _ => up_o _ _ _ _ (by decide)) hltK) (fun c hc hv => ?_) (by rw [← tp_t hvk, hf0]; rfl); by_cases hck : c = k; (subst hck; rw [up_same]); (rw [up_k _ _ _ _ (by omega), hK 22 _ (by decide)]; exact e2 c (by omega) hv))
          | (refine ih (k + 1) _ _ _ _ (by omega) (by omega) e0 e1 (fun c hc hv => ?_) (tp_f (hv1.mp c39)); by_cases hck : c = k; (subst hck; exact absurd hv (hv1.mp c39)); (exact e2 c (by omega) hv))
  refine Wp.iload_n rfl dX3_sumUp_0 ?_
  refine Wp.if_lt (tgt := 10) dX3_sumUp_1 (by decide) (by first | omega | exact bI_R _ | exact cmp_R _ _ | assumption) (fun c1 => ?_) (fun c1 => ?_)
  · refine Wp.vreturn dX3_sumUp_10 rfl ?_
    first | (exfalso; omega) | (exfalso; omega)
  · refine Wp.iload_n rfl dX3_sumUp_4 ?_
    refine Wp.bipush rfl dX3_sumUp_5 ?_
    refine Wp.icmp_lt (tgt := 11) dX3_sumUp_7 (by decide) (by first | omega | exact bI_R _ | exact cmp_R _ _ | assumption) (by first | omega | exact bI_R _ | exact cmp_R _ _ | assumption) (fun c7 => ?_) (fun c7 => ?_)
    · refine Wp.iconst dX3_sumUp_11 ?_
      refine Wp.istore_n (ls' := [_, _, _, _, _, _]) dX3_sumUp_12 (by decide) rfl ?_
      refine Wp.iconst dX3_sumUp_13 ?_
      refine Wp.istore (ls' := [_, _, _, _, _, _]) dX3_sumUp_14 (by decide) rfl ?_
      exact lp 18 0 _ _ _ _ (by omega) (by omega) hO hlt (fun c hc => by omega) rfl
    · refine Wp.vreturn dX3_sumUp_10 rfl ?_
      first | (exfalso; omega) | (exfalso; omega)
def choP (I J : Nat → Int → Int) (b : Int) (S i : Nat) : Prop := (cz I b (chL I 255 b) S i = none ∧ J 24 i = -1) ∨ ∃ c : Nat, c < 18 ∧ vlP I (eW I b i) c ∧ cz I b (chL I 255 b) S i = some (18 * eW I b i + c) ∧ J 24 i = c
/-- what was chosen before word i, and its slot -/
def pbP (I J : Nat → Int → Int) (b : Int) (S i : Nat) (zb : Int) : Prop := (zb = -1 ∧ czp I b (chL I 255 b) S i = none) ∨ ∃ i1 c : Nat, i = i1 + 1 ∧ c < 18 ∧ vlP I (eW I b i1) c ∧ czp I b (chL I 255 b) S i = some (18 * eW I b i1 + c) ∧ zb = 18 * i1 + c ∧ flP I J b (I 39 (18 * eW I b i1 + c))
theorem ct_tieO {i c : Nat} {zb : Int} (hn : 57 ≤ n) (hFx : Fx R) (hW : RW I) (hU : PuR I) (hO : OvS I J b S) (hSI : (S : Int) = I 32 35) (hi : i < S) (hc : c < 18) (hv : vlP I (eW I b i) c) (hp : pbP I J b S i zb) (hq : Q (some (vi (tieO I b (czp I b (chL I 255 b) S i) (18 * eW I b i + c)))) (J, L, R, n)) : Wp mX3_tie 0 [some (vr (some 19)), some (vi zb), some (vi (18 * (i : Int) + c)), none, none] [] (J, L, R, n) (0, 0) Q := by
  have h10 := hU.2.2.2.2.2.2.1
  have h2 := (hO.2.2.2 i c hi hc).1 hv
  have b2 := vl_B (eW_ok hW hU (by omega)) hv
  rcases hp with ⟨rfl, hp⟩ | ⟨i1, c1, hii, hc1, hv1, hp, rfl, hf⟩
  · rw [hp] at hq
    exact ct_X3_tie0 hn hFx (by omega) (by omega) hq
  · rw [hp] at hq
    have h1 := (hO.2.2.2 i1 c1 (by omega) hc1).1 hv1
    have b1 := vl_B (eW_ok hW hU (by omega)) hv1
    have ht := tie_v hW hU hO hSI (by omega) hc1 hv1 hi hc hv hf
    exact ct_X3_tie hn hFx (by omega) (by omega) (by omega) (by omega) (by omega) (by omega) (qI hq ht)
theorem cho_cg {i : Nat} (h : K 24 i = J 24 i) (hc : choP I J b S i) : choP I K b S i := by unfold choP at hc ⊢; rw [h]; exact hc
end

