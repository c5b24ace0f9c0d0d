/-! ===== the class's reader: one round, and all of them ===== -/
section
variable {I J : Nat → Int → Int} {L K : Nat → Int → BitVec 64} {R : Nat → Int → Option Nat} {n kb : Nat} {Q : Option AV → Mm → Prop} {D : Dr} {nx hd pl N : Int} {T : Int → Int}
theorem FrD.tr {I1 : Nat → Int → Int} (h : FrD kb I I1) (h2 : FrD kb I1 J) : FrD kb I J := fun o z hs => (h2 o z hs).trans (h o z hs)
theorem FrDL.tr {L1 : Nat → Int → BitVec 64} (h : FrDL kb L L1) (h2 : FrDL kb L1 K) : FrDL kb L K := fun o z hs => (h2 o z hs).trans (h o z hs)
theorem ro_tr {I1 : Nat → Int → Int} {S : Int ⊕ St} {r : Int} (h : FrD kb I I1) (h3 : I1 3 3 = I 3 3) (h2 : roP kb I1 J L K r S) : roP kb I J L K r S := ⟨h.tr h2.1, h2.2.1, h2.2.2.1.trans h3, h2.2.2.2⟩
theorem CB_3 {z v : Int} (h : CB I L kb D) : CB (up I 3 z v) L kb D := CB_cg (fun o z _ _ => up_o _ _ _ _ (by omega)) (fun _ _ _ _ => rfl) h
theorem MI_same {nx' : Int} (hM : MI nx hd D) (hn : nx = 2 ∧ nx' = 3 ∨ nx = 4 ∧ nx' = 5 ∨ (nx = 6 ∨ nx = 7) ∧ (nx' = 5 ∨ nx' = 0)) : MI nx' hd D := MI_nx hM hn
set_option maxHeartbeats 1000000 in
theorem ct_X5_readSign {S : Int ⊕ St} {sg : Int} (hn : 57 ≤ n) (hk : 57 + 7 * kb + 7 ≤ n) (hBk : Bk R kb) (hR : RdI I L kb (nx, hd, pl, D)) (hpl : 0 ≤ pl ∧ pl < 240) (hsg : T pl = sg) (hsB : 0 ≤ sg ∧ sg ≤ 255) (hnd : ¬ dgP T N pl) (hS : S = stp T N nx hd pl D) (hq : ∀ J K r, roP kb I J L K r S → Q (some (vi r)) (J, K, R, n)) : Wp mX5_readSign 0 [some (vr (some 3)), some (vi sg), some (vr (some (57 + 7 * kb))), none] [] (I, L, R, n) (0, 0) Q := by
  obtain ⟨hM, hA, hC, h30, h31, h32⟩ := hR
  dsimp only at hM hA hC h30 h31 h32
  have hnB := hM.1
  unfold stp at hS
  rw [if_neg hnd, hsg] at hS
  have f1 : FrD kb I (up I 3 1 (pl + 1)) := FrD.rf.wr (by unfold dO; omega)
  have e33 : up I 3 1 (pl + 1) 3 3 = I 3 3 := up_k _ _ _ _ (by decide)
  have e30 : up I 3 1 (pl + 1) 3 0 = nx := by rw [up_k _ _ _ _ (by decide)]; exact h30
  have e31 : up I 3 1 (pl + 1) 3 1 = pl + 1 := up_same _ _ _ _
  have e32 : up I 3 1 (pl + 1) 3 2 = hd := by rw [up_k _ _ _ _ (by decide)]; exact h32
  have hC1 : CB (up I 3 1 (pl + 1)) L kb D := CB_3 hC
  generalize hJ1 : up I 3 1 (pl + 1) = J1 at f1 e33 e30 e31 e32 hC1
  have hq1 : ∀ J K r, roP kb J1 J L K r S → Q (some (vi r)) (J, K, R, n) := fun J K r h => hq J K r (ro_tr f1 e33 h)
  have hfail : S = .inl 1 → Q (some (vi 1)) (J1, L, R, n) := fun h => hq1 J1 L 1 (ro_f FrD.rf FrDL.rf rfl h (by omega) (by omega))
  have hgo : ∀ nx' : Int, S = .inr (nx', hd, pl + 1, D) → MI nx' hd D → nx' ≠ 6 → Q (some (vi 0)) (up J1 3 0 nx', L, R, n) := fun nx' h hM' h6 => hq1 _ L 0 (ro_s (FrD.rf.wr (by unfold dO; have := hM'.1; omega)) FrDL.rf (up_k _ _ _ _ (by decide)) h ⟨hM', fun q => absurd q h6, CB_3 hC1, up_same _ _ _ _, by rw [up_k _ _ _ _ (by decide)]; exact e31, by rw [up_k _ _ _ _ (by decide)]; exact e32⟩)
  have h150 : ∀ y : Int, (y = 1 ∧ (nx = 6 ∨ nx = 7) ∨ y = 0 ∧ ¬ (nx = 6 ∨ nx = 7)) → sg ≠ 32 → ¬ (sg = 58 ∧ nx = 1) → ¬ (sg = 124 ∧ (nx = 6 ∨ nx = 7)) → ¬ (sg = 40 ∧ nx = 2) → ¬ (sg = 41 ∧ nx = 4) → ¬ (sg = 44 ∧ (nx = 6 ∨ nx = 7)) → ¬ (sg = 59 ∧ (nx = 6 ∨ nx = 7)) → Wp mX5_readSign 150 [some (vr (some 3)), some (vi sg), some (vr (some (57 + 7 * kb))), some (vi y)] [] (J1, L, R, n) (0, 0) Q := by
    intro y hy t0 t1 t2 t3 t4 t5 t6
    refine Wp.iload_n rfl dX5_readSign_150 ?_
    refine Wp.bipush rfl dX5_readSign_151 ?_
    refine Wp.icmp_ne (tgt := 165) dX5_readSign_153 (by decide) (by first | omega | exact bI_R _ | exact cmp_R _ _ | assumption) (by first | omega | exact bI_R _ | exact cmp_R _ _ | assumption) (fun c153 => ?_) (fun c153 => ?_)
    · refine Wp.iconst dX5_readSign_165 ?_
      refine Wp.ireturn dX5_readSign_166 rfl ?_
      first | (exfalso; omega) | (rw [if_neg (by omega), if_neg (by omega), if_neg (by omega), if_neg (by omega), if_neg (by omega), if_neg (by omega), if_neg (by omega)] at hS; exact hfail hS)
    · refine Wp.aload_n rfl dX5_readSign_156 ?_
      refine Wp.gi (kz := 0) rfl dX5_readSign_157 fkX5_11 (by first | rfl | exact kd_b0 _ | exact kd_b1 _ | exact kd_b2 _ | exact kd_b3 _ | exact kd_b4 _ | exact kd_b5 _ | exact kd_b6 _) (by omega) ?_
      refine Wp.bipush rfl dX5_readSign_160 ?_
      refine Wp.icmp_eq (tgt := 167) dX5_readSign_162 (by decide) (by first | omega | exact bI_R _ | exact cmp_R _ _ | assumption) (by first | omega | exact bI_R _ | exact cmp_R _ _ | assumption) (fun c162 => ?_) (fun c162 => ?_)
      · have hnx6 : nx = 6 := by omega
        subst hnx6
        have ag1 := hM.hd (by omega)
        have hcs := hM.cs (by omega)
        have ag2 := hC1.sn ag1.1 ag1.2.1
        have hse := hC1.se ag1.1 ag1.2.1 (s := D 36 hd - 1) (by omega) (by omega)
        have hcd : 3 * hd + (D 36 hd - 1) = cur D hd := rfl
        rw [hcd] at hse
        have ag3 := hse.2.1
        have h1s := hM.2.2.2.2.1 (by omega)
        have ag4 : 1 ≤ D 38 (cur D hd) ∧ D 38 (cur D hd) ≤ 6 := ⟨h1s, hcs.1.2.2.2⟩
        have ag5 := hC1.wd ag1.1 ag1.2.1 (s := D 36 hd - 1) (p := D 38 (cur D hd) - 1) (by omega) (by omega) (by omega) (by rw [hcd]; omega)
        rw [hcd] at ag5
        have hlw := (hcs.2 (D 38 (cur D hd) - 1) (by omega) (by omega)).1
        have hC2 := CB_age hC1 hM (hA rfl)
        refine Wp.aload_n rfl dX5_readSign_167 ?_
        refine Wp.aload_n rfl dX5_readSign_168 ?_
        refine Wp.gi (kz := 2) rfl dX5_readSign_169 fkX5_18 (by first | rfl | exact kd_b0 _ | exact kd_b1 _ | exact kd_b2 _ | exact kd_b3 _ | exact kd_b4 _ | exact kd_b5 _ | exact kd_b6 _) (by omega) ?_
        rw [e32]
        refine Wp.callV (As := [_]) (ls0 := [_, _, _, _]) (bd := (0, 0)) (bd' := (0, 0)) dX5_readSign_172 kmX0_age lkX5_52 (by decide) (by decide) (Nat.le_of_ble_eq_true rfl) (by first | rfl | exact kd_b0 _ | exact kd_b1 _ | exact kd_b2 _ | exact kd_b3 _ | exact kd_b4 _ | exact kd_b5 _ | exact kd_b6 _) (by omega) rfl rfl (Nat.le_of_ble_eq_true rfl) rfl ?_
        refine ct_X0_age hk hBk ag1.1 ag1.2.1 ag2 ag1.2.2.1 ag1.2.2.2 ag3 ag4.1 ag4.2 ag5 (by omega) (sn_R hC1 hM) ?_
        show Wp _ _ _ _ _ _ _
        refine Wp.aload_n rfl dX5_readSign_175 ?_
        refine Wp.bipush rfl dX5_readSign_176 ?_
        refine Wp.callV (As := [_]) (ls0 := [_, _]) (bd := (0, 0)) (bd' := (0, 0)) dX5_readSign_178 kmX5_expect lkX5_49 (by decide) (by decide) (Nat.le_of_ble_eq_true rfl) (by first | rfl | exact kd_b0 _ | exact kd_b1 _ | exact kd_b2 _ | exact kd_b3 _ | exact kd_b4 _ | exact kd_b5 _ | exact kd_b6 _) (by omega) rfl rfl (Nat.le_of_ble_eq_true rfl) rfl ?_
        refine ct_X5_expect hn ?_
        show Wp _ _ _ (_ :: _) _ _ _
        refine Wp.ireturn dX5_readSign_181 rfl ?_
        rw [if_neg (by omega), if_neg (by omega), if_neg (by omega), if_neg (by omega), if_neg (by omega), if_neg (by omega), if_pos (by omega)] at hS
        refine hq1 _ _ 0 (ro_s ((FrD.rf.wr (by unfold dO; omega)).wr (by unfold dO; omega)) (FrDL.rf.wr (by omega)) ?_ hS ⟨MI_age hM, fun q => absurd (show (7 : Int) = 6 from q) (by decide), CB_3 hC2, up_same _ _ _ _, ?_, ?_⟩)
        · simp (disch := omega) only [up_same, up_o, up_k]
        · simp (disch := omega) only [up_same, up_o, up_k]; exact e31
        · simp (disch := omega) only [up_same, up_o, up_k]; exact e32
      · refine Wp.iconst dX5_readSign_165 ?_
        refine Wp.ireturn dX5_readSign_166 rfl ?_
        first | (exfalso; omega) | (rw [if_neg (by omega), if_neg (by omega), if_neg (by omega), if_neg (by omega), if_neg (by omega), if_neg (by omega), if_neg (by omega)] at hS; exact hfail hS)
  have h134 : ∀ y : Int, (y = 1 ∧ (nx = 6 ∨ nx = 7) ∨ y = 0 ∧ ¬ (nx = 6 ∨ nx = 7)) → sg ≠ 32 → ¬ (sg = 58 ∧ nx = 1) → ¬ (sg = 124 ∧ (nx = 6 ∨ nx = 7)) → ¬ (sg = 40 ∧ nx = 2) → ¬ (sg = 41 ∧ nx = 4) → ¬ (sg = 44 ∧ (nx = 6 ∨ nx = 7)) → Wp mX5_readSign 134 [some (vr (some 3)), some (vi sg), some (vr (some (57 + 7 * kb))), some (vi y)] [] (J1, L, R, n) (0, 0) Q := by
    intro y hy t0 t1 t2 t3 t4 t5
    refine Wp.iload_n rfl dX5_readSign_134 ?_
    refine Wp.bipush rfl dX5_readSign_135 ?_
    refine Wp.icmp_ne (tgt := 150) dX5_readSign_137 (by decide) (by first | omega | exact bI_R _ | exact cmp_R _ _ | assumption) (by first | omega | exact bI_R _ | exact cmp_R _ _ | assumption) (fun c137 => ?_) (fun c137 => ?_)
    · first | exact h150 y hy t0 t1 t2 t3 t4 t5 (by omega) | (exfalso; omega)
    · refine Wp.iload_n rfl dX5_readSign_140 ?_
      refine Wp.if_eq (tgt := 150) dX5_readSign_141 (by decide) (by first | omega | exact bI_R _ | exact cmp_R _ _ | assumption) (fun c141 => ?_) (fun c141 => ?_)
      · first | exact h150 y hy t0 t1 t2 t3 t4 t5 (by omega) | (exfalso; omega)
      · refine Wp.aload_n rfl dX5_readSign_144 ?_
        refine Wp.iconst dX5_readSign_145 ?_
        refine Wp.callV (As := [_]) (ls0 := [_, _]) (bd := (0, 0)) (bd' := (0, 0)) dX5_readSign_146 kmX5_expect lkX5_49 (by decide) (by decide) (Nat.le_of_ble_eq_true rfl) (by first | rfl | exact kd_b0 _ | exact kd_b1 _ | exact kd_b2 _ | exact kd_b3 _ | exact kd_b4 _ | exact kd_b5 _ | exact kd_b6 _) (by omega) rfl rfl (Nat.le_of_ble_eq_true rfl) rfl ?_
        refine ct_X5_expect hn ?_
        show Wp _ _ _ (_ :: _) _ _ _
        refine Wp.ireturn dX5_readSign_149 rfl ?_
        first | (exfalso; omega) | (rw [if_neg (by omega), if_neg (by omega), if_neg (by omega), if_neg (by omega), if_neg (by omega), if_pos (by omega)] at hS; exact hgo 0 hS (MI_same hM (by omega)) (by decide))
  have h118 : ∀ y : Int, (y = 1 ∧ (nx = 6 ∨ nx = 7) ∨ y = 0 ∧ ¬ (nx = 6 ∨ nx = 7)) → sg ≠ 32 → ¬ (sg = 58 ∧ nx = 1) → ¬ (sg = 124 ∧ (nx = 6 ∨ nx = 7)) → ¬ (sg = 40 ∧ nx = 2) → ¬ (sg = 41 ∧ nx = 4) → Wp mX5_readSign 118 [some (vr (some 3)), some (vi sg), some (vr (some (57 + 7 * kb))), some (vi y)] [] (J1, L, R, n) (0, 0) Q := by
    intro y hy t0 t1 t2 t3 t4
    refine Wp.iload_n rfl dX5_readSign_118 ?_
    refine Wp.bipush rfl dX5_readSign_119 ?_
    refine Wp.icmp_ne (tgt := 134) dX5_readSign_121 (by decide) (by first | omega | exact bI_R _ | exact cmp_R _ _ | assumption) (by first | omega | exact bI_R _ | exact cmp_R _ _ | assumption) (fun c121 => ?_) (fun c121 => ?_)
    · first | exact h134 y hy t0 t1 t2 t3 t4 (by omega) | (exfalso; omega)
    · refine Wp.iload_n rfl dX5_readSign_124 ?_
      refine Wp.if_eq (tgt := 134) dX5_readSign_125 (by decide) (by first | omega | exact bI_R _ | exact cmp_R _ _ | assumption) (fun c125 => ?_) (fun c125 => ?_)
      · first | exact h134 y hy t0 t1 t2 t3 t4 (by omega) | (exfalso; omega)
      · refine Wp.aload_n rfl dX5_readSign_128 ?_
        refine Wp.iconst dX5_readSign_129 ?_
        refine Wp.callV (As := [_]) (ls0 := [_, _]) (bd := (0, 0)) (bd' := (0, 0)) dX5_readSign_130 kmX5_expect lkX5_49 (by decide) (by decide) (Nat.le_of_ble_eq_true rfl) (by first | rfl | exact kd_b0 _ | exact kd_b1 _ | exact kd_b2 _ | exact kd_b3 _ | exact kd_b4 _ | exact kd_b5 _ | exact kd_b6 _) (by omega) rfl rfl (Nat.le_of_ble_eq_true rfl) rfl ?_
        refine ct_X5_expect hn ?_
        show Wp _ _ _ (_ :: _) _ _ _
        refine Wp.ireturn dX5_readSign_133 rfl ?_
        first | (exfalso; omega) | (rw [if_neg (by omega), if_neg (by omega), if_neg (by omega), if_neg (by omega), if_pos (by omega)] at hS; exact hgo 5 hS (MI_same hM (by omega)) (by decide))
  have h98 : ∀ y : Int, (y = 1 ∧ (nx = 6 ∨ nx = 7) ∨ y = 0 ∧ ¬ (nx = 6 ∨ nx = 7)) → sg ≠ 32 → ¬ (sg = 58 ∧ nx = 1) → ¬ (sg = 124 ∧ (nx = 6 ∨ nx = 7)) → ¬ (sg = 40 ∧ nx = 2) → Wp mX5_readSign 98 [some (vr (some 3)), some (vi sg), some (vr (some (57 + 7 * kb))), some (vi y)] [] (J1, L, R, n) (0, 0) Q := by
    intro y hy t0 t1 t2 t3
    refine Wp.iload_n rfl dX5_readSign_98 ?_
    refine Wp.bipush rfl dX5_readSign_99 ?_
    refine Wp.icmp_ne (tgt := 118) dX5_readSign_101 (by decide) (by first | omega | exact bI_R _ | exact cmp_R _ _ | assumption) (by first | omega | exact bI_R _ | exact cmp_R _ _ | assumption) (fun c101 => ?_) (fun c101 => ?_)
    · first | exact h118 y hy t0 t1 t2 t3 (by omega) | (exfalso; omega)
    · refine Wp.aload_n rfl dX5_readSign_104 ?_
      refine Wp.gi (kz := 0) rfl dX5_readSign_105 fkX5_11 (by first | rfl | exact kd_b0 _ | exact kd_b1 _ | exact kd_b2 _ | exact kd_b3 _ | exact kd_b4 _ | exact kd_b5 _ | exact kd_b6 _) (by omega) ?_
      refine Wp.iconst dX5_readSign_108 ?_
      refine Wp.icmp_ne (tgt := 118) dX5_readSign_109 (by decide) (by first | omega | exact bI_R _ | exact cmp_R _ _ | assumption) (by first | omega | exact bI_R _ | exact cmp_R _ _ | assumption) (fun c109 => ?_) (fun c109 => ?_)
      · first | exact h118 y hy t0 t1 t2 t3 (by omega) | (exfalso; omega)
      · refine Wp.aload_n rfl dX5_readSign_112 ?_
        refine Wp.iconst dX5_readSign_113 ?_
        refine Wp.callV (As := [_]) (ls0 := [_, _]) (bd := (0, 0)) (bd' := (0, 0)) dX5_readSign_114 kmX5_expect lkX5_49 (by decide) (by decide) (Nat.le_of_ble_eq_true rfl) (by first | rfl | exact kd_b0 _ | exact kd_b1 _ | exact kd_b2 _ | exact kd_b3 _ | exact kd_b4 _ | exact kd_b5 _ | exact kd_b6 _) (by omega) rfl rfl (Nat.le_of_ble_eq_true rfl) rfl ?_
        refine ct_X5_expect hn ?_
        show Wp _ _ _ (_ :: _) _ _ _
        refine Wp.ireturn dX5_readSign_117 rfl ?_
        first | (exfalso; omega) | (rw [if_neg (by omega), if_neg (by omega), if_neg (by omega), if_pos (by omega)] at hS; exact hgo 5 hS (MI_same hM (by omega)) (by decide))
  have h78 : ∀ y : Int, (y = 1 ∧ (nx = 6 ∨ nx = 7) ∨ y = 0 ∧ ¬ (nx = 6 ∨ nx = 7)) → sg ≠ 32 → ¬ (sg = 58 ∧ nx = 1) → ¬ (sg = 124 ∧ (nx = 6 ∨ nx = 7)) → Wp mX5_readSign 78 [some (vr (some 3)), some (vi sg), some (vr (some (57 + 7 * kb))), some (vi y)] [] (J1, L, R, n) (0, 0) Q := by
    intro y hy t0 t1 t2
    refine Wp.iload_n rfl dX5_readSign_78 ?_
    refine Wp.bipush rfl dX5_readSign_79 ?_
    refine Wp.icmp_ne (tgt := 98) dX5_readSign_81 (by decide) (by first | omega | exact bI_R _ | exact cmp_R _ _ | assumption) (by first | omega | exact bI_R _ | exact cmp_R _ _ | assumption) (fun c81 => ?_) (fun c81 => ?_)
    · first | exact h98 y hy t0 t1 t2 (by omega) | (exfalso; omega)
    · refine Wp.aload_n rfl dX5_readSign_84 ?_
      refine Wp.gi (kz := 0) rfl dX5_readSign_85 fkX5_11 (by first | rfl | exact kd_b0 _ | exact kd_b1 _ | exact kd_b2 _ | exact kd_b3 _ | exact kd_b4 _ | exact kd_b5 _ | exact kd_b6 _) (by omega) ?_
      refine Wp.iconst dX5_readSign_88 ?_
      refine Wp.icmp_ne (tgt := 98) dX5_readSign_89 (by decide) (by first | omega | exact bI_R _ | exact cmp_R _ _ | assumption) (by first | omega | exact bI_R _ | exact cmp_R _ _ | assumption) (fun c89 => ?_) (fun c89 => ?_)
      · first | exact h98 y hy t0 t1 t2 (by omega) | (exfalso; omega)
      · refine Wp.aload_n rfl dX5_readSign_92 ?_
        refine Wp.iconst dX5_readSign_93 ?_
        refine Wp.callV (As := [_]) (ls0 := [_, _]) (bd := (0, 0)) (bd' := (0, 0)) dX5_readSign_94 kmX5_expect lkX5_49 (by decide) (by decide) (Nat.le_of_ble_eq_true rfl) (by first | rfl | exact kd_b0 _ | exact kd_b1 _ | exact kd_b2 _ | exact kd_b3 _ | exact kd_b4 _ | exact kd_b5 _ | exact kd_b6 _) (by omega) rfl rfl (Nat.le_of_ble_eq_true rfl) rfl ?_
        refine ct_X5_expect hn ?_
        show Wp _ _ _ (_ :: _) _ _ _
        refine Wp.ireturn dX5_readSign_97 rfl ?_
        first | (exfalso; omega) | (rw [if_neg (by omega), if_neg (by omega), if_pos (by omega)] at hS; exact hgo 3 hS (MI_same hM (by omega)) (by decide))
  have h62 : ∀ y : Int, (y = 1 ∧ (nx = 6 ∨ nx = 7) ∨ y = 0 ∧ ¬ (nx = 6 ∨ nx = 7)) → sg ≠ 32 → ¬ (sg = 58 ∧ nx = 1) → Wp mX5_readSign 62 [some (vr (some 3)), some (vi sg), some (vr (some (57 + 7 * kb))), some (vi y)] [] (J1, L, R, n) (0, 0) Q := by
    intro y hy t0 t1
    refine Wp.iload_n rfl dX5_readSign_62 ?_
    refine Wp.bipush rfl dX5_readSign_63 ?_
    refine Wp.icmp_ne (tgt := 78) dX5_readSign_65 (by decide) (by first | omega | exact bI_R _ | exact cmp_R _ _ | assumption) (by first | omega | exact bI_R _ | exact cmp_R _ _ | assumption) (fun c65 => ?_) (fun c65 => ?_)
    · first | exact h78 y hy t0 t1 (by omega) | (exfalso; omega)
    · refine Wp.iload_n rfl dX5_readSign_68 ?_
      refine Wp.if_eq (tgt := 78) dX5_readSign_69 (by decide) (by first | omega | exact bI_R _ | exact cmp_R _ _ | assumption) (fun c69 => ?_) (fun c69 => ?_)
      · first | exact h78 y hy t0 t1 (by omega) | (exfalso; omega)
      · refine Wp.aload_n rfl dX5_readSign_72 ?_
        refine Wp.aload_n rfl dX5_readSign_73 ?_
        rw [if_neg (by omega), if_pos (by omega), ← e31] at hS
        refine Wp.callV (As := [_]) (ls0 := [_, _]) (bd := (0, 0)) (bd' := (0, 0)) dX5_readSign_74 kmX5_openSense lkX5_45 (by decide) (by decide) (Nat.le_of_ble_eq_true rfl) (by first | rfl | exact kd_b0 _ | exact kd_b1 _ | exact kd_b2 _ | exact kd_b3 _ | exact kd_b4 _ | exact kd_b5 _ | exact kd_b6 _) (by omega) rfl rfl (Nat.le_of_ble_eq_true rfl) rfl ?_
        refine ct_X5_openSense hn hk hBk hM hC1 e32 (by omega) hS (fun J K r hro => ?_)
        show Wp _ _ _ (_ :: _) _ _ _
        refine Wp.ireturn dX5_readSign_77 rfl ?_
        exact hq1 J K r hro
  have h42 : ∀ y : Int, (y = 1 ∧ (nx = 6 ∨ nx = 7) ∨ y = 0 ∧ ¬ (nx = 6 ∨ nx = 7)) → sg ≠ 32 → Wp mX5_readSign 42 [some (vr (some 3)), some (vi sg), some (vr (some (57 + 7 * kb))), some (vi y)] [] (J1, L, R, n) (0, 0) Q := by
    intro y hy t0
    refine Wp.iload_n rfl dX5_readSign_42 ?_
    refine Wp.bipush rfl dX5_readSign_43 ?_
    refine Wp.icmp_ne (tgt := 62) dX5_readSign_45 (by decide) (by first | omega | exact bI_R _ | exact cmp_R _ _ | assumption) (by first | omega | exact bI_R _ | exact cmp_R _ _ | assumption) (fun c45 => ?_) (fun c45 => ?_)
    · first | exact h62 y hy t0 (by omega) | (exfalso; omega)
    · refine Wp.aload_n rfl dX5_readSign_48 ?_
      refine Wp.gi (kz := 0) rfl dX5_readSign_49 fkX5_11 (by first | rfl | exact kd_b0 _ | exact kd_b1 _ | exact kd_b2 _ | exact kd_b3 _ | exact kd_b4 _ | exact kd_b5 _ | exact kd_b6 _) (by omega) ?_
      refine Wp.iconst dX5_readSign_52 ?_
      refine Wp.icmp_ne (tgt := 62) dX5_readSign_53 (by decide) (by first | omega | exact bI_R _ | exact cmp_R _ _ | assumption) (by first | omega | exact bI_R _ | exact cmp_R _ _ | assumption) (fun c53 => ?_) (fun c53 => ?_)
      · first | exact h62 y hy t0 (by omega) | (exfalso; omega)
      · refine Wp.aload_n rfl dX5_readSign_56 ?_
        refine Wp.aload_n rfl dX5_readSign_57 ?_
        rw [if_neg (by omega), if_pos (by omega), ← e31] at hS
        refine Wp.callV (As := [_]) (ls0 := [_, _]) (bd := (0, 0)) (bd' := (0, 0)) dX5_readSign_58 kmX5_openSense lkX5_45 (by decide) (by decide) (Nat.le_of_ble_eq_true rfl) (by first | rfl | exact kd_b0 _ | exact kd_b1 _ | exact kd_b2 _ | exact kd_b3 _ | exact kd_b4 _ | exact kd_b5 _ | exact kd_b6 _) (by omega) rfl rfl (Nat.le_of_ble_eq_true rfl) rfl ?_
        refine ct_X5_openSense hn hk hBk hM hC1 e32 (by omega) hS (fun J K r hro => ?_)
        show Wp _ _ _ (_ :: _) _ _ _
        refine Wp.ireturn dX5_readSign_61 rfl ?_
        exact hq1 J K r hro
  refine Wp.aload_n rfl dX5_readSign_0 ?_
  first | refine Wp.dupR dX5_readSign_1 ?_ | refine Wp.dupI dX5_readSign_1 ?_
  refine Wp.gi (kz := 1) rfl dX5_readSign_2 fkX5_15 (by first | rfl | exact kd_b0 _ | exact kd_b1 _ | exact kd_b2 _ | exact kd_b3 _ | exact kd_b4 _ | exact kd_b5 _ | exact kd_b6 _) (by omega) ?_
  refine Wp.iconst dX5_readSign_5 ?_
  refine Wp.iadd dX5_readSign_6 ?_
  refine Wp.pi (kz := 1) rfl dX5_readSign_7 fkX5_15 (Or.inl rfl) (Or.inl rfl) (by first | rfl | exact kd_b0 _ | exact kd_b1 _ | exact kd_b2 _ | exact kd_b3 _ | exact kd_b4 _ | exact kd_b5 _ | exact kd_b6 _) (by omega) ?_
  rw [h31]
  rw [hJ1]
  refine Wp.iload_n rfl dX5_readSign_10 ?_
  refine Wp.bipush rfl dX5_readSign_11 ?_
  refine Wp.icmp_ne (tgt := 18) dX5_readSign_13 (by decide) (by first | omega | exact bI_R _ | exact cmp_R _ _ | assumption) (by first | omega | exact bI_R _ | exact cmp_R _ _ | assumption) (fun c13 => ?_) (fun c13 => ?_)
  · refine Wp.aload_n rfl dX5_readSign_18 ?_
    refine Wp.gi (kz := 0) rfl dX5_readSign_19 fkX5_11 (by first | rfl | exact kd_b0 _ | exact kd_b1 _ | exact kd_b2 _ | exact kd_b3 _ | exact kd_b4 _ | exact kd_b5 _ | exact kd_b6 _) (by omega) ?_
    try simp (disch := omega) only [up_same, up_o, up_k]
    refine Wp.bipush rfl dX5_readSign_22 ?_
    refine Wp.icmp_eq (tgt := 36) dX5_readSign_24 (by decide) (by first | omega | exact bI_R _ | exact cmp_R _ _ | assumption) (by first | omega | exact bI_R _ | exact cmp_R _ _ | assumption) (fun c24 => ?_) (fun c24 => ?_)
    · refine Wp.iconst dX5_readSign_36 ?_
      refine Wp.goto (tgt := 41) dX5_readSign_37 (by decide) ?_
      refine Wp.istore_n (ls' := [_, _, _, _]) dX5_readSign_41 (by decide) rfl ?_
      first | exact h42 1 (by omega) (by omega) | exact h42 0 (by omega) (by omega)
    · refine Wp.aload_n rfl dX5_readSign_27 ?_
      refine Wp.gi (kz := 0) rfl dX5_readSign_28 fkX5_11 (by first | rfl | exact kd_b0 _ | exact kd_b1 _ | exact kd_b2 _ | exact kd_b3 _ | exact kd_b4 _ | exact kd_b5 _ | exact kd_b6 _) (by omega) ?_
      try simp (disch := omega) only [up_same, up_o, up_k]
      refine Wp.bipush rfl dX5_readSign_31 ?_
      refine Wp.icmp_ne (tgt := 40) dX5_readSign_33 (by decide) (by first | omega | exact bI_R _ | exact cmp_R _ _ | assumption) (by first | omega | exact bI_R _ | exact cmp_R _ _ | assumption) (fun c33 => ?_) (fun c33 => ?_)
      · refine Wp.iconst dX5_readSign_40 ?_
        refine Wp.istore_n (ls' := [_, _, _, _]) dX5_readSign_41 (by decide) rfl ?_
        first | exact h42 1 (by omega) (by omega) | exact h42 0 (by omega) (by omega)
      · refine Wp.iconst dX5_readSign_36 ?_
        refine Wp.goto (tgt := 41) dX5_readSign_37 (by decide) ?_
        refine Wp.istore_n (ls' := [_, _, _, _]) dX5_readSign_41 (by decide) rfl ?_
        first | exact h42 1 (by omega) (by omega) | exact h42 0 (by omega) (by omega)
  · refine Wp.iconst dX5_readSign_16 ?_
    refine Wp.ireturn dX5_readSign_17 rfl ?_
    first | (exfalso; omega) | (rw [if_pos (by omega)] at hS; exact hq1 J1 L 0 (ro_s FrD.rf FrDL.rf rfl hS ⟨hM, hA, hC1, e30, e31, e32⟩))
end

