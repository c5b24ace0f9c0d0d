/-! ===== the class: promises 1, 3 ===== -/
section
variable {I J : Nat → Int → Int} {L K : Nat → Int → BitVec 64} {R R2 : Nat → Int → Option Nat} {n kb : Nat} {Q : Option AV → Mm → Prop}
def cbO (kb : Nat) (a b day : Int) (O : Int × Int × Dr) (I J : Nat → Int → Int) (L K : Nat → Int → BitVec 64) (R R2 : Nat → Int → Option Nat) (r : Int) : Prop :=
  (∀ (o : Nat) (z : Int), o < 57 + 7 * kb → ¬ o = 3 → ¬ (o = 1 ∧ z = 1) → ¬ (o = 0 ∧ z = 10) → ¬ (o = 4 ∧ z = 2) → J o z = I o z) ∧ (∀ (o : Nat) (z : Int), o < 57 + 7 * kb → K o z = L o z) ∧ (∀ (o : Nat) (z : Int), o < 57 + 7 * kb → ¬ (o = 4 ∧ z = 1) → ¬ (o = 5 ∧ z = kb) → R2 o z = R o z) ∧ Bk R2 kb ∧ J 1 1 = 0 ∧
  ((1 ≤ O.1 ∧ O.1 ≤ 5 ∧ r = -10 - O.1 ∧ J 0 10 = O.2.1 ∧ J 4 2 = I 4 2 ∧ R2 4 1 = some (57 + 7 * kb) ∧ R2 5 kb = R 5 kb) ∨ (O.1 = 0 ∧ r = kb ∧ J 0 10 = -1 ∧ J 4 2 = (kb : Int) + 1 ∧ R2 4 1 = none ∧ R2 5 kb = some (57 + 7 * kb) ∧ CB J K kb O.2.2 ∧ J (57 + 7 * kb) 0 = a ∧ J (57 + 7 * kb) 1 = b ∧ J (57 + 7 * kb) 2 = day))
theorem Fx_fr (h : ∀ (o : Nat) (z : Int), o < 57 → ¬ (o = 4 ∧ z = 1) → ¬ o = 5 → R2 o z = R o z) (hF : Fx R) : Fx R2 := by
  intro o k r hr
  have h57 : o < 57 ∧ ¬ (o = 4 ∧ (k : Int) = 1) ∧ ¬ o = 5 := by
    unfold fxT at hr
    split at hr <;> first | (cases hr; done) | omega
  rw [h o k h57.1 h57.2.1 h57.2.2]
  exact hF o k r hr
theorem bk60 {a b day : Int} {O : Int × Int × Dr} (hFx : Fx R) (hk8 : kb < 8) (hkI : I 32 0 = kb) (h42 : I 4 2 = kb) (hT : TxR I) (hO : O = out (I 41) (I 32 13) 0 (-1) 0 (dr0 I (I 32 0))) (hnd : ndP kb a b day I J L K R R2) (hq : ∀ J' K' R' r, cbO kb a b day O I J' L K' R R' r → Q (some (vi r)) (J', K', R', 57 + 7 * kb + 7)) : Wp mX11_book 60 [some (vr (some 0)), some (vi a), some (vi b), some (vi day), none, none] [vr (some (57 + 7 * kb))] (J, K, R2, 57 + 7 * kb + 7) (0, 0) Q := by
  obtain ⟨d1, d2, d3, d4, hBk, d6, d7, d8⟩ := hnd
  have hn : 57 ≤ 57 + 7 * kb + 7 := by omega
  have hFx2 : Fx R2 := Fx_fr (fun o z ho h4 h5 => d3 o z (by omega) h4) hFx
  have hFx := hFx2
  have hTC : TxC J (I 41) (I 32 13) := by
    refine ⟨by rw [d1 1 1 (by omega)]; exact hT.1, ⟨hT.2.1.1, hT.2.1.2.1⟩, fun p p0 p1 => ⟨by rw [d1 2 p (by omega)]; exact hT.2.2 p p0 p1, hT.2.1.2.2 p p0 p1⟩⟩
  have hC0 : CB J K kb (dr0 I (I 32 0)) := CB_0 d7 d8 ⟨d6.2.2.2.1, d6.2.2.2.2⟩
  have fr : ∀ {J1 : Nat → Int → Int}, FrD kb J J1 → ∀ (o : Nat) (z : Int), o < 57 + 7 * kb → ¬ o = 3 → J1 o z = I o z := fun hF o z ho h3 => by rw [hF o z (by unfold dO; omega)]; exact d1 o z ho
  have frL : ∀ {K1 : Nat → Int → BitVec 64}, FrDL kb K K1 → ∀ (o : Nat) (z : Int), o < 57 + 7 * kb → K1 o z = L o z := fun hF o z ho => by rw [hF o z (by omega)]; exact d2 o z ho
  refine Wp.astore (ls' := [_, _, _, _, _, _]) dX11_book_60 (by decide) rfl ?_
  refine Wp.aload_n rfl dX11_book_62 ?_
  refine Wp.gr (kz := 1) rfl dX11_book_63 fkX11_19 (by first | rfl | exact kd_b0 _ | exact kd_b1 _ | exact kd_b2 _ | exact kd_b3 _ | exact kd_b4 _ | exact kd_b5 _ | exact kd_b6 _) (by omega) (by first | exact hFx _ 1 _ rfl | assumption | exact hBk.1 | exact hBk.2.1 | exact hBk.2.2.1 | exact hBk.2.2.2.1 | exact hBk.2.2.2.2.1 | exact hBk.2.2.2.2.2) ?_
  refine Wp.aload_n rfl dX11_book_66 ?_
  refine Wp.gr (kz := 0) rfl dX11_book_67 fkX11_12 (by first | rfl | exact kd_b0 _ | exact kd_b1 _ | exact kd_b2 _ | exact kd_b3 _ | exact kd_b4 _ | exact kd_b5 _ | exact kd_b6 _) (by omega) (by first | exact hFx _ 0 _ rfl | assumption | exact hBk.1 | exact hBk.2.1 | exact hBk.2.2.1 | exact hBk.2.2.2.1 | exact hBk.2.2.2.2.1 | exact hBk.2.2.2.2.2) ?_
  refine Wp.aload rfl dX11_book_70 ?_
  refine Wp.callV (As := [_, _]) (ls0 := [_, _, _, _, _]) (bd := (0, 0)) (bd' := (0, 0)) dX11_book_72 kmX5_read lkX11_107 (by decide) (by decide) (Nat.le_of_ble_eq_true rfl) (by first | rfl | exact kd_b0 _ | exact kd_b1 _ | exact kd_b2 _ | exact kd_b3 _ | exact kd_b4 _ | exact kd_b5 _ | exact kd_b6 _) (by omega) rfl rfl (Nat.le_of_ble_eq_true rfl) rfl ?_
  refine ct_X5_read (kb := kb) (T := I 41) (N := I 32 13) hn hFx2 (by omega) hBk hTC (MI_0 I (I 32 0)) hC0 hO (fun J1 K1 r hrd => ?_)
  obtain ⟨hF1, hF2, hr, hcase⟩ := hrd
  have hr5 : 0 ≤ r ∧ r ≤ 5 := by rcases hcase with h | h <;> omega
  have hend0 : r = 0 → O.1 = 0 ∧ CB J1 K1 kb O.2.2 := fun h0 => ⟨by omega, (hcase.resolve_left (fun q => by omega)).2⟩
  have hend1 : r ≠ 0 → 1 ≤ O.1 ∧ O.1 ≤ 5 ∧ J1 3 3 = O.2.1 := fun h0 => by have h := hcase.resolve_right (fun q => h0 q.1); exact ⟨by omega, by omega, h.2.2⟩
  have e42 : J1 4 2 = kb := by rw [fr hF1 4 2 (by omega) (by omega)]; exact h42
  clear hcase hC0 hTC
  show Wp _ _ _ (_ :: _) _ _ _
  refine Wp.istore (ls' := [_, _, _, _, _, _]) dX11_book_75 (by decide) rfl ?_
  refine Wp.aload_n rfl dX11_book_77 ?_
  refine Wp.gr (kz := 0) rfl dX11_book_78 fkX11_12 (by first | rfl | exact kd_b0 _ | exact kd_b1 _ | exact kd_b2 _ | exact kd_b3 _ | exact kd_b4 _ | exact kd_b5 _ | exact kd_b6 _) (by omega) (by first | exact hFx _ 0 _ rfl | assumption | exact hBk.1 | exact hBk.2.1 | exact hBk.2.2.1 | exact hBk.2.2.2.1 | exact hBk.2.2.2.2.1 | exact hBk.2.2.2.2.2) ?_
  refine Wp.iconst dX11_book_81 ?_
  refine Wp.pi (kz := 1) rfl dX11_book_82 fkX11_91 (Or.inl rfl) (Or.inl rfl) (by first | rfl | exact kd_b0 _ | exact kd_b1 _ | exact kd_b2 _ | exact kd_b3 _ | exact kd_b4 _ | exact kd_b5 _ | exact kd_b6 _) (by omega) ?_
  refine Wp.aload_n rfl dX11_book_85 ?_
  refine Wp.iload rfl dX11_book_86 ?_
  refine Wp.if_ne (tgt := 95) dX11_book_88 (by decide) (by first | omega | exact bI_R _ | exact cmp_R _ _ | assumption) (fun c88 => ?_) (fun c88 => ?_)
  · refine Wp.aload_n rfl dX11_book_95 ?_
    refine Wp.gr (kz := 1) rfl dX11_book_96 fkX11_19 (by first | rfl | exact kd_b0 _ | exact kd_b1 _ | exact kd_b2 _ | exact kd_b3 _ | exact kd_b4 _ | exact kd_b5 _ | exact kd_b6 _) (by omega) (by first | exact hFx _ 1 _ rfl | assumption | exact hBk.1 | exact hBk.2.1 | exact hBk.2.2.1 | exact hBk.2.2.2.1 | exact hBk.2.2.2.2.1 | exact hBk.2.2.2.2.2) ?_
    try simp (disch := omega) only [up_same, up_o, up_k]
    refine Wp.gi (kz := 3) rfl dX11_book_99 fkX11_111 (by first | rfl | exact kd_b0 _ | exact kd_b1 _ | exact kd_b2 _ | exact kd_b3 _ | exact kd_b4 _ | exact kd_b5 _ | exact kd_b6 _) (by omega) ?_
    try simp (disch := omega) only [up_same, up_o, up_k]
    refine Wp.pi (kz := 10) rfl dX11_book_102 fkX11_79 (Or.inl rfl) (Or.inl rfl) (by first | rfl | exact kd_b0 _ | exact kd_b1 _ | exact kd_b2 _ | exact kd_b3 _ | exact kd_b4 _ | exact kd_b5 _ | exact kd_b6 _) (by omega) ?_
    refine Wp.iload rfl dX11_book_105 ?_
    refine Wp.if_ne (tgt := 120) dX11_book_107 (by decide) (by first | omega | exact bI_R _ | exact cmp_R _ _ | assumption) (fun c107 => ?_) (fun c107 => ?_)
    · refine Wp.bipush rfl dX11_book_120 ?_
      refine Wp.iload rfl dX11_book_122 ?_
      refine Wp.isub dX11_book_124 ?_
      refine Wp.ireturn dX11_book_125 rfl ?_
      first
      | (exfalso; omega)
      | (refine hq _ K1 _ _ ⟨fun o z ho h3 h11 h010 h42' => ?_, frL hF2, fun o z ho h41 h5 => ?_, ?_, ?_, Or.inr ⟨(hend0 (by omega)).1, rfl, ?_, up_same _ _ _ _, up_same _ _ _ _, ?_, ?_, ?_, ?_, ?_⟩⟩; (unfold up; rw [if_neg h42', if_neg h010, if_neg h11]; exact fr hF1 o z ho h3); (unfold up; rw [if_neg h41, if_neg h5]; exact d3 o z ho h41); (unfold Bk at hBk ⊢; simp (disch := omega) only [up_same, up_o, up_k]; exact hBk); (simp (disch := omega) only [up_same, up_o, up_k]); (simp (disch := omega) only [up_same, up_o, up_k]); (simp (disch := omega) only [up_same, up_o, up_k]); (exact CB_cg (fun o z _ _ => by simp (disch := omega) only [up_same, up_o, up_k]) (fun _ _ _ _ => rfl) (hend0 (by omega)).2); (simp (disch := omega) only [up_same, up_o, up_k]; rw [hF1 _ _ (by unfold dO; omega)]; exact d6.1); (simp (disch := omega) only [up_same, up_o, up_k]; rw [hF1 _ _ (by unfold dO; omega)]; exact d6.2.1); (simp (disch := omega) only [up_same, up_o, up_k]; rw [hF1 _ _ (by unfold dO; omega)]; exact d6.2.2.1))
      | (have h1 := hend1 (by omega); refine hq _ K1 R2 _ ⟨fun o z ho h3 h11 h010 h42' => ?_, frL hF2, fun o z ho h41 h5 => d3 o z ho h41, hBk, ?_, Or.inl ⟨h1.1, h1.2.1, by omega, ?_, ?_, d4, ?_⟩⟩; (unfold up; rw [if_neg h010, if_neg h11]; exact fr hF1 o z ho h3); (simp (disch := omega) only [up_same, up_o, up_k]); (simp (disch := omega) only [up_same, up_o, up_k]; exact h1.2.2); (simp (disch := omega) only [up_same, up_o, up_k]; rw [e42, h42]); (exact d3 5 _ (by omega) (by omega)))
    · refine Wp.aload_n rfl dX11_book_110 ?_
      refine Wp.gr (kz := 2) rfl dX11_book_111 fkX11_26 (by first | rfl | exact kd_b0 _ | exact kd_b1 _ | exact kd_b2 _ | exact kd_b3 _ | exact kd_b4 _ | exact kd_b5 _ | exact kd_b6 _) (by omega) (by first | exact hFx _ 2 _ rfl | assumption | exact hBk.1 | exact hBk.2.1 | exact hBk.2.2.1 | exact hBk.2.2.2.1 | exact hBk.2.2.2.2.1 | exact hBk.2.2.2.2.2) ?_
      try simp (disch := omega) only [up_same, up_o, up_k]
      refine Wp.callV (As := []) (ls0 := [_]) (bd := (0, 0)) (bd' := (0, 0)) dX11_book_114 kmX8_keepDraft lkX11_114 (by decide) (by decide) (Nat.le_of_ble_eq_true rfl) (by first | rfl | exact kd_b0 _ | exact kd_b1 _ | exact kd_b2 _ | exact kd_b3 _ | exact kd_b4 _ | exact kd_b5 _ | exact kd_b6 _) (by omega) rfl rfl (Nat.le_of_ble_eq_true rfl) rfl ?_
      refine ct_X8_keepDraft (by omega) hFx2 d4 (by simp (disch := omega) only [up_same, up_o, up_k]; exact e42) hk8 ?_
      show Wp _ _ _ (_ :: _) _ _ _
      refine Wp.goto (tgt := 125) dX11_book_117 (by decide) ?_
      refine Wp.ireturn dX11_book_125 rfl ?_
      first
      | (exfalso; omega)
      | (refine hq _ K1 _ _ ⟨fun o z ho h3 h11 h010 h42' => ?_, frL hF2, fun o z ho h41 h5 => ?_, ?_, ?_, Or.inr ⟨(hend0 (by omega)).1, rfl, ?_, up_same _ _ _ _, up_same _ _ _ _, ?_, ?_, ?_, ?_, ?_⟩⟩; (unfold up; rw [if_neg h42', if_neg h010, if_neg h11]; exact fr hF1 o z ho h3); (unfold up; rw [if_neg h41, if_neg h5]; exact d3 o z ho h41); (unfold Bk at hBk ⊢; simp (disch := omega) only [up_same, up_o, up_k]; exact hBk); (simp (disch := omega) only [up_same, up_o, up_k]); (simp (disch := omega) only [up_same, up_o, up_k]); (simp (disch := omega) only [up_same, up_o, up_k]); (exact CB_cg (fun o z _ _ => by simp (disch := omega) only [up_same, up_o, up_k]) (fun _ _ _ _ => rfl) (hend0 (by omega)).2); (simp (disch := omega) only [up_same, up_o, up_k]; rw [hF1 _ _ (by unfold dO; omega)]; exact d6.1); (simp (disch := omega) only [up_same, up_o, up_k]; rw [hF1 _ _ (by unfold dO; omega)]; exact d6.2.1); (simp (disch := omega) only [up_same, up_o, up_k]; rw [hF1 _ _ (by unfold dO; omega)]; exact d6.2.2.1))
      | (have h1 := hend1 (by omega); refine hq _ K1 R2 _ ⟨fun o z ho h3 h11 h010 h42' => ?_, frL hF2, fun o z ho h41 h5 => d3 o z ho h41, hBk, ?_, Or.inl ⟨h1.1, h1.2.1, by omega, ?_, ?_, d4, ?_⟩⟩; (unfold up; rw [if_neg h010, if_neg h11]; exact fr hF1 o z ho h3); (simp (disch := omega) only [up_same, up_o, up_k]); (simp (disch := omega) only [up_same, up_o, up_k]; exact h1.2.2); (simp (disch := omega) only [up_same, up_o, up_k]; rw [e42, h42]); (exact d3 5 _ (by omega) (by omega)))
  · refine Wp.iconst dX11_book_91 ?_
    refine Wp.goto (tgt := 102) dX11_book_92 (by decide) ?_
    refine Wp.pi (kz := 10) rfl dX11_book_102 fkX11_79 (Or.inl rfl) (Or.inl rfl) (by first | rfl | exact kd_b0 _ | exact kd_b1 _ | exact kd_b2 _ | exact kd_b3 _ | exact kd_b4 _ | exact kd_b5 _ | exact kd_b6 _) (by omega) ?_
    refine Wp.iload rfl dX11_book_105 ?_
    refine Wp.if_ne (tgt := 120) dX11_book_107 (by decide) (by first | omega | exact bI_R _ | exact cmp_R _ _ | assumption) (fun c107 => ?_) (fun c107 => ?_)
    · refine Wp.bipush rfl dX11_book_120 ?_
      refine Wp.iload rfl dX11_book_122 ?_
      refine Wp.isub dX11_book_124 ?_
      refine Wp.ireturn dX11_book_125 rfl ?_
      first
      | (exfalso; omega)
      | (refine hq _ K1 _ _ ⟨fun o z ho h3 h11 h010 h42' => ?_, frL hF2, fun o z ho h41 h5 => ?_, ?_, ?_, Or.inr ⟨(hend0 (by omega)).1, rfl, ?_, up_same _ _ _ _, up_same _ _ _ _, ?_, ?_, ?_, ?_, ?_⟩⟩; (unfold up; rw [if_neg h42', if_neg h010, if_neg h11]; exact fr hF1 o z ho h3); (unfold up; rw [if_neg h41, if_neg h5]; exact d3 o z ho h41); (unfold Bk at hBk ⊢; simp (disch := omega) only [up_same, up_o, up_k]; exact hBk); (simp (disch := omega) only [up_same, up_o, up_k]); (simp (disch := omega) only [up_same, up_o, up_k]); (simp (disch := omega) only [up_same, up_o, up_k]); (exact CB_cg (fun o z _ _ => by simp (disch := omega) only [up_same, up_o, up_k]) (fun _ _ _ _ => rfl) (hend0 (by omega)).2); (simp (disch := omega) only [up_same, up_o, up_k]; rw [hF1 _ _ (by unfold dO; omega)]; exact d6.1); (simp (disch := omega) only [up_same, up_o, up_k]; rw [hF1 _ _ (by unfold dO; omega)]; exact d6.2.1); (simp (disch := omega) only [up_same, up_o, up_k]; rw [hF1 _ _ (by unfold dO; omega)]; exact d6.2.2.1))
      | (have h1 := hend1 (by omega); refine hq _ K1 R2 _ ⟨fun o z ho h3 h11 h010 h42' => ?_, frL hF2, fun o z ho h41 h5 => d3 o z ho h41, hBk, ?_, Or.inl ⟨h1.1, h1.2.1, by omega, ?_, ?_, d4, ?_⟩⟩; (unfold up; rw [if_neg h010, if_neg h11]; exact fr hF1 o z ho h3); (simp (disch := omega) only [up_same, up_o, up_k]); (simp (disch := omega) only [up_same, up_o, up_k]; exact h1.2.2); (simp (disch := omega) only [up_same, up_o, up_k]; rw [e42, h42]); (exact d3 5 _ (by omega) (by omega)))
    · refine Wp.aload_n rfl dX11_book_110 ?_
      refine Wp.gr (kz := 2) rfl dX11_book_111 fkX11_26 (by first | rfl | exact kd_b0 _ | exact kd_b1 _ | exact kd_b2 _ | exact kd_b3 _ | exact kd_b4 _ | exact kd_b5 _ | exact kd_b6 _) (by omega) (by first | exact hFx _ 2 _ rfl | assumption | exact hBk.1 | exact hBk.2.1 | exact hBk.2.2.1 | exact hBk.2.2.2.1 | exact hBk.2.2.2.2.1 | exact hBk.2.2.2.2.2) ?_
      try simp (disch := omega) only [up_same, up_o, up_k]
      refine Wp.callV (As := []) (ls0 := [_]) (bd := (0, 0)) (bd' := (0, 0)) dX11_book_114 kmX8_keepDraft lkX11_114 (by decide) (by decide) (Nat.le_of_ble_eq_true rfl) (by first | rfl | exact kd_b0 _ | exact kd_b1 _ | exact kd_b2 _ | exact kd_b3 _ | exact kd_b4 _ | exact kd_b5 _ | exact kd_b6 _) (by omega) rfl rfl (Nat.le_of_ble_eq_true rfl) rfl ?_
      refine ct_X8_keepDraft (by omega) hFx2 d4 (by simp (disch := omega) only [up_same, up_o, up_k]; exact e42) hk8 ?_
      show Wp _ _ _ (_ :: _) _ _ _
      refine Wp.goto (tgt := 125) dX11_book_117 (by decide) ?_
      refine Wp.ireturn dX11_book_125 rfl ?_
      first
      | (exfalso; omega)
      | (refine hq _ K1 _ _ ⟨fun o z ho h3 h11 h010 h42' => ?_, frL hF2, fun o z ho h41 h5 => ?_, ?_, ?_, Or.inr ⟨(hend0 (by omega)).1, rfl, ?_, up_same _ _ _ _, up_same _ _ _ _, ?_, ?_, ?_, ?_, ?_⟩⟩; (unfold up; rw [if_neg h42', if_neg h010, if_neg h11]; exact fr hF1 o z ho h3); (unfold up; rw [if_neg h41, if_neg h5]; exact d3 o z ho h41); (unfold Bk at hBk ⊢; simp (disch := omega) only [up_same, up_o, up_k]; exact hBk); (simp (disch := omega) only [up_same, up_o, up_k]); (simp (disch := omega) only [up_same, up_o, up_k]); (simp (disch := omega) only [up_same, up_o, up_k]); (exact CB_cg (fun o z _ _ => by simp (disch := omega) only [up_same, up_o, up_k]) (fun _ _ _ _ => rfl) (hend0 (by omega)).2); (simp (disch := omega) only [up_same, up_o, up_k]; rw [hF1 _ _ (by unfold dO; omega)]; exact d6.1); (simp (disch := omega) only [up_same, up_o, up_k]; rw [hF1 _ _ (by unfold dO; omega)]; exact d6.2.1); (simp (disch := omega) only [up_same, up_o, up_k]; rw [hF1 _ _ (by unfold dO; omega)]; exact d6.2.2.1))
      | (have h1 := hend1 (by omega); refine hq _ K1 R2 _ ⟨fun o z ho h3 h11 h010 h42' => ?_, frL hF2, fun o z ho h41 h5 => d3 o z ho h41, hBk, ?_, Or.inl ⟨h1.1, h1.2.1, by omega, ?_, ?_, d4, ?_⟩⟩; (unfold up; rw [if_neg h010, if_neg h11]; exact fr hF1 o z ho h3); (simp (disch := omega) only [up_same, up_o, up_k]); (simp (disch := omega) only [up_same, up_o, up_k]; exact h1.2.2); (simp (disch := omega) only [up_same, up_o, up_k]; rw [e42, h42]); (exact d3 5 _ (by omega) (by omega)))
theorem ct_book_no {a b day : Int} (hS : ShR I L R n) (ha : inR a) (hb : inR b) (hdy : inR day) (hno : ¬ okBook (I 32 0) a b day) (hq : Q (some (vi (noBook a b day))) (I, L, R, n)) : Wp mX11_book 0 [some (vr (some 0)), some (vi a), some (vi b), some (vi day), none, none] [] (I, L, R, n) (0, 0) Q := by
  have hn := hS.1
  have hFx := hS.2.1
  have h42 := hS.2.2.2.1
  have hN0 := hS.2.2.1.1
  have hN1 := hS.2.2.1.2.1
  refine Wp.iload_n rfl dX11_book_0 ?_
  refine Wp.callS (As := [_]) (ls0 := [_]) (bd := (0, 0)) (bd' := (0, 0)) dX11_book_1 kmX11_isTongue lkX11_94 (by decide) (by decide) (Nat.le_of_ble_eq_true rfl) rfl rfl (Nat.le_of_ble_eq_true rfl) rfl ?_
  refine ct_X11_isTongue (by omega) ?_
  show Wp _ _ _ (_ :: _) _ _ _
  refine Wp.if_eqB (tgt := 14) dX11_book_4 (by decide) (fun c4 => ?_) (fun c4 => ?_)
  · refine Wp.sipush rfl dX11_book_14 ?_
    refine Wp.ireturn dX11_book_17 rfl ?_
    first | (exfalso; omega) | (exact qI hq (by unfold noBook; (repeat' split) <;> first | (exfalso; omega) | rfl))
  · refine Wp.iload_n rfl dX11_book_7 ?_
    refine Wp.callS (As := [_]) (ls0 := [_]) (bd := (0, 0)) (bd' := (0, 0)) dX11_book_8 kmX11_isTongue lkX11_94 (by decide) (by decide) (Nat.le_of_ble_eq_true rfl) rfl rfl (Nat.le_of_ble_eq_true rfl) rfl ?_
    refine ct_X11_isTongue (by omega) ?_
    show Wp _ _ _ (_ :: _) _ _ _
    refine Wp.if_neB (tgt := 18) dX11_book_11 (by decide) (fun c11 => ?_) (fun c11 => ?_)
    · refine Wp.iload_n rfl dX11_book_18 ?_
      refine Wp.iload_n rfl dX11_book_19 ?_
      refine Wp.icmp_eq (tgt := 30) dX11_book_20 (by decide) (by first | omega | exact bI_R _ | exact cmp_R _ _ | assumption) (by first | omega | exact bI_R _ | exact cmp_R _ _ | assumption) (fun c20 => ?_) (fun c20 => ?_)
      · refine Wp.sipush rfl dX11_book_30 ?_
        refine Wp.ireturn dX11_book_33 rfl ?_
        first | (exfalso; omega) | (exact qI hq (by unfold noBook; (repeat' split) <;> first | (exfalso; omega) | rfl))
      · refine Wp.iload_n rfl dX11_book_23 ?_
        refine Wp.callS (As := [_]) (ls0 := [_]) (bd := (0, 0)) (bd' := (0, 0)) dX11_book_24 kmX11_isDay lkX11_97 (by decide) (by decide) (Nat.le_of_ble_eq_true rfl) rfl rfl (Nat.le_of_ble_eq_true rfl) rfl ?_
        refine ct_X11_isDay (by omega) ?_
        show Wp _ _ _ (_ :: _) _ _ _
        refine Wp.if_neB (tgt := 34) dX11_book_27 (by decide) (fun c27 => ?_) (fun c27 => ?_)
        · refine Wp.aload_n rfl dX11_book_34 ?_
          refine Wp.gr (kz := 2) rfl dX11_book_35 fkX11_26 (by first | rfl | exact kd_b0 _ | exact kd_b1 _ | exact kd_b2 _ | exact kd_b3 _ | exact kd_b4 _ | exact kd_b5 _ | exact kd_b6 _) (by omega) (by first | exact hFx _ 2 _ rfl | assumption | exact hBk.1 | exact hBk.2.1 | exact hBk.2.2.1 | exact hBk.2.2.2.1 | exact hBk.2.2.2.2.1 | exact hBk.2.2.2.2.2) ?_
          refine Wp.gi (kz := 2) rfl dX11_book_38 fkX11_100 (by first | rfl | exact kd_b0 _ | exact kd_b1 _ | exact kd_b2 _ | exact kd_b3 _ | exact kd_b4 _ | exact kd_b5 _ | exact kd_b6 _) (by omega) ?_
          refine Wp.bipush rfl dX11_book_41 ?_
          refine Wp.icmp_lt (tgt := 50) dX11_book_43 (by decide) (by first | omega | exact bI_R _ | exact cmp_R _ _ | assumption) (by first | omega | exact bI_R _ | exact cmp_R _ _ | assumption) (fun c43 => ?_) (fun c43 => ?_)
          · exfalso; omega
          · refine Wp.sipush rfl dX11_book_46 ?_
            refine Wp.ireturn dX11_book_49 rfl ?_
            first | (exfalso; omega) | (exact qI hq (by unfold noBook; (repeat' split) <;> first | (exfalso; omega) | rfl))
        · refine Wp.sipush rfl dX11_book_30 ?_
          refine Wp.ireturn dX11_book_33 rfl ?_
          first | (exfalso; omega) | (exact qI hq (by unfold noBook; (repeat' split) <;> first | (exfalso; omega) | rfl))
    · refine Wp.sipush rfl dX11_book_14 ?_
      refine Wp.ireturn dX11_book_17 rfl ?_
      first | (exfalso; omega) | (exact qI hq (by unfold noBook; (repeat' split) <;> first | (exfalso; omega) | rfl))
theorem ct_book_1 {a b day : Int} {O : Int × Int × Dr} (hS : ShR I L R n) (hk : I 32 0 = kb) (hok : okBook (I 32 0) a b day) (hT : TxR I) (hn7 : n = 57 + 7 * kb + 7) (h41 : R 4 1 = some (57 + 7 * kb)) (hBk : Bk R kb) (hO : O = out (I 41) (I 32 13) 0 (-1) 0 (dr0 I (I 32 0))) (hq : ∀ J' K' R' r, cbO kb a b day O I J' L K' R R' r → Q (some (vi r)) (J', K', R', 57 + 7 * kb + 7)) : Wp mX11_book 0 [some (vr (some 0)), some (vi a), some (vi b), some (vi day), none, none] [] (I, L, R, n) (0, 0) Q := by
  have hn := hS.1
  have hFx := hS.2.1
  have h42 := hS.2.2.2.1
  refine Wp.iload_n rfl dX11_book_0 ?_
  refine Wp.callS (As := [_]) (ls0 := [_]) (bd := (0, 0)) (bd' := (0, 0)) dX11_book_1 kmX11_isTongue lkX11_94 (by decide) (by decide) (Nat.le_of_ble_eq_true rfl) rfl rfl (Nat.le_of_ble_eq_true rfl) rfl ?_
  refine ct_X11_isTongue (by omega) ?_
  show Wp _ _ _ (_ :: _) _ _ _
  refine Wp.if_eqB (tgt := 14) dX11_book_4 (by decide) (fun c4 => ?_) (fun c4 => ?_)
  · refine Wp.sipush rfl dX11_book_14 ?_
    refine Wp.ireturn dX11_book_17 rfl ?_
    first | (exfalso; omega) | (exfalso; omega)
  · refine Wp.iload_n rfl dX11_book_7 ?_
    refine Wp.callS (As := [_]) (ls0 := [_]) (bd := (0, 0)) (bd' := (0, 0)) dX11_book_8 kmX11_isTongue lkX11_94 (by decide) (by decide) (Nat.le_of_ble_eq_true rfl) rfl rfl (Nat.le_of_ble_eq_true rfl) rfl ?_
    refine ct_X11_isTongue (by omega) ?_
    show Wp _ _ _ (_ :: _) _ _ _
    refine Wp.if_neB (tgt := 18) dX11_book_11 (by decide) (fun c11 => ?_) (fun c11 => ?_)
    · refine Wp.iload_n rfl dX11_book_18 ?_
      refine Wp.iload_n rfl dX11_book_19 ?_
      refine Wp.icmp_eq (tgt := 30) dX11_book_20 (by decide) (by first | omega | exact bI_R _ | exact cmp_R _ _ | assumption) (by first | omega | exact bI_R _ | exact cmp_R _ _ | assumption) (fun c20 => ?_) (fun c20 => ?_)
      · refine Wp.sipush rfl dX11_book_30 ?_
        refine Wp.ireturn dX11_book_33 rfl ?_
        first | (exfalso; omega) | (exfalso; omega)
      · refine Wp.iload_n rfl dX11_book_23 ?_
        refine Wp.callS (As := [_]) (ls0 := [_]) (bd := (0, 0)) (bd' := (0, 0)) dX11_book_24 kmX11_isDay lkX11_97 (by decide) (by decide) (Nat.le_of_ble_eq_true rfl) rfl rfl (Nat.le_of_ble_eq_true rfl) rfl ?_
        refine ct_X11_isDay (by omega) ?_
        show Wp _ _ _ (_ :: _) _ _ _
        refine Wp.if_neB (tgt := 34) dX11_book_27 (by decide) (fun c27 => ?_) (fun c27 => ?_)
        · refine Wp.aload_n rfl dX11_book_34 ?_
          refine Wp.gr (kz := 2) rfl dX11_book_35 fkX11_26 (by first | rfl | exact kd_b0 _ | exact kd_b1 _ | exact kd_b2 _ | exact kd_b3 _ | exact kd_b4 _ | exact kd_b5 _ | exact kd_b6 _) (by omega) (by first | exact hFx _ 2 _ rfl | assumption | exact hBk.1 | exact hBk.2.1 | exact hBk.2.2.1 | exact hBk.2.2.2.1 | exact hBk.2.2.2.2.1 | exact hBk.2.2.2.2.2) ?_
          refine Wp.gi (kz := 2) rfl dX11_book_38 fkX11_100 (by first | rfl | exact kd_b0 _ | exact kd_b1 _ | exact kd_b2 _ | exact kd_b3 _ | exact kd_b4 _ | exact kd_b5 _ | exact kd_b6 _) (by omega) ?_
          refine Wp.bipush rfl dX11_book_41 ?_
          refine Wp.icmp_lt (tgt := 50) dX11_book_43 (by decide) (by first | omega | exact bI_R _ | exact cmp_R _ _ | assumption) (by first | omega | exact bI_R _ | exact cmp_R _ _ | assumption) (fun c43 => ?_) (fun c43 => ?_)
          · refine Wp.aload_n rfl dX11_book_50 ?_
            refine Wp.gr (kz := 2) rfl dX11_book_51 fkX11_26 (by first | rfl | exact kd_b0 _ | exact kd_b1 _ | exact kd_b2 _ | exact kd_b3 _ | exact kd_b4 _ | exact kd_b5 _ | exact kd_b6 _) (by omega) (by first | exact hFx _ 2 _ rfl | assumption | exact hBk.1 | exact hBk.2.1 | exact hBk.2.2.1 | exact hBk.2.2.2.1 | exact hBk.2.2.2.2.1 | exact hBk.2.2.2.2.2) ?_
            refine Wp.iload_n rfl dX11_book_54 ?_
            refine Wp.iload_n rfl dX11_book_55 ?_
            refine Wp.iload_n rfl dX11_book_56 ?_
            refine Wp.callV (As := [_, _, _]) (ls0 := [_, _, _, _]) (bd := (0, 0)) (bd' := (0, 0)) dX11_book_57 kmX8_newDraft lkX11_103 (by decide) (by decide) (Nat.le_of_ble_eq_true rfl) (by first | rfl | exact kd_b0 _ | exact kd_b1 _ | exact kd_b2 _ | exact kd_b3 _ | exact kd_b4 _ | exact kd_b5 _ | exact kd_b6 _) (by omega) rfl rfl (Nat.le_of_ble_eq_true rfl) rfl ?_
            refine ct_newDraft1 (kb := kb) hn7 hBk h41 (fun J K hnd => ?_)
            show Wp _ _ _ (_ :: _) _ _ _
            rw [hn7]; exact bk60 hFx (by omega) hk (by omega) hT hO hnd hq
          · refine Wp.sipush rfl dX11_book_46 ?_
            refine Wp.ireturn dX11_book_49 rfl ?_
            first | (exfalso; omega) | (exfalso; omega)
        · refine Wp.sipush rfl dX11_book_30 ?_
          refine Wp.ireturn dX11_book_33 rfl ?_
          first | (exfalso; omega) | (exfalso; omega)
    · refine Wp.sipush rfl dX11_book_14 ?_
      refine Wp.ireturn dX11_book_17 rfl ?_
      first | (exfalso; omega) | (exfalso; omega)
theorem ct_book_0 {a b day : Int} {O : Int × Int × Dr} (hS : ShR I L R n) (hk : I 32 0 = kb) (hok : okBook (I 32 0) a b day) (hT : TxR I) (hn7 : n = 57 + 7 * kb) (h41 : R 4 1 = none) (hO : O = out (I 41) (I 32 13) 0 (-1) 0 (dr0 I (I 32 0))) (hq : ∀ J' K' R' r, cbO kb a b day O I J' L K' R R' r → Q (some (vi r)) (J', K', R', 57 + 7 * kb + 7)) : Wp mX11_book 0 [some (vr (some 0)), some (vi a), some (vi b), some (vi day), none, none] [] (I, L, R, n) (7, 1873) Q := by
  have hn := hS.1
  have hFx := hS.2.1
  have h42 := hS.2.2.2.1
  refine Wp.iload_n rfl dX11_book_0 ?_
  refine Wp.callS (As := [_]) (ls0 := [_]) (bd := (7, 1873)) (bd' := (0, 0)) dX11_book_1 kmX11_isTongue lkX11_94 (by decide) (by decide) (Nat.le_of_ble_eq_true rfl) rfl rfl (Nat.le_of_ble_eq_true rfl) rfl ?_
  refine ct_X11_isTongue (by omega) ?_
  show Wp _ _ _ (_ :: _) _ _ _
  refine Wp.if_eqB (tgt := 14) dX11_book_4 (by decide) (fun c4 => ?_) (fun c4 => ?_)
  · exfalso; omega
  · refine Wp.iload_n rfl dX11_book_7 ?_
    refine Wp.callS (As := [_]) (ls0 := [_]) (bd := (7, 1873)) (bd' := (0, 0)) dX11_book_8 kmX11_isTongue lkX11_94 (by decide) (by decide) (Nat.le_of_ble_eq_true rfl) rfl rfl (Nat.le_of_ble_eq_true rfl) rfl ?_
    refine ct_X11_isTongue (by omega) ?_
    show Wp _ _ _ (_ :: _) _ _ _
    refine Wp.if_neB (tgt := 18) dX11_book_11 (by decide) (fun c11 => ?_) (fun c11 => ?_)
    · refine Wp.iload_n rfl dX11_book_18 ?_
      refine Wp.iload_n rfl dX11_book_19 ?_
      refine Wp.icmp_eq (tgt := 30) dX11_book_20 (by decide) (by first | omega | exact bI_R _ | exact cmp_R _ _ | assumption) (by first | omega | exact bI_R _ | exact cmp_R _ _ | assumption) (fun c20 => ?_) (fun c20 => ?_)
      · exfalso; omega
      · refine Wp.iload_n rfl dX11_book_23 ?_
        refine Wp.callS (As := [_]) (ls0 := [_]) (bd := (7, 1873)) (bd' := (0, 0)) dX11_book_24 kmX11_isDay lkX11_97 (by decide) (by decide) (Nat.le_of_ble_eq_true rfl) rfl rfl (Nat.le_of_ble_eq_true rfl) rfl ?_
        refine ct_X11_isDay (by omega) ?_
        show Wp _ _ _ (_ :: _) _ _ _
        refine Wp.if_neB (tgt := 34) dX11_book_27 (by decide) (fun c27 => ?_) (fun c27 => ?_)
        · refine Wp.aload_n rfl dX11_book_34 ?_
          refine Wp.gr (kz := 2) rfl dX11_book_35 fkX11_26 (by first | rfl | exact kd_b0 _ | exact kd_b1 _ | exact kd_b2 _ | exact kd_b3 _ | exact kd_b4 _ | exact kd_b5 _ | exact kd_b6 _) (by omega) (by first | exact hFx _ 2 _ rfl | assumption | exact hBk.1 | exact hBk.2.1 | exact hBk.2.2.1 | exact hBk.2.2.2.1 | exact hBk.2.2.2.2.1 | exact hBk.2.2.2.2.2) ?_
          refine Wp.gi (kz := 2) rfl dX11_book_38 fkX11_100 (by first | rfl | exact kd_b0 _ | exact kd_b1 _ | exact kd_b2 _ | exact kd_b3 _ | exact kd_b4 _ | exact kd_b5 _ | exact kd_b6 _) (by omega) ?_
          refine Wp.bipush rfl dX11_book_41 ?_
          refine Wp.icmp_lt (tgt := 50) dX11_book_43 (by decide) (by first | omega | exact bI_R _ | exact cmp_R _ _ | assumption) (by first | omega | exact bI_R _ | exact cmp_R _ _ | assumption) (fun c43 => ?_) (fun c43 => ?_)
          · refine Wp.aload_n rfl dX11_book_50 ?_
            refine Wp.gr (kz := 2) rfl dX11_book_51 fkX11_26 (by first | rfl | exact kd_b0 _ | exact kd_b1 _ | exact kd_b2 _ | exact kd_b3 _ | exact kd_b4 _ | exact kd_b5 _ | exact kd_b6 _) (by omega) (by first | exact hFx _ 2 _ rfl | assumption | exact hBk.1 | exact hBk.2.1 | exact hBk.2.2.1 | exact hBk.2.2.2.1 | exact hBk.2.2.2.2.1 | exact hBk.2.2.2.2.2) ?_
            refine Wp.iload_n rfl dX11_book_54 ?_
            refine Wp.iload_n rfl dX11_book_55 ?_
            refine Wp.iload_n rfl dX11_book_56 ?_
            refine Wp.callV (As := [_, _, _]) (ls0 := [_, _, _, _]) (bd := (0, 0)) (bd' := (7, 1873)) dX11_book_57 kmX8_newDraft lkX11_103 (by decide) (by decide) (Nat.le_of_ble_eq_true rfl) (by first | rfl | exact kd_b0 _ | exact kd_b1 _ | exact kd_b2 _ | exact kd_b3 _ | exact kd_b4 _ | exact kd_b5 _ | exact kd_b6 _) (by omega) rfl rfl (Nat.le_of_ble_eq_true rfl) rfl ?_
            refine ct_newDraft0 (kb := kb) hn7 (by omega) h41 (fun J K R2 hnd => ?_)
            show Wp _ _ _ (_ :: _) _ _ _
            exact bk60 hFx (by omega) hk (by omega) hT hO hnd hq
          · exfalso; omega
        · exfalso; omega
    · exfalso; omega
end

