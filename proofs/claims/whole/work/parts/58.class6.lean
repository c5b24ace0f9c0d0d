/-! ===== the class: promises 26, 27 ===== -/
section
variable {I J : Nat → Int → Int} {L K : Nat → Int → BitVec 64} {R : Nat → Int → Option Nat} {n k : Nat} {m : Mm} {Q : Option AV → Mm → Prop}
theorem any_s {p : Nat → Bool} {k : Nat} (h : anyB p k = false) (hp : p k = false) : anyB p (k + 1) = false := by simp only [anyB]; rw [h, hp]; rfl
theorem ct_X6_touches {x f : Int} (hS : ShR I L R n) (hx : inR x) (hf : inR f) (hst : ∀ y : Nat, y < 4 → inR (I 28 y)) (hq : Q (some (vi (bI (anyB (fun y => decide (I 28 y = f) && ldB I 255 x y) 4 = true)))) (I, L, R, n)) : Wp mX6_touches 0 [some (vr (some 26)), some (vr (some 4)), some (vi x), some (vi f), none] [] (I, L, R, n) (0, 0) Q := by
  have hn := hS.1
  have hFx := hS.2.1
  have lp : ∀ (tt k : Nat) (z : Int) , k + tt = 4 → z = k → anyB (fun y => decide (I 28 y = f) && ldB I 255 x y) k = false → Wp mX6_touches 3 [some (vr (some 26)), some (vr (some 4)), some (vi x), some (vi f), some (vi z)] [] (I, L, R, n) (0, 0) Q := by
    intro tt
    induction tt with
    | zero =>
      intro k z  hkt hz e0
      obtain rfl : k = 4 := by omega
      refine Wp.iload rfl dX6_touches_3 ?_
      refine Wp.iconst dX6_touches_5 ?_
      refine Wp.icmp_ge (tgt := 38) dX6_touches_6 (by decide) (by first | omega | exact bI_R _ | exact cmp_R _ _ | assumption) (by first | omega | exact bI_R _ | exact cmp_R _ _ | assumption) (fun c6 => ?_) (fun c6 => ?_)
      · refine Wp.iconst dX6_touches_38 ?_
        refine Wp.zreturn dX6_touches_39 rfl (by first | omega | exact bI_01 _) ?_
        first | (exfalso; omega) | (exact qB_f hq (by rw [e0]; decide))
      · exfalso; omega
    | succ tt ih =>
      intro k z  hkt hz e0
      subst hz
      have hsk := hst k (by omega)
      refine Wp.iload rfl dX6_touches_3 ?_
      refine Wp.iconst dX6_touches_5 ?_
      refine Wp.icmp_ge (tgt := 38) dX6_touches_6 (by decide) (by first | omega | exact bI_R _ | exact cmp_R _ _ | assumption) (by first | omega | exact bI_R _ | exact cmp_R _ _ | assumption) (fun c6 => ?_) (fun c6 => ?_)
      · exfalso; omega
      · refine Wp.aload_n rfl dX6_touches_9 ?_
        refine Wp.gr (kz := 1) rfl dX6_touches_10 fkX6_15 (by first | rfl | exact kd_b0 _ | exact kd_b1 _ | exact kd_b2 _ | exact kd_b3 _ | exact kd_b4 _ | exact kd_b5 _ | exact kd_b6 _) (by omega) (by first | exact hFx _ 1 _ rfl | assumption | exact hBk.1 | exact hBk.2.1 | exact hBk.2.2.1 | exact hBk.2.2.2.1 | exact hBk.2.2.2.2.1 | exact hBk.2.2.2.2.2) ?_
        refine Wp.iload rfl dX6_touches_13 ?_
        refine Wp.iaload dX6_touches_15 (by first | rfl | exact kd_b0 _ | exact kd_b1 _ | exact kd_b2 _ | exact kd_b3 _ | exact kd_b4 _ | exact kd_b5 _ | exact kd_b6 _) (by omega) (by omega) (by omega) ?_
        refine Wp.iload_n rfl dX6_touches_16 ?_
        refine Wp.icmp_ne (tgt := 32) dX6_touches_17 (by decide) (by first | omega | exact bI_R _ | exact cmp_R _ _ | assumption) (by first | omega | exact bI_R _ | exact cmp_R _ _ | assumption) (fun c17 => ?_) (fun c17 => ?_)
        · refine Wp.iinc (ls' := [_, _, _, _, _]) rfl dX6_touches_32 (by decide) rfl ?_
          refine Wp.goto (tgt := 3) dX6_touches_35 (by decide) ?_
          first | exact ih (k + 1) _ (by omega) (by omega) (any_s e0 (by have hd : decide (I 28 k = f) = false := decide_eq_false (by omega); rw [hd]; rfl)) | exact ih (k + 1) _ (by omega) (by omega) (any_s e0 (by have hd : ldB I 255 x k = false := by { cases hl : ldB I 255 x k with | false => rfl | true => exact absurd hl c27 }; rw [hd, Bool.and_false])) | (exfalso; omega)
        · refine Wp.aload_n rfl dX6_touches_20 ?_
          refine Wp.iload_n rfl dX6_touches_21 ?_
          refine Wp.iload rfl dX6_touches_22 ?_
          refine Wp.callV (As := [_, _]) (ls0 := [_, _, _, _, _]) (bd := (0, 0)) (bd' := (0, 0)) dX6_touches_24 kmX8_leads lkX6_38 (by decide) (by decide) (Nat.le_of_ble_eq_true rfl) (by first | rfl | exact kd_b0 _ | exact kd_b1 _ | exact kd_b2 _ | exact kd_b3 _ | exact kd_b4 _ | exact kd_b5 _ | exact kd_b6 _) (by omega) rfl rfl (Nat.le_of_ble_eq_true rfl) rfl ?_
          refine ct_X8_leads hS (by omega) (by omega) ?_
          show Wp _ _ _ (_ :: _) _ _ _
          refine Wp.if_eqB (tgt := 32) dX6_touches_27 (by decide) (fun c27 => ?_) (fun c27 => ?_)
          · refine Wp.iinc (ls' := [_, _, _, _, _]) rfl dX6_touches_32 (by decide) rfl ?_
            refine Wp.goto (tgt := 3) dX6_touches_35 (by decide) ?_
            first | exact ih (k + 1) _ (by omega) (by omega) (any_s e0 (by have hd : decide (I 28 k = f) = false := decide_eq_false (by omega); rw [hd]; rfl)) | exact ih (k + 1) _ (by omega) (by omega) (any_s e0 (by have hd : ldB I 255 x k = false := by { cases hl : ldB I 255 x k with | false => rfl | true => exact absurd hl c27 }; rw [hd, Bool.and_false])) | (exfalso; omega)
          · refine Wp.iconst dX6_touches_30 ?_
            refine Wp.zreturn dX6_touches_31 rfl (by first | omega | exact bI_01 _) ?_
            first | (exfalso; omega) | (exact qB_t hq ((anyB_iff _ _).mpr ⟨k, by omega, by rw [Bool.and_eq_true]; exact ⟨decide_eq_true (by omega), c27⟩⟩))
  refine Wp.iconst dX6_touches_0 ?_
  refine Wp.istore (ls' := [_, _, _, _, _]) dX6_touches_1 (by decide) rfl ?_
  exact lp 4 0 _ (by omega) (by omega) rfl
theorem fs_k {p : Nat → Bool} {k N : Nat} (hk : k < N) (h : fsF p k = -1) (hp : p k = true) : ((k : Nat) : Int) = fsF p N := by
  have hm : ∀ j : Nat, j < k → p j = false := fun j hj => by
    cases hc : p j with
    | false => rfl
    | true =>
      have hq : ∀ k : Nat, j < k → 0 ≤ fsF p k := fun k => by
        induction k with
        | zero => intro h; omega
        | succ k ih =>
          intro hjk
          simp only [fsF]
          by_cases hjk2 : j < k
          · rw [if_pos (ih hjk2)]; exact ih hjk2
          · have : j = k := by omega
            subst this
            split
            · assumption
            · first | omega | (rw [if_pos hc]; omega)
      have := hq k hj
      omega
  exact (fsF_t hp hm N hk).symm
theorem fsF_cg {p q : Nat → Bool} : ∀ k : Nat, (∀ j, j < k → p j = q j) → fsF p k = fsF q k
  | 0, _ => rfl
  | k + 1, h => by simp only [fsF]; rw [fsF_cg k (fun j hj => h j (by omega)), h k (by omega)]
theorem fs_s {p : Nat → Bool} {k : Nat} (h : fsF p k = -1) (hp : p k = false) : fsF p (k + 1) = -1 := by
  simp only [fsF]
  rw [h, if_neg (by decide), hp]; rfl
theorem ct_X6_nearer {x : Int} (hS : ShR I L R n) (hx : inR x) (hst : ∀ y : Nat, y < 4 → -1 ≤ I 28 y ∧ I 28 y ≤ 3) (hq : Q (some (vi (nrF (ldB I 255) (I 28) x))) (I, L, R, n)) : Wp mX6_nearer 0 [some (vr (some 26)), some (vr (some 4)), some (vi x), none] [] (I, L, R, n) (0, 0) Q := by
  have hn := hS.1
  have hFx := hS.2.1
  have hsx : 0 ≤ x → x < 4 → -1 ≤ I 28 x ∧ I 28 x ≤ 3 := fun h0 h1 => by
    have := hst x.toNat (by omega); rw [show ((x.toNat : Nat) : Int) = x by omega] at this; exact this
  unfold nrF at hq
  have lp : ∀ (hxx : (0 ≤ x ∧ x < 4) ∧ 0 < I 28 x) , ∀ (tt k : Nat) (z : Int) , k + tt = 4 → z = k → fsF (fun y => decide (I 28 y = I 28 x - 1) && ldB I 255 x y) k = -1 → Wp mX6_nearer 20 [some (vr (some 26)), some (vr (some 4)), some (vi x), some (vi z)] [] (I, L, R, n) (0, 0) Q := by
    intro hxx
    intro tt
    induction tt with
    | zero =>
      intro k z  hkt hz e0
      obtain rfl : k = 4 := by omega
      refine Wp.iload_n rfl dX6_nearer_20 ?_
      refine Wp.iconst dX6_nearer_21 ?_
      refine Wp.icmp_ge (tgt := 59) dX6_nearer_22 (by decide) (by first | omega | exact bI_R _ | exact cmp_R _ _ | assumption) (by first | omega | exact bI_R _ | exact cmp_R _ _ | assumption) (fun c22 => ?_) (fun c22 => ?_)
      · refine Wp.iconst dX6_nearer_59 ?_
        refine Wp.ireturn dX6_nearer_60 rfl ?_
        first | (exfalso; omega) | (rw [if_pos hxx, e0] at hq; exact hq)
      · exfalso; omega
    | succ tt ih =>
      intro k z  hkt hz e0
      subst hz
      have hsk := hst k (by omega)
      have hsx2 := hsx hxx.1.1 hxx.1.2
      refine Wp.iload_n rfl dX6_nearer_20 ?_
      refine Wp.iconst dX6_nearer_21 ?_
      refine Wp.icmp_ge (tgt := 59) dX6_nearer_22 (by decide) (by first | omega | exact bI_R _ | exact cmp_R _ _ | assumption) (by first | omega | exact bI_R _ | exact cmp_R _ _ | assumption) (fun c22 => ?_) (fun c22 => ?_)
      · exfalso; omega
      · refine Wp.aload_n rfl dX6_nearer_25 ?_
        refine Wp.gr (kz := 1) rfl dX6_nearer_26 fkX6_15 (by first | rfl | exact kd_b0 _ | exact kd_b1 _ | exact kd_b2 _ | exact kd_b3 _ | exact kd_b4 _ | exact kd_b5 _ | exact kd_b6 _) (by omega) (by first | exact hFx _ 1 _ rfl | assumption | exact hBk.1 | exact hBk.2.1 | exact hBk.2.2.1 | exact hBk.2.2.2.1 | exact hBk.2.2.2.2.1 | exact hBk.2.2.2.2.2) ?_
        refine Wp.iload_n rfl dX6_nearer_29 ?_
        refine Wp.iaload dX6_nearer_30 (by first | rfl | exact kd_b0 _ | exact kd_b1 _ | exact kd_b2 _ | exact kd_b3 _ | exact kd_b4 _ | exact kd_b5 _ | exact kd_b6 _) (by omega) (by omega) (by omega) ?_
        refine Wp.aload_n rfl dX6_nearer_31 ?_
        refine Wp.gr (kz := 1) rfl dX6_nearer_32 fkX6_15 (by first | rfl | exact kd_b0 _ | exact kd_b1 _ | exact kd_b2 _ | exact kd_b3 _ | exact kd_b4 _ | exact kd_b5 _ | exact kd_b6 _) (by omega) (by first | exact hFx _ 1 _ rfl | assumption | exact hBk.1 | exact hBk.2.1 | exact hBk.2.2.1 | exact hBk.2.2.2.1 | exact hBk.2.2.2.2.1 | exact hBk.2.2.2.2.2) ?_
        refine Wp.iload_n rfl dX6_nearer_35 ?_
        refine Wp.iaload dX6_nearer_36 (by first | rfl | exact kd_b0 _ | exact kd_b1 _ | exact kd_b2 _ | exact kd_b3 _ | exact kd_b4 _ | exact kd_b5 _ | exact kd_b6 _) (by omega) (by omega) (by omega) ?_
        refine Wp.iconst dX6_nearer_37 ?_
        refine Wp.isub dX6_nearer_38 ?_
        refine Wp.icmp_ne (tgt := 53) dX6_nearer_39 (by decide) (by first | omega | exact bI_R _ | exact cmp_R _ _ | assumption) (by first | omega | exact bI_R _ | exact cmp_R _ _ | assumption) (fun c39 => ?_) (fun c39 => ?_)
        · refine Wp.iinc (ls' := [_, _, _, _]) rfl dX6_nearer_53 (by decide) rfl ?_
          refine Wp.goto (tgt := 20) dX6_nearer_56 (by decide) ?_
          first | exact ih (k + 1) _ (by omega) (by omega) (fs_s e0 (by have hd : decide (I 28 k = I 28 x - 1) = false := decide_eq_false (by omega); rw [hd]; rfl)) | exact ih (k + 1) _ (by omega) (by omega) (fs_s e0 (by have hd : ldB I 255 x k = false := by { cases hl : ldB I 255 x k with | false => rfl | true => exact absurd hl c48 }; rw [hd, Bool.and_false])) | (exfalso; omega)
        · refine Wp.aload_n rfl dX6_nearer_42 ?_
          refine Wp.iload_n rfl dX6_nearer_43 ?_
          refine Wp.iload_n rfl dX6_nearer_44 ?_
          refine Wp.callV (As := [_, _]) (ls0 := [_, _, _, _, _]) (bd := (0, 0)) (bd' := (0, 0)) dX6_nearer_45 kmX8_leads lkX6_38 (by decide) (by decide) (Nat.le_of_ble_eq_true rfl) (by first | rfl | exact kd_b0 _ | exact kd_b1 _ | exact kd_b2 _ | exact kd_b3 _ | exact kd_b4 _ | exact kd_b5 _ | exact kd_b6 _) (by omega) rfl rfl (Nat.le_of_ble_eq_true rfl) rfl ?_
          refine ct_X8_leads hS (by omega) (by omega) ?_
          show Wp _ _ _ (_ :: _) _ _ _
          refine Wp.if_eqB (tgt := 53) dX6_nearer_48 (by decide) (fun c48 => ?_) (fun c48 => ?_)
          · refine Wp.iinc (ls' := [_, _, _, _]) rfl dX6_nearer_53 (by decide) rfl ?_
            refine Wp.goto (tgt := 20) dX6_nearer_56 (by decide) ?_
            first | exact ih (k + 1) _ (by omega) (by omega) (fs_s e0 (by have hd : decide (I 28 k = I 28 x - 1) = false := decide_eq_false (by omega); rw [hd]; rfl)) | exact ih (k + 1) _ (by omega) (by omega) (fs_s e0 (by have hd : ldB I 255 x k = false := by { cases hl : ldB I 255 x k with | false => rfl | true => exact absurd hl c48 }; rw [hd, Bool.and_false])) | (exfalso; omega)
          · refine Wp.iload_n rfl dX6_nearer_51 ?_
            refine Wp.ireturn dX6_nearer_52 rfl ?_
            first | (exfalso; omega) | (exact qI hq (by rw [if_pos hxx]; exact fs_k (by omega) e0 (by rw [Bool.and_eq_true]; exact ⟨decide_eq_true (by omega), c48⟩)))
  refine Wp.iload_n rfl dX6_nearer_0 ?_
  refine Wp.callS (As := [_]) (ls0 := [_]) (bd := (0, 0)) (bd' := (0, 0)) dX6_nearer_1 kmX11_isTongue lkX6_44 (by decide) (by decide) (Nat.le_of_ble_eq_true rfl) rfl rfl (Nat.le_of_ble_eq_true rfl) rfl ?_
  refine ct_X11_isTongue (by omega) ?_
  show Wp _ _ _ (_ :: _) _ _ _
  refine Wp.if_eqB (tgt := 16) dX6_nearer_4 (by decide) (fun c4 => ?_) (fun c4 => ?_)
  · refine Wp.iconst dX6_nearer_16 ?_
    refine Wp.ireturn dX6_nearer_17 rfl ?_
    first | (exfalso; omega) | (exact qI hq (by rw [if_neg (by omega)]))
  · refine Wp.aload_n rfl dX6_nearer_7 ?_
    refine Wp.gr (kz := 1) rfl dX6_nearer_8 fkX6_15 (by first | rfl | exact kd_b0 _ | exact kd_b1 _ | exact kd_b2 _ | exact kd_b3 _ | exact kd_b4 _ | exact kd_b5 _ | exact kd_b6 _) (by omega) (by first | exact hFx _ 1 _ rfl | assumption | exact hBk.1 | exact hBk.2.1 | exact hBk.2.2.1 | exact hBk.2.2.2.1 | exact hBk.2.2.2.2.1 | exact hBk.2.2.2.2.2) ?_
    refine Wp.iload_n rfl dX6_nearer_11 ?_
    have hsx2 := hsx (by omega) (by omega)
    refine Wp.iaload dX6_nearer_12 (by first | rfl | exact kd_b0 _ | exact kd_b1 _ | exact kd_b2 _ | exact kd_b3 _ | exact kd_b4 _ | exact kd_b5 _ | exact kd_b6 _) (by omega) (by omega) (by omega) ?_
    refine Wp.if_gt (tgt := 18) dX6_nearer_13 (by decide) (by first | omega | exact bI_R _ | exact cmp_R _ _ | assumption) (fun c13 => ?_) (fun c13 => ?_)
    · refine Wp.iconst dX6_nearer_18 ?_
      refine Wp.istore_n (ls' := [_, _, _, _]) dX6_nearer_19 (by decide) rfl ?_
      exact lp ⟨by omega, by omega⟩ 4 0 _ (by omega) (by omega) rfl
    · refine Wp.iconst dX6_nearer_16 ?_
      refine Wp.ireturn dX6_nearer_17 rfl ?_
      first | (exfalso; omega) | (exact qI hq (by rw [if_neg (by omega)]))
theorem ct_X6_tongueAt {i : Int} (hn : 57 ≤ n) (hFx : Fx R) (hi : inR i) (h0 : 0 ≤ I 26 2) (h4 : I 26 2 ≤ 4) (hq : Q (some (vi (if 0 ≤ i ∧ i < I 26 2 then I 27 i else -1))) (I, L, R, n)) : Wp mX6_tongueAt 0 [some (vr (some 26)), some (vi i)] [] (I, L, R, n) (0, 0) Q := by
  refine Wp.iload_n rfl dX6_tongueAt_0 ?_
  refine Wp.if_lt (tgt := 26) dX6_tongueAt_1 (by decide) (by first | omega | exact bI_R _ | exact cmp_R _ _ | assumption) (fun c1 => ?_) (fun c1 => ?_)
  · refine Wp.iconst dX6_tongueAt_26 ?_
    refine Wp.ireturn dX6_tongueAt_27 rfl ?_
    first | (exfalso; omega) | (exact qI hq (by first | rw [if_pos (by omega)] | rw [if_neg (by omega)]))
  · refine Wp.iload_n rfl dX6_tongueAt_4 ?_
    refine Wp.aload_n rfl dX6_tongueAt_5 ?_
    refine Wp.gi (kz := 2) rfl dX6_tongueAt_6 fkX6_18 (by first | rfl | exact kd_b0 _ | exact kd_b1 _ | exact kd_b2 _ | exact kd_b3 _ | exact kd_b4 _ | exact kd_b5 _ | exact kd_b6 _) (by omega) ?_
    refine Wp.icmp_ge (tgt := 26) dX6_tongueAt_9 (by decide) (by first | omega | exact bI_R _ | exact cmp_R _ _ | assumption) (by first | omega | exact bI_R _ | exact cmp_R _ _ | assumption) (fun c9 => ?_) (fun c9 => ?_)
    · refine Wp.iconst dX6_tongueAt_26 ?_
      refine Wp.ireturn dX6_tongueAt_27 rfl ?_
      first | (exfalso; omega) | (exact qI hq (by first | rw [if_pos (by omega)] | rw [if_neg (by omega)]))
    · refine Wp.iload_n rfl dX6_tongueAt_12 ?_
      refine Wp.iconst dX6_tongueAt_13 ?_
      refine Wp.icmp_ge (tgt := 26) dX6_tongueAt_14 (by decide) (by first | omega | exact bI_R _ | exact cmp_R _ _ | assumption) (by first | omega | exact bI_R _ | exact cmp_R _ _ | assumption) (fun c14 => ?_) (fun c14 => ?_)
      · refine Wp.iconst dX6_tongueAt_26 ?_
        refine Wp.ireturn dX6_tongueAt_27 rfl ?_
        first | (exfalso; omega) | (exact qI hq (by first | rw [if_pos (by omega)] | rw [if_neg (by omega)]))
      · refine Wp.aload_n rfl dX6_tongueAt_17 ?_
        refine Wp.gr (kz := 0) rfl dX6_tongueAt_18 fkX6_9 (by first | rfl | exact kd_b0 _ | exact kd_b1 _ | exact kd_b2 _ | exact kd_b3 _ | exact kd_b4 _ | exact kd_b5 _ | exact kd_b6 _) (by omega) (by first | exact hFx _ 0 _ rfl | assumption | exact hBk.1 | exact hBk.2.1 | exact hBk.2.2.1 | exact hBk.2.2.2.1 | exact hBk.2.2.2.2.1 | exact hBk.2.2.2.2.2) ?_
        refine Wp.iload_n rfl dX6_tongueAt_21 ?_
        refine Wp.iaload dX6_tongueAt_22 (by first | rfl | exact kd_b0 _ | exact kd_b1 _ | exact kd_b2 _ | exact kd_b3 _ | exact kd_b4 _ | exact kd_b5 _ | exact kd_b6 _) (by omega) (by omega) (by omega) ?_
        refine Wp.goto (tgt := 27) dX6_tongueAt_23 (by decide) ?_
        refine Wp.ireturn dX6_tongueAt_27 rfl ?_
        first | (exfalso; omega) | (exact qI hq (by first | rw [if_pos (by omega)] | rw [if_neg (by omega)]))
theorem ld_cg (h : Eqv I J) : ldB J 255 = ldB I 255 := by funext a b; exact ldB_cg h.se 255 a b
/-- steps, half way through round f -/
theorem ds_half {ld : Int → Int → Bool} {b x : Int} {f k : Nat} {S : Int → Int} (hS : ∀ y : Nat, y < 4 → S y = if y < k then dsF ld b (f + 1) y else dsF ld b f y) : anyB (fun y => decide (S y = (f : Int)) && ld x y) 4 = anyB (fun y => decide (dsF ld b f y = (f : Int)) && ld x y) 4 := by
  apply anyB_cg
  intro y hy
  have : decide (S y = (f : Int)) = decide (dsF ld b f y = (f : Int)) := by
    rw [hS y hy]
    split
    · by_cases hn : dsF ld b f y = -1
      · have := dsE (ld := ld) (b := b) f y
        apply decide_eq_decide.mpr
        omega
      · rw [ds_m hn]
    · rfl
  rw [this]
theorem ct_X6_countSteps {b : Int} (hS : ShR I L R n) (hb : tgP b) (hq : ∀ J, Eqv I J → J 26 2 = I 26 2 → (∀ y : Nat, y < 4 → J 28 y = dsF (ldB I 255) b 3 y) → Q none (J, L, R, n)) : Wp mX6_countSteps 0 [some (vr (some 26)), some (vr (some 4)), some (vi b), none, none] [] (I, L, R, n) (0, 0) Q := by
  have hn := hS.1
  have hFx := hS.2.1
  have li : ∀ (f : Nat) (hf : f < 3) (hc' : ∀ J, Eqv I J → J 26 2 = I 26 2 → (∀ y : Nat, y < 4 → J 28 y = dsF (ldB I 255) b (f + 1) y) → Wp mX6_countSteps 83 [some (vr (some 26)), some (vr (some 4)), some (vi b), some (vi ((f : Int) + 1)), some (vi 4)] [] (J, L, R, n) (0, 0) Q) , ∀ (tt k : Nat) (z : Int) (J : Nat → Int → Int), k + tt = 4 → z = k → Eqv I J → J 26 2 = I 26 2 → (∀ y : Nat, y < 4 → J 28 y = if y < k then dsF (ldB I 255) b (f + 1) y else dsF (ldB I 255) b f y) → Wp mX6_countSteps 39 [some (vr (some 26)), some (vr (some 4)), some (vi b), some (vi ((f : Int) + 1)), some (vi z)] [] (J, L, R, n) (0, 0) Q := by
    intro f hf hc'
    intro tt
    induction tt with
    | zero =>
      intro k z J hkt hz e0 e1 e2
      obtain rfl : k = 4 := by omega
      refine Wp.iload rfl dX6_countSteps_39 ?_
      refine Wp.iconst dX6_countSteps_41 ?_
      refine Wp.icmp_ge (tgt := 83) dX6_countSteps_42 (by decide) (by first | omega | exact bI_R _ | exact cmp_R _ _ | assumption) (by first | omega | exact bI_R _ | exact cmp_R _ _ | assumption) (fun c42 => ?_) (fun c42 => ?_)
      · subst hz; exact hc' J e0 e1 (fun y hy => by rw [e2 y hy, if_pos hy])
      · exfalso; omega
    | succ tt ih =>
      intro k z J hkt hz e0 e1 e2
      subst hz
      have hSJ := ShR_cg e0 (EqvL.rf L) hS
      have hstB : ∀ y : Nat, y < 4 → -1 ≤ J 28 y ∧ J 28 y ≤ 3 := fun y hy => by
        have b1 := dsF_B (ldB I 255) b (f + 1) y
        have b2 := dsF_B (ldB I 255) b f y
        rw [e2 y hy]; split <;> omega
      have hstR : ∀ y : Nat, y < 4 → inR (J 28 y) := fun y hy => by have := hstB y hy; omega
      have hsk := hstB k (by omega)
      have hk0 : J 28 k = dsF (ldB I 255) b f k := by rw [e2 k (by omega), if_neg (by omega)]
      have hhf := ds_half (x := k) e2
      have hdef : dsF (ldB I 255) b (f + 1) k = if dsF (ldB I 255) b f k = -1 ∧ anyB (fun y => decide (dsF (ldB I 255) b f y = (f : Int)) && ldB I 255 k y) 4 = true then (f : Int) + 1 else dsF (ldB I 255) b f k := rfl
      refine Wp.iload rfl dX6_countSteps_39 ?_
      refine Wp.iconst dX6_countSteps_41 ?_
      refine Wp.icmp_ge (tgt := 83) dX6_countSteps_42 (by decide) (by first | omega | exact bI_R _ | exact cmp_R _ _ | assumption) (by first | omega | exact bI_R _ | exact cmp_R _ _ | assumption) (fun c42 => ?_) (fun c42 => ?_)
      · exfalso; omega
      · refine Wp.aload_n rfl dX6_countSteps_45 ?_
        refine Wp.gr (kz := 1) rfl dX6_countSteps_46 fkX6_15 (by first | rfl | exact kd_b0 _ | exact kd_b1 _ | exact kd_b2 _ | exact kd_b3 _ | exact kd_b4 _ | exact kd_b5 _ | exact kd_b6 _) (by omega) (by first | exact hFx _ 1 _ rfl | assumption | exact hBk.1 | exact hBk.2.1 | exact hBk.2.2.1 | exact hBk.2.2.2.1 | exact hBk.2.2.2.2.1 | exact hBk.2.2.2.2.2) ?_
        refine Wp.iload rfl dX6_countSteps_49 ?_
        refine Wp.iaload dX6_countSteps_51 (by first | rfl | exact kd_b0 _ | exact kd_b1 _ | exact kd_b2 _ | exact kd_b3 _ | exact kd_b4 _ | exact kd_b5 _ | exact kd_b6 _) (by omega) (by omega) (by omega) ?_
        refine Wp.iconst dX6_countSteps_52 ?_
        refine Wp.icmp_ne (tgt := 77) dX6_countSteps_53 (by decide) (by first | omega | exact bI_R _ | exact cmp_R _ _ | assumption) (by first | omega | exact bI_R _ | exact cmp_R _ _ | assumption) (fun c53 => ?_) (fun c53 => ?_)
        · refine Wp.iinc (ls' := [_, _, _, _, _]) rfl dX6_countSteps_77 (by decide) rfl ?_
          refine Wp.goto (tgt := 39) dX6_countSteps_80 (by decide) ?_
          first | (refine ih (k + 1) _ _ (by omega) (by omega) (e0.wr (by unfold scr; omega)) (by simp (disch := omega) only [up_same, up_o, up_k]; exact e1) (fun y hy => ?_); by_cases hyk : y = k; (subst hyk; rw [if_pos (by omega), hdef, if_pos ⟨by omega, c66⟩]; simp (disch := omega) only [up_same, up_o, up_k]); (rw [show up J 28 (k : Int) ((f : Int) + 1) 28 (y : Int) = J 28 y by simp (disch := omega) only [up_same, up_o, up_k]]; rw [e2 y hy]; by_cases hyk2 : y < k; (rw [if_pos hyk2, if_pos (by omega)]); (rw [if_neg hyk2, if_neg (by omega)]))) | (refine ih (k + 1) _ _ (by omega) (by omega) e0 e1 (fun y hy => ?_); by_cases hyk : y = k; (subst hyk; rw [if_pos (by omega), hdef]; first | rw [if_neg (fun q => c66 q.2), hk0] | rw [if_neg (fun q => absurd q.1 (by omega)), hk0]); (rw [e2 y hy]; by_cases hyk2 : y < k; (rw [if_pos hyk2, if_pos (by omega)]); (rw [if_neg hyk2, if_neg (by omega)])))
        · refine Wp.aload_n rfl dX6_countSteps_56 ?_
          refine Wp.aload_n rfl dX6_countSteps_57 ?_
          refine Wp.iload rfl dX6_countSteps_58 ?_
          refine Wp.iload_n rfl dX6_countSteps_60 ?_
          refine Wp.iconst dX6_countSteps_61 ?_
          refine Wp.isub dX6_countSteps_62 ?_
          refine Wp.callV (As := [_, _, _]) (ls0 := [_, _, _, _, _]) (bd := (0, 0)) (bd' := (0, 0)) dX6_countSteps_63 kmX6_touches lkX6_34 (by decide) (by decide) (Nat.le_of_ble_eq_true rfl) (by first | rfl | exact kd_b0 _ | exact kd_b1 _ | exact kd_b2 _ | exact kd_b3 _ | exact kd_b4 _ | exact kd_b5 _ | exact kd_b6 _) (by omega) rfl rfl (Nat.le_of_ble_eq_true rfl) rfl ?_
          refine ct_X6_touches hSJ (by omega) (by omega) hstR ?_
          rw [ld_cg e0, show (f : Int) + 1 - 1 = f by omega, hhf]
          show Wp _ _ _ (_ :: _) _ _ _
          refine Wp.if_eqB (tgt := 77) dX6_countSteps_66 (by decide) (fun c66 => ?_) (fun c66 => ?_)
          · refine Wp.iinc (ls' := [_, _, _, _, _]) rfl dX6_countSteps_77 (by decide) rfl ?_
            refine Wp.goto (tgt := 39) dX6_countSteps_80 (by decide) ?_
            first | (refine ih (k + 1) _ _ (by omega) (by omega) (e0.wr (by unfold scr; omega)) (by simp (disch := omega) only [up_same, up_o, up_k]; exact e1) (fun y hy => ?_); by_cases hyk : y = k; (subst hyk; rw [if_pos (by omega), hdef, if_pos ⟨by omega, c66⟩]; simp (disch := omega) only [up_same, up_o, up_k]); (rw [show up J 28 (k : Int) ((f : Int) + 1) 28 (y : Int) = J 28 y by simp (disch := omega) only [up_same, up_o, up_k]]; rw [e2 y hy]; by_cases hyk2 : y < k; (rw [if_pos hyk2, if_pos (by omega)]); (rw [if_neg hyk2, if_neg (by omega)]))) | (refine ih (k + 1) _ _ (by omega) (by omega) e0 e1 (fun y hy => ?_); by_cases hyk : y = k; (subst hyk; rw [if_pos (by omega), hdef]; first | rw [if_neg (fun q => c66 q.2), hk0] | rw [if_neg (fun q => absurd q.1 (by omega)), hk0]); (rw [e2 y hy]; by_cases hyk2 : y < k; (rw [if_pos hyk2, if_pos (by omega)]); (rw [if_neg hyk2, if_neg (by omega)])))
          · refine Wp.aload_n rfl dX6_countSteps_69 ?_
            refine Wp.gr (kz := 1) rfl dX6_countSteps_70 fkX6_15 (by first | rfl | exact kd_b0 _ | exact kd_b1 _ | exact kd_b2 _ | exact kd_b3 _ | exact kd_b4 _ | exact kd_b5 _ | exact kd_b6 _) (by omega) (by first | exact hFx _ 1 _ rfl | assumption | exact hBk.1 | exact hBk.2.1 | exact hBk.2.2.1 | exact hBk.2.2.2.1 | exact hBk.2.2.2.2.1 | exact hBk.2.2.2.2.2) ?_
            refine Wp.iload rfl dX6_countSteps_73 ?_
            refine Wp.iload_n rfl dX6_countSteps_75 ?_
            refine Wp.iastore dX6_countSteps_76 (by first | rfl | exact kd_b0 _ | exact kd_b1 _ | exact kd_b2 _ | exact kd_b3 _ | exact kd_b4 _ | exact kd_b5 _ | exact kd_b6 _) (by omega) (by omega) (by omega) ?_
            refine Wp.iinc (ls' := [_, _, _, _, _]) rfl dX6_countSteps_77 (by decide) rfl ?_
            refine Wp.goto (tgt := 39) dX6_countSteps_80 (by decide) ?_
            first | (refine ih (k + 1) _ _ (by omega) (by omega) (e0.wr (by unfold scr; omega)) (by simp (disch := omega) only [up_same, up_o, up_k]; exact e1) (fun y hy => ?_); by_cases hyk : y = k; (subst hyk; rw [if_pos (by omega), hdef, if_pos ⟨by omega, c66⟩]; simp (disch := omega) only [up_same, up_o, up_k]); (rw [show up J 28 (k : Int) ((f : Int) + 1) 28 (y : Int) = J 28 y by simp (disch := omega) only [up_same, up_o, up_k]]; rw [e2 y hy]; by_cases hyk2 : y < k; (rw [if_pos hyk2, if_pos (by omega)]); (rw [if_neg hyk2, if_neg (by omega)]))) | (refine ih (k + 1) _ _ (by omega) (by omega) e0 e1 (fun y hy => ?_); by_cases hyk : y = k; (subst hyk; rw [if_pos (by omega), hdef]; first | rw [if_neg (fun q => c66 q.2), hk0] | rw [if_neg (fun q => absurd q.1 (by omega)), hk0]); (rw [e2 y hy]; by_cases hyk2 : y < k; (rw [if_pos hyk2, if_pos (by omega)]); (rw [if_neg hyk2, if_neg (by omega)])))
  have lf : ∀ (tt k : Nat) (z : Int) (J : Nat → Int → Int) (x4 : Option AV), k + tt = 3 → z = (k : Int) + 1 → Eqv I J → J 26 2 = I 26 2 → (∀ y : Nat, y < 4 → J 28 y = dsF (ldB I 255) b k y) → Wp mX6_countSteps 31 [some (vr (some 26)), some (vr (some 4)), some (vi b), some (vi z), x4] [] (J, L, R, n) (0, 0) Q := by
    intro tt
    induction tt with
    | zero =>
      intro k z J x4 hkt hz e0 e1 e2
      obtain rfl : k = 3 := by omega
      refine Wp.iload_n rfl dX6_countSteps_31 ?_
      refine Wp.iconst dX6_countSteps_32 ?_
      refine Wp.icmp_ge (tgt := 89) dX6_countSteps_33 (by decide) (by first | omega | exact bI_R _ | exact cmp_R _ _ | assumption) (by first | omega | exact bI_R _ | exact cmp_R _ _ | assumption) (fun c33 => ?_) (fun c33 => ?_)
      · refine Wp.vreturn dX6_countSteps_89 rfl ?_
        first | (exfalso; omega) | (exact hq J e0 e1 e2)
      · exfalso; omega
    | succ tt ih =>
      intro k z J x4 hkt hz e0 e1 e2
      subst hz
      have h83 : ∀ J, Eqv I J → J 26 2 = I 26 2 → (∀ y : Nat, y < 4 → J 28 y = dsF (ldB I 255) b (k + 1) y) → Wp mX6_countSteps 83 [some (vr (some 26)), some (vr (some 4)), some (vi b), some (vi ((k : Int) + 1)), some (vi 4)] [] (J, L, R, n) (0, 0) Q := by
        intro J eJ eJ2 eJ3
        refine Wp.iinc (ls' := [_, _, _, _, _]) rfl dX6_countSteps_83 (by decide) rfl ?_
        refine Wp.goto (tgt := 31) dX6_countSteps_86 (by decide) ?_
        exact ih (k + 1) _ J _ (by omega) (by omega) eJ eJ2 eJ3
      refine Wp.iload_n rfl dX6_countSteps_31 ?_
      refine Wp.iconst dX6_countSteps_32 ?_
      refine Wp.icmp_ge (tgt := 89) dX6_countSteps_33 (by decide) (by first | omega | exact bI_R _ | exact cmp_R _ _ | assumption) (by first | omega | exact bI_R _ | exact cmp_R _ _ | assumption) (fun c33 => ?_) (fun c33 => ?_)
      · exfalso; omega
      · refine Wp.iconst dX6_countSteps_36 ?_
        refine Wp.istore (ls' := [_, _, _, _, _]) dX6_countSteps_37 (by decide) rfl ?_
        exact li k (by omega) h83 4 0 _ J (by omega) (by omega) e0 e1 (fun y hy => by rw [if_neg (by omega)]; exact e2 y hy)
  have l0 : ∀ (tt k : Nat) (z : Int) (J : Nat → Int → Int), k + tt = 4 → z = k → Eqv I J → J 26 2 = I 26 2 → (∀ y : Nat, y < k → J 28 y = dsF (ldB I 255) b 0 y) → Wp mX6_countSteps 2 [some (vr (some 26)), some (vr (some 4)), some (vi b), some (vi z), none] [] (J, L, R, n) (0, 0) Q := by
    intro tt
    induction tt with
    | zero =>
      intro k z J hkt hz e0 e1 e2
      obtain rfl : k = 4 := by omega
      refine Wp.iload_n rfl dX6_countSteps_2 ?_
      refine Wp.iconst dX6_countSteps_3 ?_
      refine Wp.icmp_ge (tgt := 29) dX6_countSteps_4 (by decide) (by first | omega | exact bI_R _ | exact cmp_R _ _ | assumption) (by first | omega | exact bI_R _ | exact cmp_R _ _ | assumption) (fun c4 => ?_) (fun c4 => ?_)
      · refine Wp.iconst dX6_countSteps_29 ?_
        refine Wp.istore_n (ls' := [_, _, _, _, _]) dX6_countSteps_30 (by decide) rfl ?_
        exact lf 3 0 _ J _ (by omega) (by omega) e0 e1 e2
      · exfalso; omega
    | succ tt ih =>
      intro k z J hkt hz e0 e1 e2
      subst hz
      refine Wp.iload_n rfl dX6_countSteps_2 ?_
      refine Wp.iconst dX6_countSteps_3 ?_
      refine Wp.icmp_ge (tgt := 29) dX6_countSteps_4 (by decide) (by first | omega | exact bI_R _ | exact cmp_R _ _ | assumption) (by first | omega | exact bI_R _ | exact cmp_R _ _ | assumption) (fun c4 => ?_) (fun c4 => ?_)
      · exfalso; omega
      · refine Wp.aload_n rfl dX6_countSteps_7 ?_
        refine Wp.gr (kz := 1) rfl dX6_countSteps_8 fkX6_15 (by first | rfl | exact kd_b0 _ | exact kd_b1 _ | exact kd_b2 _ | exact kd_b3 _ | exact kd_b4 _ | exact kd_b5 _ | exact kd_b6 _) (by omega) (by first | exact hFx _ 1 _ rfl | assumption | exact hBk.1 | exact hBk.2.1 | exact hBk.2.2.1 | exact hBk.2.2.2.1 | exact hBk.2.2.2.2.1 | exact hBk.2.2.2.2.2) ?_
        refine Wp.iload_n rfl dX6_countSteps_11 ?_
        refine Wp.iload_n rfl dX6_countSteps_12 ?_
        refine Wp.iload_n rfl dX6_countSteps_13 ?_
        refine Wp.icmp_ne (tgt := 21) dX6_countSteps_14 (by decide) (by first | omega | exact bI_R _ | exact cmp_R _ _ | assumption) (by first | omega | exact bI_R _ | exact cmp_R _ _ | assumption) (fun c14 => ?_) (fun c14 => ?_)
        · refine Wp.iconst dX6_countSteps_21 ?_
          refine Wp.iastore dX6_countSteps_22 (by first | rfl | exact kd_b0 _ | exact kd_b1 _ | exact kd_b2 _ | exact kd_b3 _ | exact kd_b4 _ | exact kd_b5 _ | exact kd_b6 _) (by omega) (by omega) (by omega) ?_
          refine Wp.iinc (ls' := [_, _, _, _, _]) rfl dX6_countSteps_23 (by decide) rfl ?_
          refine Wp.goto (tgt := 2) dX6_countSteps_26 (by decide) ?_
          refine ih (k + 1) _ _ (by omega) (by omega) (e0.wr (by unfold scr; omega)) (by simp (disch := omega) only [up_same, up_o, up_k]; exact e1) (fun y hy => ?_)
          by_cases hyk : y = k
          · subst hyk
            simp (disch := omega) only [up_same, up_o, up_k]
            simp only [dsF]
            first | rw [if_pos (by omega)] | rw [if_neg (by omega)]
          · simp (disch := omega) only [up_same, up_o, up_k]
            exact e2 y (by omega)
        · refine Wp.iconst dX6_countSteps_17 ?_
          refine Wp.goto (tgt := 22) dX6_countSteps_18 (by decide) ?_
          refine Wp.iastore dX6_countSteps_22 (by first | rfl | exact kd_b0 _ | exact kd_b1 _ | exact kd_b2 _ | exact kd_b3 _ | exact kd_b4 _ | exact kd_b5 _ | exact kd_b6 _) (by omega) (by omega) (by omega) ?_
          refine Wp.iinc (ls' := [_, _, _, _, _]) rfl dX6_countSteps_23 (by decide) rfl ?_
          refine Wp.goto (tgt := 2) dX6_countSteps_26 (by decide) ?_
          refine ih (k + 1) _ _ (by omega) (by omega) (e0.wr (by unfold scr; omega)) (by simp (disch := omega) only [up_same, up_o, up_k]; exact e1) (fun y hy => ?_)
          by_cases hyk : y = k
          · subst hyk
            simp (disch := omega) only [up_same, up_o, up_k]
            simp only [dsF]
            first | rw [if_pos (by omega)] | rw [if_neg (by omega)]
          · simp (disch := omega) only [up_same, up_o, up_k]
            exact e2 y (by omega)
  refine Wp.iconst dX6_countSteps_0 ?_
  refine Wp.istore_n (ls' := [_, _, _, _, _]) dX6_countSteps_1 (by decide) rfl ?_
  exact l0 4 0 _ I (by omega) (by omega) (Eqv.rf I) rfl (fun y hy => by omega)
theorem ct_X6_find {a b : Int} (hS : ShR I L R n) (ha : tgP a) (hb : tgP b) (hab : a ≠ b) (hq : ∀ J, Eqv I J → J 26 2 = (chS (ldB I 255) a b).1 → (∀ i : Nat, (i : Int) < (chS (ldB I 255) a b).1 → J 27 i = chAt a b (chS (ldB I 255) a b) i) → Q none (J, L, R, n)) : Wp mX6_find 0 [some (vr (some 26)), some (vr (some 4)), some (vi a), some (vi b), none, none] [] (I, L, R, n) (0, 0) Q := by
  have hn := hS.1
  have hFx := hS.2.1
  have fin : ∀ (J : Nat → Int → Int) (k : Nat) (h : Int), Eqv I J → 0 < k → k ≤ 4 → (∀ i : Nat, i < k → hN (ldB I 255) (dsF (ldB I 255) b 3) a i ≠ -1) → (k = 4 ∨ hN (ldB I 255) (dsF (ldB I 255) b 3) a k = -1) → J 26 2 = k → (∀ i : Nat, i < k → J 27 i = hN (ldB I 255) (dsF (ldB I 255) b 3) a i) → Wp mX6_find 61 [some (vr (some 26)), some (vr (some 4)), some (vi a), some (vi b), some (vi h), some (vi k)] [] (J, L, R, n) (0, 0) Q := by
    intro J k h eJ hk0 hk4 h1 h2 eZ eT
    have hg := hN_gd ha hb hab chS_gd hk0 hk4 h1 h2
    have hl : J 27 (k - 1 : Int) = hN (ldB I 255) (dsF (ldB I 255) b 3) a (k - 1) := by
      have := eT (k - 1) (by omega); rw [show ((k - 1 : Nat) : Int) = (k : Int) - 1 by omega] at this; exact this
    have hB := hN_B (ldB I 255) (dsF (ldB I 255) b 3) ha (k - 1)
    refine Wp.aload_n rfl dX6_find_61 ?_
    refine Wp.aload_n rfl dX6_find_62 ?_
    refine Wp.gi (kz := 2) rfl dX6_find_63 fkX6_18 (by first | rfl | exact kd_b0 _ | exact kd_b1 _ | exact kd_b2 _ | exact kd_b3 _ | exact kd_b4 _ | exact kd_b5 _ | exact kd_b6 _) (by omega) ?_
    refine Wp.iconst dX6_find_66 ?_
    refine Wp.isub dX6_find_67 ?_
    refine Wp.callV (As := [_]) (ls0 := [_, _]) (bd := (0, 0)) (bd' := (0, 0)) dX6_find_68 kmX6_tongueAt lkX6_30 (by decide) (by decide) (Nat.le_of_ble_eq_true rfl) (by first | rfl | exact kd_b0 _ | exact kd_b1 _ | exact kd_b2 _ | exact kd_b3 _ | exact kd_b4 _ | exact kd_b5 _ | exact kd_b6 _) (by omega) rfl rfl (Nat.le_of_ble_eq_true rfl) rfl ?_
    refine ct_X6_tongueAt hn hFx (by omega) (by omega) (by omega) ?_
    rw [eZ, if_pos (by omega), hl]
    show Wp _ _ _ (_ :: _) _ _ _
    refine Wp.iload_n rfl dX6_find_71 ?_
    refine Wp.icmp_eq (tgt := 80) dX6_find_72 (by decide) (by first | omega | exact bI_R _ | exact cmp_R _ _ | assumption) (by first | omega | exact bI_R _ | exact cmp_R _ _ | assumption) (fun c72 => ?_) (fun c72 => ?_)
    · refine Wp.vreturn dX6_find_80 rfl ?_
      first
      | (rw [if_pos (by omega)] at hg; exact hq J eJ (eZ.trans hg.1) (fun i hi => by rw [← hg.2 i hi]; exact eT i (by omega)))
      | (rw [if_neg (by omega)] at hg; exact hq _ (eJ.wr (by unfold scr; omega)) (by simp (disch := omega) only [up_same, up_o, up_k]; exact hg.1) (fun i hi => by omega))
    · refine Wp.aload_n rfl dX6_find_75 ?_
      refine Wp.iconst dX6_find_76 ?_
      refine Wp.pi (kz := 2) rfl dX6_find_77 fkX6_18 (Or.inl rfl) (Or.inl rfl) (by first | rfl | exact kd_b0 _ | exact kd_b1 _ | exact kd_b2 _ | exact kd_b3 _ | exact kd_b4 _ | exact kd_b5 _ | exact kd_b6 _) (by omega) ?_
      refine Wp.vreturn dX6_find_80 rfl ?_
      first
      | (rw [if_pos (by omega)] at hg; exact hq J eJ (eZ.trans hg.1) (fun i hi => by rw [← hg.2 i hi]; exact eT i (by omega)))
      | (rw [if_neg (by omega)] at hg; exact hq _ (eJ.wr (by unfold scr; omega)) (by simp (disch := omega) only [up_same, up_o, up_k]; exact hg.1) (fun i hi => by omega))
  have lp : ∀ (hds : True) , ∀ (tt k : Nat) (z : Int) (J : Nat → Int → Int) (h : Int), k + tt = 4 → z = k → Eqv I J → (∀ y : Nat, y < 4 → J 28 y = dsF (ldB I 255) b 3 y) → h = hN (ldB I 255) (dsF (ldB I 255) b 3) a k → (∀ i : Nat, i < k → hN (ldB I 255) (dsF (ldB I 255) b 3) a i ≠ -1) → J 26 2 = k → (∀ i : Nat, i < k → J 27 i = hN (ldB I 255) (dsF (ldB I 255) b 3) a i) → Wp mX6_find 17 [some (vr (some 26)), some (vr (some 4)), some (vi a), some (vi b), some (vi h), some (vi z)] [] (J, L, R, n) (0, 0) Q := by
    intro hds
    intro tt
    induction tt with
    | zero =>
      intro k z J h hkt hz e0 e1 e2 e3 e4 e5
      obtain rfl : k = 4 := by omega
      refine Wp.iload rfl dX6_find_17 ?_
      refine Wp.iconst dX6_find_19 ?_
      refine Wp.icmp_ge (tgt := 61) dX6_find_20 (by decide) (by first | omega | exact bI_R _ | exact cmp_R _ _ | assumption) (by first | omega | exact bI_R _ | exact cmp_R _ _ | assumption) (fun c20 => ?_) (fun c20 => ?_)
      · subst hz; exact fin J 4 h e0 (by omega) (by omega) e3 (Or.inl rfl) e4 e5
      · exfalso; omega
    | succ tt ih =>
      intro k z J h hkt hz e0 e1 e2 e3 e4 e5
      subst hz
      subst e2
      have hB := hN_B (ldB I 255) (dsF (ldB I 255) b 3) ha k
      have h0k : hN (ldB I 255) (dsF (ldB I 255) b 3) a 0 = a := rfl
      refine Wp.iload rfl dX6_find_17 ?_
      refine Wp.iconst dX6_find_19 ?_
      refine Wp.icmp_ge (tgt := 61) dX6_find_20 (by decide) (by first | omega | exact bI_R _ | exact cmp_R _ _ | assumption) (by first | omega | exact bI_R _ | exact cmp_R _ _ | assumption) (fun c20 => ?_) (fun c20 => ?_)
      · first | (exfalso; omega) | exact fin J k _ e0 (by rcases Nat.eq_zero_or_pos k with h | h; (subst h; omega); exact h) (by omega) e3 (Or.inr c26) e4 e5
      · refine Wp.iload rfl dX6_find_23 ?_
        refine Wp.iconst dX6_find_25 ?_
        refine Wp.icmp_eq (tgt := 61) dX6_find_26 (by decide) (by first | omega | exact bI_R _ | exact cmp_R _ _ | assumption) (by first | omega | exact bI_R _ | exact cmp_R _ _ | assumption) (fun c26 => ?_) (fun c26 => ?_)
        · first | (exfalso; omega) | exact fin J k _ e0 (by rcases Nat.eq_zero_or_pos k with h | h; (subst h; omega); exact h) (by omega) e3 (Or.inr c26) e4 e5
        · refine Wp.aload_n rfl dX6_find_29 ?_
          refine Wp.gr (kz := 0) rfl dX6_find_30 fkX6_9 (by first | rfl | exact kd_b0 _ | exact kd_b1 _ | exact kd_b2 _ | exact kd_b3 _ | exact kd_b4 _ | exact kd_b5 _ | exact kd_b6 _) (by omega) (by first | exact hFx _ 0 _ rfl | assumption | exact hBk.1 | exact hBk.2.1 | exact hBk.2.2.1 | exact hBk.2.2.2.1 | exact hBk.2.2.2.2.1 | exact hBk.2.2.2.2.2) ?_
          refine Wp.iload rfl dX6_find_33 ?_
          refine Wp.iload rfl dX6_find_35 ?_
          refine Wp.iastore dX6_find_37 (by first | rfl | exact kd_b0 _ | exact kd_b1 _ | exact kd_b2 _ | exact kd_b3 _ | exact kd_b4 _ | exact kd_b5 _ | exact kd_b6 _) (by omega) (by omega) (by omega) ?_
          refine Wp.aload_n rfl dX6_find_38 ?_
          refine Wp.iload rfl dX6_find_39 ?_
          refine Wp.iconst dX6_find_41 ?_
          refine Wp.iadd dX6_find_42 ?_
          refine Wp.pi (kz := 2) rfl dX6_find_43 fkX6_18 (Or.inl rfl) (Or.inl rfl) (by first | rfl | exact kd_b0 _ | exact kd_b1 _ | exact kd_b2 _ | exact kd_b3 _ | exact kd_b4 _ | exact kd_b5 _ | exact kd_b6 _) (by omega) ?_
          have eK : Eqv I (up (up J 27 k (hN (ldB I 255) (dsF (ldB I 255) b 3) a k)) 26 2 ((k : Int) + 1)) := (e0.wr (by unfold scr; omega)).wr (by unfold scr; omega)
          have k28 : ∀ y : Int, up (up J 27 k (hN (ldB I 255) (dsF (ldB I 255) b 3) a k)) 26 2 ((k : Int) + 1) 28 y = J 28 y := fun y => by simp (disch := omega) only [up_same, up_o, up_k]
          have kz : up (up J 27 k (hN (ldB I 255) (dsF (ldB I 255) b 3) a k)) 26 2 ((k : Int) + 1) 26 2 = (k : Int) + 1 := by simp (disch := omega) only [up_same, up_o, up_k]
          have k27 : ∀ i : Nat, i < k + 1 → up (up J 27 k (hN (ldB I 255) (dsF (ldB I 255) b 3) a k)) 26 2 ((k : Int) + 1) 27 i = hN (ldB I 255) (dsF (ldB I 255) b 3) a i := fun i hi => by
            by_cases hik : i = k
            · subst hik; simp (disch := omega) only [up_same, up_o, up_k]
            · simp (disch := omega) only [up_same, up_o, up_k]; exact e5 i (by omega)
          generalize up (up J 27 k (hN (ldB I 255) (dsF (ldB I 255) b 3) a k)) 26 2 ((k : Int) + 1) = K at eK k28 kz k27 ⊢
          have hSK := ShR_cg eK (EqvL.rf L) hS
          have hst : ∀ y : Nat, y < 4 → -1 ≤ K 28 y ∧ K 28 y ≤ 3 := fun y hy => by
            have := dsF_B (ldB I 255) b 3 y
            rw [k28, e1 y hy]; omega
          have hnr : nrF (ldB K 255) (K 28) (hN (ldB I 255) (dsF (ldB I 255) b 3) a k) = hN (ldB I 255) (dsF (ldB I 255) b 3) a (k + 1) := by
            show _ = nrF _ _ _
            rw [ld_cg eK]
            unfold nrF
            by_cases hr : 0 ≤ hN (ldB I 255) (dsF (ldB I 255) b 3) a k ∧ hN (ldB I 255) (dsF (ldB I 255) b 3) a k < 4
            · have ex : K 28 (hN (ldB I 255) (dsF (ldB I 255) b 3) a k) = dsF (ldB I 255) b 3 (hN (ldB I 255) (dsF (ldB I 255) b 3) a k) := by
                have := e1 (hN (ldB I 255) (dsF (ldB I 255) b 3) a k).toNat (by omega)
                rw [show (((hN (ldB I 255) (dsF (ldB I 255) b 3) a k).toNat : Nat) : Int) = hN (ldB I 255) (dsF (ldB I 255) b 3) a k by omega] at this
                rw [k28, this]
              rw [ex]
              have ef : fsF (fun y => decide (K 28 y = dsF (ldB I 255) b 3 (hN (ldB I 255) (dsF (ldB I 255) b 3) a k) - 1) && ldB I 255 (hN (ldB I 255) (dsF (ldB I 255) b 3) a k) y) 4 = fsF (fun y => decide (dsF (ldB I 255) b 3 y = dsF (ldB I 255) b 3 (hN (ldB I 255) (dsF (ldB I 255) b 3) a k) - 1) && ldB I 255 (hN (ldB I 255) (dsF (ldB I 255) b 3) a k) y) 4 := fsF_cg 4 (fun y hy => by rw [k28, e1 y hy])
              rw [ef]
            · rw [if_neg (fun q => hr q.1), if_neg (fun q => hr q.1)]
          refine Wp.aload_n rfl dX6_find_46 ?_
          refine Wp.aload_n rfl dX6_find_47 ?_
          refine Wp.iload rfl dX6_find_48 ?_
          refine Wp.callV (As := [_, _]) (ls0 := [_, _, _, _]) (bd := (0, 0)) (bd' := (0, 0)) dX6_find_50 kmX6_nearer lkX6_26 (by decide) (by decide) (Nat.le_of_ble_eq_true rfl) (by first | rfl | exact kd_b0 _ | exact kd_b1 _ | exact kd_b2 _ | exact kd_b3 _ | exact kd_b4 _ | exact kd_b5 _ | exact kd_b6 _) (by omega) rfl rfl (Nat.le_of_ble_eq_true rfl) rfl ?_
          refine ct_X6_nearer hSK (by omega) hst ?_
          rw [hnr]
          show Wp _ _ _ (_ :: _) _ _ _
          refine Wp.istore (ls' := [_, _, _, _, _, _]) dX6_find_53 (by decide) rfl ?_
          refine Wp.iinc (ls' := [_, _, _, _, _, _]) rfl dX6_find_55 (by decide) rfl ?_
          refine Wp.goto (tgt := 17) dX6_find_58 (by decide) ?_
          refine ih (k + 1) _ K _ (by omega) (by omega) eK (fun y hy => by rw [k28]; exact e1 y hy) rfl (fun i hi => ?_) (by omega) k27
          by_cases hik : i = k
          · subst hik; exact c26
          · exact e3 i (by omega)
  refine Wp.aload_n rfl dX6_find_0 ?_
  refine Wp.aload_n rfl dX6_find_1 ?_
  refine Wp.iload_n rfl dX6_find_2 ?_
  refine Wp.callV (As := [_, _]) (ls0 := [_, _, _, _, _]) (bd := (0, 0)) (bd' := (0, 0)) dX6_find_3 kmX6_countSteps lkX6_22 (by decide) (by decide) (Nat.le_of_ble_eq_true rfl) (by first | rfl | exact kd_b0 _ | exact kd_b1 _ | exact kd_b2 _ | exact kd_b3 _ | exact kd_b4 _ | exact kd_b5 _ | exact kd_b6 _) (by omega) rfl rfl (Nat.le_of_ble_eq_true rfl) rfl ?_
  refine ct_X6_countSteps hS hb (fun J eJ eJ2 eJ3 => ?_)
  show Wp _ _ _ _ _ _ _
  refine Wp.aload_n rfl dX6_find_6 ?_
  refine Wp.iconst dX6_find_7 ?_
  refine Wp.pi (kz := 2) rfl dX6_find_8 fkX6_18 (Or.inl rfl) (Or.inl rfl) (by first | rfl | exact kd_b0 _ | exact kd_b1 _ | exact kd_b2 _ | exact kd_b3 _ | exact kd_b4 _ | exact kd_b5 _ | exact kd_b6 _) (by omega) ?_
  refine Wp.iload_n rfl dX6_find_11 ?_
  refine Wp.istore (ls' := [_, _, _, _, _, _]) dX6_find_12 (by decide) rfl ?_
  refine Wp.iconst dX6_find_14 ?_
  refine Wp.istore (ls' := [_, _, _, _, _, _]) dX6_find_15 (by decide) rfl ?_
  exact lp trivial 4 0 _ _ _ (by omega) (by omega) (eJ.wr (by unfold scr; omega)) (fun y hy => by simp (disch := omega) only [up_same, up_o, up_k]; exact eJ3 y hy) rfl (fun i hi => by omega) (by simp (disch := omega) only [up_same, up_o, up_k]; rfl) (fun i hi => by omega)
theorem ct_X11_chain {a b i : Int} (hS : ShR I L R n) (ha : inR a) (hb : inR b) (hi : inR i) (hq : ∀ J, Eqv I J → Q (some (vi (aChain (ldB I 255) a b i))) (J, L, R, n)) : Wp mX11_chain 0 [some (vr (some 0)), some (vi a), some (vi b), some (vi i)] [] (I, L, R, n) (0, 0) Q := by
  have hn := hS.1
  have hFx := hS.2.1
  unfold aChain at hq
  refine Wp.iload_n rfl dX11_chain_0 ?_
  refine Wp.callS (As := [_]) (ls0 := [_]) (bd := (0, 0)) (bd' := (0, 0)) dX11_chain_1 kmX11_isTongue lkX11_94 (by decide) (by decide) (Nat.le_of_ble_eq_true rfl) rfl rfl (Nat.le_of_ble_eq_true rfl) rfl ?_
  refine ct_X11_isTongue (by omega) ?_
  show Wp _ _ _ (_ :: _) _ _ _
  refine Wp.if_eqB (tgt := 14) dX11_chain_4 (by decide) (fun c4 => ?_) (fun c4 => ?_)
  · refine Wp.sipush rfl dX11_chain_14 ?_
    refine Wp.ireturn dX11_chain_17 rfl ?_
    first
    | (rw [if_neg (by omega)] at hq; exact hq I (Eqv.rf I))
    | (rw [if_pos (by omega), if_pos (by omega)] at hq; exact hq I (Eqv.rf I))
    | (rw [if_pos (by omega), if_neg (by omega), if_pos (by omega), if_pos (by omega)] at hq; exact hq J eJ)
    | (rw [if_pos (by omega), if_neg (by omega), if_pos (by omega), if_neg (by omega)] at hq; exact qI (hq J eJ) eZ)
    | (rw [if_pos (by omega), if_neg (by omega), if_neg (by omega)] at hq; refine qI (hq J eJ) ?_; rw [eZ]; by_cases hi2 : 0 ≤ i ∧ i < s.1; (rw [if_pos hi2, if_pos hi2]; have := eT i.toNat (by omega); rw [show ((i.toNat : Nat) : Int) = i by omega] at this; exact this); (rw [if_neg hi2, if_neg hi2]))
  · refine Wp.iload_n rfl dX11_chain_7 ?_
    refine Wp.callS (As := [_]) (ls0 := [_]) (bd := (0, 0)) (bd' := (0, 0)) dX11_chain_8 kmX11_isTongue lkX11_94 (by decide) (by decide) (Nat.le_of_ble_eq_true rfl) rfl rfl (Nat.le_of_ble_eq_true rfl) rfl ?_
    refine ct_X11_isTongue (by omega) ?_
    show Wp _ _ _ (_ :: _) _ _ _
    refine Wp.if_neB (tgt := 18) dX11_chain_11 (by decide) (fun c11 => ?_) (fun c11 => ?_)
    · refine Wp.iload_n rfl dX11_chain_18 ?_
      refine Wp.iload_n rfl dX11_chain_19 ?_
      refine Wp.icmp_ne (tgt := 27) dX11_chain_20 (by decide) (by first | omega | exact bI_R _ | exact cmp_R _ _ | assumption) (by first | omega | exact bI_R _ | exact cmp_R _ _ | assumption) (fun c20 => ?_) (fun c20 => ?_)
      · refine Wp.aload_n rfl dX11_chain_27 ?_
        refine Wp.gr (kz := 8) rfl dX11_chain_28 fkX11_68 (by first | rfl | exact kd_b0 _ | exact kd_b1 _ | exact kd_b2 _ | exact kd_b3 _ | exact kd_b4 _ | exact kd_b5 _ | exact kd_b6 _) (by omega) (by first | exact hFx _ 8 _ rfl | assumption | exact hBk.1 | exact hBk.2.1 | exact hBk.2.2.1 | exact hBk.2.2.2.1 | exact hBk.2.2.2.2.1 | exact hBk.2.2.2.2.2) ?_
        refine Wp.aload_n rfl dX11_chain_31 ?_
        refine Wp.gr (kz := 2) rfl dX11_chain_32 fkX11_26 (by first | rfl | exact kd_b0 _ | exact kd_b1 _ | exact kd_b2 _ | exact kd_b3 _ | exact kd_b4 _ | exact kd_b5 _ | exact kd_b6 _) (by omega) (by first | exact hFx _ 2 _ rfl | assumption | exact hBk.1 | exact hBk.2.1 | exact hBk.2.2.1 | exact hBk.2.2.2.1 | exact hBk.2.2.2.2.1 | exact hBk.2.2.2.2.2) ?_
        refine Wp.iload_n rfl dX11_chain_35 ?_
        refine Wp.iload_n rfl dX11_chain_36 ?_
        refine Wp.callV (As := [_, _, _]) (ls0 := [_, _, _, _, _, _]) (bd := (0, 0)) (bd' := (0, 0)) dX11_chain_37 kmX6_find lkX11_288 (by decide) (by decide) (Nat.le_of_ble_eq_true rfl) (by first | rfl | exact kd_b0 _ | exact kd_b1 _ | exact kd_b2 _ | exact kd_b3 _ | exact kd_b4 _ | exact kd_b5 _ | exact kd_b6 _) (by omega) rfl rfl (Nat.le_of_ble_eq_true rfl) rfl ?_
        refine ct_X6_find hS (by omega) (by omega) (by omega) (fun J eJ eZ eT => ?_)
        have hcs : csOk (chS (ldB I 255) a b) := fcX_ok (by omega) 4 (by omega)
        unfold csOk at hcs
        generalize hs : chS (ldB I 255) a b = s at *
        show Wp _ _ _ _ _ _ _
        refine Wp.iload_n rfl dX11_chain_40 ?_
        refine Wp.iconst dX11_chain_41 ?_
        refine Wp.icmp_ne (tgt := 67) dX11_chain_42 (by decide) (by first | omega | exact bI_R _ | exact cmp_R _ _ | assumption) (by first | omega | exact bI_R _ | exact cmp_R _ _ | assumption) (fun c42 => ?_) (fun c42 => ?_)
        · refine Wp.aload_n rfl dX11_chain_67 ?_
          refine Wp.gr (kz := 8) rfl dX11_chain_68 fkX11_68 (by first | rfl | exact kd_b0 _ | exact kd_b1 _ | exact kd_b2 _ | exact kd_b3 _ | exact kd_b4 _ | exact kd_b5 _ | exact kd_b6 _) (by omega) (by first | exact hFx _ 8 _ rfl | assumption | exact hBk.1 | exact hBk.2.1 | exact hBk.2.2.1 | exact hBk.2.2.2.1 | exact hBk.2.2.2.2.1 | exact hBk.2.2.2.2.2) ?_
          refine Wp.iload_n rfl dX11_chain_71 ?_
          refine Wp.callV (As := [_]) (ls0 := [_, _]) (bd := (0, 0)) (bd' := (0, 0)) dX11_chain_72 kmX6_tongueAt lkX11_293 (by decide) (by decide) (Nat.le_of_ble_eq_true rfl) (by first | rfl | exact kd_b0 _ | exact kd_b1 _ | exact kd_b2 _ | exact kd_b3 _ | exact kd_b4 _ | exact kd_b5 _ | exact kd_b6 _) (by omega) rfl rfl (Nat.le_of_ble_eq_true rfl) rfl ?_
          refine ct_X6_tongueAt hn hFx (by omega) (by omega) (by omega) ?_
          show Wp _ _ _ (_ :: _) _ _ _
          refine Wp.ireturn dX11_chain_75 rfl ?_
          first
          | (rw [if_neg (by omega)] at hq; exact hq I (Eqv.rf I))
          | (rw [if_pos (by omega), if_pos (by omega)] at hq; exact hq I (Eqv.rf I))
          | (rw [if_pos (by omega), if_neg (by omega), if_pos (by omega), if_pos (by omega)] at hq; exact hq J eJ)
          | (rw [if_pos (by omega), if_neg (by omega), if_pos (by omega), if_neg (by omega)] at hq; exact qI (hq J eJ) eZ)
          | (rw [if_pos (by omega), if_neg (by omega), if_neg (by omega)] at hq; refine qI (hq J eJ) ?_; rw [eZ]; by_cases hi2 : 0 ≤ i ∧ i < s.1; (rw [if_pos hi2, if_pos hi2]; have := eT i.toNat (by omega); rw [show ((i.toNat : Nat) : Int) = i by omega] at this; exact this); (rw [if_neg hi2, if_neg hi2]))
        · refine Wp.aload_n rfl dX11_chain_45 ?_
          refine Wp.gr (kz := 8) rfl dX11_chain_46 fkX11_68 (by first | rfl | exact kd_b0 _ | exact kd_b1 _ | exact kd_b2 _ | exact kd_b3 _ | exact kd_b4 _ | exact kd_b5 _ | exact kd_b6 _) (by omega) (by first | exact hFx _ 8 _ rfl | assumption | exact hBk.1 | exact hBk.2.1 | exact hBk.2.2.1 | exact hBk.2.2.2.1 | exact hBk.2.2.2.2.1 | exact hBk.2.2.2.2.2) ?_
          refine Wp.gi (kz := 2) rfl dX11_chain_49 fkX11_292 (by first | rfl | exact kd_b0 _ | exact kd_b1 _ | exact kd_b2 _ | exact kd_b3 _ | exact kd_b4 _ | exact kd_b5 _ | exact kd_b6 _) (by omega) ?_
          refine Wp.if_ne (tgt := 59) dX11_chain_52 (by decide) (by first | omega | exact bI_R _ | exact cmp_R _ _ | assumption) (fun c52 => ?_) (fun c52 => ?_)
          · refine Wp.aload_n rfl dX11_chain_59 ?_
            refine Wp.gr (kz := 8) rfl dX11_chain_60 fkX11_68 (by first | rfl | exact kd_b0 _ | exact kd_b1 _ | exact kd_b2 _ | exact kd_b3 _ | exact kd_b4 _ | exact kd_b5 _ | exact kd_b6 _) (by omega) (by first | exact hFx _ 8 _ rfl | assumption | exact hBk.1 | exact hBk.2.1 | exact hBk.2.2.1 | exact hBk.2.2.2.1 | exact hBk.2.2.2.2.1 | exact hBk.2.2.2.2.2) ?_
            refine Wp.gi (kz := 2) rfl dX11_chain_63 fkX11_292 (by first | rfl | exact kd_b0 _ | exact kd_b1 _ | exact kd_b2 _ | exact kd_b3 _ | exact kd_b4 _ | exact kd_b5 _ | exact kd_b6 _) (by omega) ?_
            refine Wp.ireturn dX11_chain_66 rfl ?_
            first
            | (rw [if_neg (by omega)] at hq; exact hq I (Eqv.rf I))
            | (rw [if_pos (by omega), if_pos (by omega)] at hq; exact hq I (Eqv.rf I))
            | (rw [if_pos (by omega), if_neg (by omega), if_pos (by omega), if_pos (by omega)] at hq; exact hq J eJ)
            | (rw [if_pos (by omega), if_neg (by omega), if_pos (by omega), if_neg (by omega)] at hq; exact qI (hq J eJ) eZ)
            | (rw [if_pos (by omega), if_neg (by omega), if_neg (by omega)] at hq; refine qI (hq J eJ) ?_; rw [eZ]; by_cases hi2 : 0 ≤ i ∧ i < s.1; (rw [if_pos hi2, if_pos hi2]; have := eT i.toNat (by omega); rw [show ((i.toNat : Nat) : Int) = i by omega] at this; exact this); (rw [if_neg hi2, if_neg hi2]))
          · refine Wp.iconst dX11_chain_55 ?_
            refine Wp.goto (tgt := 66) dX11_chain_56 (by decide) ?_
            refine Wp.ireturn dX11_chain_66 rfl ?_
            first
            | (rw [if_neg (by omega)] at hq; exact hq I (Eqv.rf I))
            | (rw [if_pos (by omega), if_pos (by omega)] at hq; exact hq I (Eqv.rf I))
            | (rw [if_pos (by omega), if_neg (by omega), if_pos (by omega), if_pos (by omega)] at hq; exact hq J eJ)
            | (rw [if_pos (by omega), if_neg (by omega), if_pos (by omega), if_neg (by omega)] at hq; exact qI (hq J eJ) eZ)
            | (rw [if_pos (by omega), if_neg (by omega), if_neg (by omega)] at hq; refine qI (hq J eJ) ?_; rw [eZ]; by_cases hi2 : 0 ≤ i ∧ i < s.1; (rw [if_pos hi2, if_pos hi2]; have := eT i.toNat (by omega); rw [show ((i.toNat : Nat) : Int) = i by omega] at this; exact this); (rw [if_neg hi2, if_neg hi2]))
      · refine Wp.sipush rfl dX11_chain_23 ?_
        refine Wp.ireturn dX11_chain_26 rfl ?_
        first
        | (rw [if_neg (by omega)] at hq; exact hq I (Eqv.rf I))
        | (rw [if_pos (by omega), if_pos (by omega)] at hq; exact hq I (Eqv.rf I))
        | (rw [if_pos (by omega), if_neg (by omega), if_pos (by omega), if_pos (by omega)] at hq; exact hq J eJ)
        | (rw [if_pos (by omega), if_neg (by omega), if_pos (by omega), if_neg (by omega)] at hq; exact qI (hq J eJ) eZ)
        | (rw [if_pos (by omega), if_neg (by omega), if_neg (by omega)] at hq; refine qI (hq J eJ) ?_; rw [eZ]; by_cases hi2 : 0 ≤ i ∧ i < s.1; (rw [if_pos hi2, if_pos hi2]; have := eT i.toNat (by omega); rw [show ((i.toNat : Nat) : Int) = i by omega] at this; exact this); (rw [if_neg hi2, if_neg hi2]))
    · refine Wp.sipush rfl dX11_chain_14 ?_
      refine Wp.ireturn dX11_chain_17 rfl ?_
      first
      | (rw [if_neg (by omega)] at hq; exact hq I (Eqv.rf I))
      | (rw [if_pos (by omega), if_pos (by omega)] at hq; exact hq I (Eqv.rf I))
      | (rw [if_pos (by omega), if_neg (by omega), if_pos (by omega), if_pos (by omega)] at hq; exact hq J eJ)
      | (rw [if_pos (by omega), if_neg (by omega), if_pos (by omega), if_neg (by omega)] at hq; exact qI (hq J eJ) eZ)
      | (rw [if_pos (by omega), if_neg (by omega), if_neg (by omega)] at hq; refine qI (hq J eJ) ?_; rw [eZ]; by_cases hi2 : 0 ≤ i ∧ i < s.1; (rw [if_pos hi2, if_pos hi2]; have := eT i.toNat (by omega); rw [show ((i.toNat : Nat) : Int) = i by omega] at this; exact this); (rw [if_neg hi2, if_neg hi2]))
end

