/-! ===== the reference: promises 1, 3: numbers ===== -/
theorem dc_nd {T : Int → Int} {n : Int} : ∀ (f : Nat) (p : Int), (n - p).toNat = f → ¬ dgP T n (p + dc T n p)
  | 0, p, h => by rw [dc_f (by omega)]; omega
  | f + 1, p, h => by
    by_cases hc : dgP T n p
    · rw [dc_t hc, show p + (dc T n (p + 1) + 1) = p + 1 + dc T n (p + 1) by omega]
      exact dc_nd f (p + 1) (by omega)
    · rw [dc_f hc, Int.add_zero]; exact hc
section
variable {I : Nat → Int → Int} {L : Nat → Int → BitVec 64} {R : Nat → Int → Option Nat} {n : Nat} {m : Mm} {Q : Option AV → Mm → Prop}
theorem nN_t {T : Int → Int} {p : Int} {k : Nat} (h : 10000 < nN T p k) : nN T p k = nN T p (k + 1) := by simp only [nN]; rw [if_pos h]
set_option maxHeartbeats 1000000 in
theorem ct_X12_readNumber {most p : Int} (hn : 57 ≤ n) (hFx : Fx R) (hT : TxW I) (hm : 0 ≤ most ∧ most ≤ 99) (h0 : 0 ≤ I 32 15) (h1 : I 32 15 ≤ I 32 13) (hp : p = sk (I 41) (I 32 13) (I 32 15))
    (hf1 : ∀ J, FrN I J → ¬ dgP (I 41) (I 32 13) p → J 32 14 = p → Q (some (vi 1)) (J, L, R, n))
    (hf2 : ∀ J, FrN I J → dgP (I 41) (I 32 13) p → (2 < dc (I 41) (I 32 13) p ∨ most < vN (I 41) p (dc (I 41) (I 32 13) p).toNat) → J 32 14 = p → Q (some (vi 2)) (J, L, R, n))
    (hq : ∀ J, FrN I J → dgP (I 41) (I 32 13) p → ¬ (2 < dc (I 41) (I 32 13) p ∨ most < vN (I 41) p (dc (I 41) (I 32 13) p).toNat) → J 32 14 = I 32 14 → J 32 15 = p + dc (I 41) (I 32 13) p → J 32 16 = vN (I 41) p (dc (I 41) (I 32 13) p).toNat → J 32 17 = p → Q (some (vi 0)) (J, L, R, n)) :
    Wp mX12_readNumber 0 [some (vr (some 32)), some (vi most), none] [] (I, L, R, n) (0, 0) Q := by
  have hB := sk_B (T := I 41) h1
  rw [← hp] at hB
  have hT1 := hT.2.1
  have hdB := dc_B (T := I 41) hB.2.1
  have hb : ∀ q : Int, 0 ≤ q → q < I 32 13 → 0 ≤ I 41 q ∧ I 41 q ≤ 255 := hT.2.2
  have hs : -1 ≤ sgE (I 41) (I 32 13) p ∧ sgE (I 41) (I 32 13) p ≤ 255 := by unfold sgE; split; have := hb p (by omega) (by assumption); omega; omega
  have hsg : dgP (I 41) (I 32 13) p ↔ 48 ≤ sgE (I 41) (I 32 13) p ∧ sgE (I 41) (I 32 13) p ≤ 57 := by
    unfold sgE dgP
    split <;> omega
  have hdig : ∀ j : Nat, (j : Int) < dc (I 41) (I 32 13) p → dgP (I 41) (I 32 13) (p + j) := fun j hj => dc_dg j p hj
  have hnd := dc_nd (T := I 41) (n := I 32 13) _ p rfl
  have lp : ∀ (hdg : dgP (I 41) (I 32 13) p) (c : Int) , ∀ (tt k : Nat) (z : Int) (J : Nat → Int → Int), k + tt = (dc (I 41) (I 32 13) p).toNat → z = k → FrN I J → J 32 14 = I 32 14 → (J 32 15 = p + k) → (J 32 16 = nN (I 41) p k) → (J 32 17 = p) → Wp mX12_readNumber 42 [some (vr (some 32)), some (vi most), some (vi c)] [] (J, L, R, n) (0, 0) Q := by
    intro hdg c
    intro tt
    induction tt with
    | zero =>
      intro k z J hkt hz e0 e1 e2 e3 e4
      obtain rfl : k = (dc (I 41) (I 32 13) p).toNat := by omega
      have hk0 : (((dc (I 41) (I 32 13) p).toNat : Nat) : Int) = dc (I 41) (I 32 13) p := by omega
      rw [hk0] at e2
      have h13 : J 32 13 = I 32 13 := e0.t.2
      have h41 : J 41 (J 32 15) = I 41 (J 32 15) := e0 41 _ (by omega)
      have hnb : J 32 15 < I 32 13 → 0 ≤ I 41 (J 32 15) ∧ I 41 (J 32 15) ≤ 255 := fun h => hb _ (by omega) h
      have hnB := nN_B (T := I 41) (p := p) (dc (I 41) (I 32 13) p).toNat (fun j hj => ⟨(hdig j (by omega)).2.1, (hdig j (by omega)).2.2⟩)
      have hnv : ¬ 2 < dc (I 41) (I 32 13) p → nN (I 41) p (dc (I 41) (I 32 13) p).toNat = vN (I 41) p (dc (I 41) (I 32 13) p).toNat := fun h => (nN_v (T := I 41) (p := p) (k := (dc (I 41) (I 32 13) p).toNat) (by omega) (fun j hj => ⟨(hdig j (by omega)).2.1, (hdig j (by omega)).2.2⟩)).1
      rw [← e2] at hnd
      refine Wp.aload_n rfl dX12_readNumber_42 ?_
      refine Wp.gi (kz := 15) rfl dX12_readNumber_43 fkX12_113 (by first | rfl | exact kd_b0 _ | exact kd_b1 _ | exact kd_b2 _ | exact kd_b3 _ | exact kd_b4 _ | exact kd_b5 _ | exact kd_b6 _) (by omega) ?_
      refine Wp.aload_n rfl dX12_readNumber_46 ?_
      refine Wp.gi (kz := 13) rfl dX12_readNumber_47 fkX12_108 (by first | rfl | exact kd_b0 _ | exact kd_b1 _ | exact kd_b2 _ | exact kd_b3 _ | exact kd_b4 _ | exact kd_b5 _ | exact kd_b6 _) (by omega) ?_
      refine Wp.icmp_ge (tgt := 129) dX12_readNumber_50 (by decide) (by first | omega | exact bI_R _ | exact cmp_R _ _ | assumption) (by first | omega | exact bI_R _ | exact cmp_R _ _ | assumption) (fun c50 => ?_) (fun c50 => ?_)
      · refine Wp.aload_n rfl dX12_readNumber_129 ?_
        refine Wp.gi (kz := 15) rfl dX12_readNumber_130 fkX12_113 (by first | rfl | exact kd_b0 _ | exact kd_b1 _ | exact kd_b2 _ | exact kd_b3 _ | exact kd_b4 _ | exact kd_b5 _ | exact kd_b6 _) (by omega) ?_
        refine Wp.aload_n rfl dX12_readNumber_133 ?_
        refine Wp.gi (kz := 17) rfl dX12_readNumber_134 fkX12_128 (by first | rfl | exact kd_b0 _ | exact kd_b1 _ | exact kd_b2 _ | exact kd_b3 _ | exact kd_b4 _ | exact kd_b5 _ | exact kd_b6 _) (by omega) ?_
        refine Wp.isub dX12_readNumber_137 ?_
        refine Wp.iconst dX12_readNumber_138 ?_
        refine Wp.icmp_gt (tgt := 150) dX12_readNumber_139 (by decide) (by first | omega | exact bI_R _ | exact cmp_R _ _ | assumption) (by first | omega | exact bI_R _ | exact cmp_R _ _ | assumption) (fun c139 => ?_) (fun c139 => ?_)
        · refine Wp.aload_n rfl dX12_readNumber_150 ?_
          refine Wp.iconst dX12_readNumber_151 ?_
          refine Wp.aload_n rfl dX12_readNumber_152 ?_
          refine Wp.gi (kz := 17) rfl dX12_readNumber_153 fkX12_128 (by first | rfl | exact kd_b0 _ | exact kd_b1 _ | exact kd_b2 _ | exact kd_b3 _ | exact kd_b4 _ | exact kd_b5 _ | exact kd_b6 _) (by omega) ?_
          refine Wp.callV (As := [_, _]) (ls0 := [_, _, _]) (bd := (0, 0)) (bd' := (0, 0)) dX12_readNumber_156 kmX12_fails lkX12_124 (by decide) (by decide) (Nat.le_of_ble_eq_true rfl) (by first | rfl | exact kd_b0 _ | exact kd_b1 _ | exact kd_b2 _ | exact kd_b3 _ | exact kd_b4 _ | exact kd_b5 _ | exact kd_b6 _) (by omega) rfl rfl (Nat.le_of_ble_eq_true rfl) rfl ?_
          refine ct_X12_fails hn ?_
          show Wp _ _ _ (_ :: _) _ _ _
          refine Wp.goto (tgt := 163) dX12_readNumber_159 (by decide) ?_
          refine Wp.ireturn dX12_readNumber_163 rfl ?_
          first | (exfalso; omega) | (first | exact hq J e0 hdg (by omega) e1 e2 (by omega) e4 | exact hf2 _ (e0.wr (by omega)) hdg (by omega) (by rw [up_same]; exact e4))
        · refine Wp.aload_n rfl dX12_readNumber_142 ?_
          refine Wp.gi (kz := 16) rfl dX12_readNumber_143 fkX12_131 (by first | rfl | exact kd_b0 _ | exact kd_b1 _ | exact kd_b2 _ | exact kd_b3 _ | exact kd_b4 _ | exact kd_b5 _ | exact kd_b6 _) (by omega) ?_
          refine Wp.iload_n rfl dX12_readNumber_146 ?_
          refine Wp.icmp_le (tgt := 162) dX12_readNumber_147 (by decide) (by first | omega | exact bI_R _ | exact cmp_R _ _ | assumption) (by first | omega | exact bI_R _ | exact cmp_R _ _ | assumption) (fun c147 => ?_) (fun c147 => ?_)
          · refine Wp.iconst dX12_readNumber_162 ?_
            refine Wp.ireturn dX12_readNumber_163 rfl ?_
            first | (exfalso; omega) | (first | exact hq J e0 hdg (by omega) e1 e2 (by omega) e4 | exact hf2 _ (e0.wr (by omega)) hdg (by omega) (by rw [up_same]; exact e4))
          · refine Wp.aload_n rfl dX12_readNumber_150 ?_
            refine Wp.iconst dX12_readNumber_151 ?_
            refine Wp.aload_n rfl dX12_readNumber_152 ?_
            refine Wp.gi (kz := 17) rfl dX12_readNumber_153 fkX12_128 (by first | rfl | exact kd_b0 _ | exact kd_b1 _ | exact kd_b2 _ | exact kd_b3 _ | exact kd_b4 _ | exact kd_b5 _ | exact kd_b6 _) (by omega) ?_
            refine Wp.callV (As := [_, _]) (ls0 := [_, _, _]) (bd := (0, 0)) (bd' := (0, 0)) dX12_readNumber_156 kmX12_fails lkX12_124 (by decide) (by decide) (Nat.le_of_ble_eq_true rfl) (by first | rfl | exact kd_b0 _ | exact kd_b1 _ | exact kd_b2 _ | exact kd_b3 _ | exact kd_b4 _ | exact kd_b5 _ | exact kd_b6 _) (by omega) rfl rfl (Nat.le_of_ble_eq_true rfl) rfl ?_
            refine ct_X12_fails hn ?_
            show Wp _ _ _ (_ :: _) _ _ _
            refine Wp.goto (tgt := 163) dX12_readNumber_159 (by decide) ?_
            refine Wp.ireturn dX12_readNumber_163 rfl ?_
            first | (exfalso; omega) | (first | exact hq J e0 hdg (by omega) e1 e2 (by omega) e4 | exact hf2 _ (e0.wr (by omega)) hdg (by omega) (by rw [up_same]; exact e4))
      · refine Wp.aload_n rfl dX12_readNumber_53 ?_
        refine Wp.gr (kz := 12) rfl dX12_readNumber_54 fkX12_46 (by first | rfl | exact kd_b0 _ | exact kd_b1 _ | exact kd_b2 _ | exact kd_b3 _ | exact kd_b4 _ | exact kd_b5 _ | exact kd_b6 _) (by omega) (by first | exact hFx _ 12 _ rfl | assumption | exact hBk.1 | exact hBk.2.1 | exact hBk.2.2.1 | exact hBk.2.2.2.1 | exact hBk.2.2.2.2.1 | exact hBk.2.2.2.2.2) ?_
        refine Wp.aload_n rfl dX12_readNumber_57 ?_
        refine Wp.gi (kz := 15) rfl dX12_readNumber_58 fkX12_113 (by first | rfl | exact kd_b0 _ | exact kd_b1 _ | exact kd_b2 _ | exact kd_b3 _ | exact kd_b4 _ | exact kd_b5 _ | exact kd_b6 _) (by omega) ?_
        refine Wp.iaload dX12_readNumber_61 (by first | rfl | exact kd_b0 _ | exact kd_b1 _ | exact kd_b2 _ | exact kd_b3 _ | exact kd_b4 _ | exact kd_b5 _ | exact kd_b6 _) (by omega) (by omega) (by omega) ?_
        refine Wp.i2l (by first | omega | exact bI_R _ | exact cmp_R _ _ | assumption) dX12_readNumber_62 ?_
        refine Wp.ldc2_w (b := 48#64) ckX12_120 rfl dX12_readNumber_63 ?_
        refine Wp.ldc2_w (b := 57#64) ckX12_122 rfl dX12_readNumber_66 ?_
        refine Wp.callS (As := [_, _, _]) (ls0 := [_, _, _, _, _, _]) (bd := (0, 0)) (bd' := (0, 0)) dX12_readNumber_69 kmX12_in lkX12_100 (by decide) (by decide) (Nat.le_of_ble_eq_true rfl) rfl rfl (Nat.le_of_ble_eq_true rfl) rfl ?_
        refine ct_X12_in (a := 48) (b := 57) (ofI_toInt (by omega)) rfl rfl ?_
        show Wp _ _ _ (_ :: _) _ _ _
        refine Wp.if_eqB (tgt := 129) dX12_readNumber_72 (by decide) (fun c72 => ?_) (fun c72 => ?_)
        · refine Wp.aload_n rfl dX12_readNumber_129 ?_
          refine Wp.gi (kz := 15) rfl dX12_readNumber_130 fkX12_113 (by first | rfl | exact kd_b0 _ | exact kd_b1 _ | exact kd_b2 _ | exact kd_b3 _ | exact kd_b4 _ | exact kd_b5 _ | exact kd_b6 _) (by omega) ?_
          refine Wp.aload_n rfl dX12_readNumber_133 ?_
          refine Wp.gi (kz := 17) rfl dX12_readNumber_134 fkX12_128 (by first | rfl | exact kd_b0 _ | exact kd_b1 _ | exact kd_b2 _ | exact kd_b3 _ | exact kd_b4 _ | exact kd_b5 _ | exact kd_b6 _) (by omega) ?_
          refine Wp.isub dX12_readNumber_137 ?_
          refine Wp.iconst dX12_readNumber_138 ?_
          refine Wp.icmp_gt (tgt := 150) dX12_readNumber_139 (by decide) (by first | omega | exact bI_R _ | exact cmp_R _ _ | assumption) (by first | omega | exact bI_R _ | exact cmp_R _ _ | assumption) (fun c139 => ?_) (fun c139 => ?_)
          · refine Wp.aload_n rfl dX12_readNumber_150 ?_
            refine Wp.iconst dX12_readNumber_151 ?_
            refine Wp.aload_n rfl dX12_readNumber_152 ?_
            refine Wp.gi (kz := 17) rfl dX12_readNumber_153 fkX12_128 (by first | rfl | exact kd_b0 _ | exact kd_b1 _ | exact kd_b2 _ | exact kd_b3 _ | exact kd_b4 _ | exact kd_b5 _ | exact kd_b6 _) (by omega) ?_
            refine Wp.callV (As := [_, _]) (ls0 := [_, _, _]) (bd := (0, 0)) (bd' := (0, 0)) dX12_readNumber_156 kmX12_fails lkX12_124 (by decide) (by decide) (Nat.le_of_ble_eq_true rfl) (by first | rfl | exact kd_b0 _ | exact kd_b1 _ | exact kd_b2 _ | exact kd_b3 _ | exact kd_b4 _ | exact kd_b5 _ | exact kd_b6 _) (by omega) rfl rfl (Nat.le_of_ble_eq_true rfl) rfl ?_
            refine ct_X12_fails hn ?_
            show Wp _ _ _ (_ :: _) _ _ _
            refine Wp.goto (tgt := 163) dX12_readNumber_159 (by decide) ?_
            refine Wp.ireturn dX12_readNumber_163 rfl ?_
            first | (exfalso; omega) | (first | exact hq J e0 hdg (by omega) e1 e2 (by omega) e4 | exact hf2 _ (e0.wr (by omega)) hdg (by omega) (by rw [up_same]; exact e4))
          · refine Wp.aload_n rfl dX12_readNumber_142 ?_
            refine Wp.gi (kz := 16) rfl dX12_readNumber_143 fkX12_131 (by first | rfl | exact kd_b0 _ | exact kd_b1 _ | exact kd_b2 _ | exact kd_b3 _ | exact kd_b4 _ | exact kd_b5 _ | exact kd_b6 _) (by omega) ?_
            refine Wp.iload_n rfl dX12_readNumber_146 ?_
            refine Wp.icmp_le (tgt := 162) dX12_readNumber_147 (by decide) (by first | omega | exact bI_R _ | exact cmp_R _ _ | assumption) (by first | omega | exact bI_R _ | exact cmp_R _ _ | assumption) (fun c147 => ?_) (fun c147 => ?_)
            · refine Wp.iconst dX12_readNumber_162 ?_
              refine Wp.ireturn dX12_readNumber_163 rfl ?_
              first | (exfalso; omega) | (first | exact hq J e0 hdg (by omega) e1 e2 (by omega) e4 | exact hf2 _ (e0.wr (by omega)) hdg (by omega) (by rw [up_same]; exact e4))
            · refine Wp.aload_n rfl dX12_readNumber_150 ?_
              refine Wp.iconst dX12_readNumber_151 ?_
              refine Wp.aload_n rfl dX12_readNumber_152 ?_
              refine Wp.gi (kz := 17) rfl dX12_readNumber_153 fkX12_128 (by first | rfl | exact kd_b0 _ | exact kd_b1 _ | exact kd_b2 _ | exact kd_b3 _ | exact kd_b4 _ | exact kd_b5 _ | exact kd_b6 _) (by omega) ?_
              refine Wp.callV (As := [_, _]) (ls0 := [_, _, _]) (bd := (0, 0)) (bd' := (0, 0)) dX12_readNumber_156 kmX12_fails lkX12_124 (by decide) (by decide) (Nat.le_of_ble_eq_true rfl) (by first | rfl | exact kd_b0 _ | exact kd_b1 _ | exact kd_b2 _ | exact kd_b3 _ | exact kd_b4 _ | exact kd_b5 _ | exact kd_b6 _) (by omega) rfl rfl (Nat.le_of_ble_eq_true rfl) rfl ?_
              refine ct_X12_fails hn ?_
              show Wp _ _ _ (_ :: _) _ _ _
              refine Wp.goto (tgt := 163) dX12_readNumber_159 (by decide) ?_
              refine Wp.ireturn dX12_readNumber_163 rfl ?_
              first | (exfalso; omega) | (first | exact hq J e0 hdg (by omega) e1 e2 (by omega) e4 | exact hf2 _ (e0.wr (by omega)) hdg (by omega) (by rw [up_same]; exact e4))
        · exfalso; omega
    | succ tt ih =>
      intro k z J hkt hz e0 e1 e2 e3 e4
      subst hz
      have h13 : J 32 13 = I 32 13 := e0.t.2
      have h41 : J 41 (J 32 15) = I 41 (J 32 15) := e0 41 _ (by omega)
      have hdk := hdig k (by omega)
      rw [← e2] at hdk
      have hnB := nN_B (T := I 41) (p := p) k (fun j hj => ⟨(hdig j (by omega)).2.1, (hdig j (by omega)).2.2⟩)
      refine Wp.aload_n rfl dX12_readNumber_42 ?_
      refine Wp.gi (kz := 15) rfl dX12_readNumber_43 fkX12_113 (by first | rfl | exact kd_b0 _ | exact kd_b1 _ | exact kd_b2 _ | exact kd_b3 _ | exact kd_b4 _ | exact kd_b5 _ | exact kd_b6 _) (by omega) ?_
      refine Wp.aload_n rfl dX12_readNumber_46 ?_
      refine Wp.gi (kz := 13) rfl dX12_readNumber_47 fkX12_108 (by first | rfl | exact kd_b0 _ | exact kd_b1 _ | exact kd_b2 _ | exact kd_b3 _ | exact kd_b4 _ | exact kd_b5 _ | exact kd_b6 _) (by omega) ?_
      refine Wp.icmp_ge (tgt := 129) dX12_readNumber_50 (by decide) (by first | omega | exact bI_R _ | exact cmp_R _ _ | assumption) (by first | omega | exact bI_R _ | exact cmp_R _ _ | assumption) (fun c50 => ?_) (fun c50 => ?_)
      · exfalso; omega
      · refine Wp.aload_n rfl dX12_readNumber_53 ?_
        refine Wp.gr (kz := 12) rfl dX12_readNumber_54 fkX12_46 (by first | rfl | exact kd_b0 _ | exact kd_b1 _ | exact kd_b2 _ | exact kd_b3 _ | exact kd_b4 _ | exact kd_b5 _ | exact kd_b6 _) (by omega) (by first | exact hFx _ 12 _ rfl | assumption | exact hBk.1 | exact hBk.2.1 | exact hBk.2.2.1 | exact hBk.2.2.2.1 | exact hBk.2.2.2.2.1 | exact hBk.2.2.2.2.2) ?_
        refine Wp.aload_n rfl dX12_readNumber_57 ?_
        refine Wp.gi (kz := 15) rfl dX12_readNumber_58 fkX12_113 (by first | rfl | exact kd_b0 _ | exact kd_b1 _ | exact kd_b2 _ | exact kd_b3 _ | exact kd_b4 _ | exact kd_b5 _ | exact kd_b6 _) (by omega) ?_
        refine Wp.iaload dX12_readNumber_61 (by first | rfl | exact kd_b0 _ | exact kd_b1 _ | exact kd_b2 _ | exact kd_b3 _ | exact kd_b4 _ | exact kd_b5 _ | exact kd_b6 _) (by omega) (by omega) (by omega) ?_
        refine Wp.i2l (by first | omega | exact bI_R _ | exact cmp_R _ _ | assumption) dX12_readNumber_62 ?_
        refine Wp.ldc2_w (b := 48#64) ckX12_120 rfl dX12_readNumber_63 ?_
        refine Wp.ldc2_w (b := 57#64) ckX12_122 rfl dX12_readNumber_66 ?_
        refine Wp.callS (As := [_, _, _]) (ls0 := [_, _, _, _, _, _]) (bd := (0, 0)) (bd' := (0, 0)) dX12_readNumber_69 kmX12_in lkX12_100 (by decide) (by decide) (Nat.le_of_ble_eq_true rfl) rfl rfl (Nat.le_of_ble_eq_true rfl) rfl ?_
        refine ct_X12_in (a := 48) (b := 57) (ofI_toInt (by omega)) rfl rfl ?_
        show Wp _ _ _ (_ :: _) _ _ _
        refine Wp.if_eqB (tgt := 129) dX12_readNumber_72 (by decide) (fun c72 => ?_) (fun c72 => ?_)
        · exfalso; omega
        · refine Wp.aload_n rfl dX12_readNumber_75 ?_
          refine Wp.aload_n rfl dX12_readNumber_76 ?_
          refine Wp.gi (kz := 16) rfl dX12_readNumber_77 fkX12_131 (by first | rfl | exact kd_b0 _ | exact kd_b1 _ | exact kd_b2 _ | exact kd_b3 _ | exact kd_b4 _ | exact kd_b5 _ | exact kd_b6 _) (by omega) ?_
          refine Wp.sipush rfl dX12_readNumber_80 ?_
          refine Wp.icmp_le (tgt := 93) dX12_readNumber_83 (by decide) (by first | omega | exact bI_R _ | exact cmp_R _ _ | assumption) (by first | omega | exact bI_R _ | exact cmp_R _ _ | assumption) (fun c83 => ?_) (fun c83 => ?_)
          · refine Wp.bipush rfl dX12_readNumber_93 ?_
            refine Wp.aload_n rfl dX12_readNumber_95 ?_
            refine Wp.gi (kz := 16) rfl dX12_readNumber_96 fkX12_131 (by first | rfl | exact kd_b0 _ | exact kd_b1 _ | exact kd_b2 _ | exact kd_b3 _ | exact kd_b4 _ | exact kd_b5 _ | exact kd_b6 _) (by omega) ?_
            refine Wp.imul dX12_readNumber_99 ?_
            refine Wp.aload_n rfl dX12_readNumber_100 ?_
            refine Wp.gr (kz := 12) rfl dX12_readNumber_101 fkX12_46 (by first | rfl | exact kd_b0 _ | exact kd_b1 _ | exact kd_b2 _ | exact kd_b3 _ | exact kd_b4 _ | exact kd_b5 _ | exact kd_b6 _) (by omega) (by first | exact hFx _ 12 _ rfl | assumption | exact hBk.1 | exact hBk.2.1 | exact hBk.2.2.1 | exact hBk.2.2.2.1 | exact hBk.2.2.2.2.1 | exact hBk.2.2.2.2.2) ?_
            refine Wp.aload_n rfl dX12_readNumber_104 ?_
            refine Wp.gi (kz := 15) rfl dX12_readNumber_105 fkX12_113 (by first | rfl | exact kd_b0 _ | exact kd_b1 _ | exact kd_b2 _ | exact kd_b3 _ | exact kd_b4 _ | exact kd_b5 _ | exact kd_b6 _) (by omega) ?_
            refine Wp.iaload dX12_readNumber_108 (by first | rfl | exact kd_b0 _ | exact kd_b1 _ | exact kd_b2 _ | exact kd_b3 _ | exact kd_b4 _ | exact kd_b5 _ | exact kd_b6 _) (by omega) (by omega) (by omega) ?_
            refine Wp.iadd dX12_readNumber_109 ?_
            refine Wp.bipush rfl dX12_readNumber_110 ?_
            refine Wp.isub dX12_readNumber_112 ?_
            refine Wp.pi (kz := 16) rfl dX12_readNumber_113 fkX12_131 (Or.inl rfl) (Or.inl rfl) (by first | rfl | exact kd_b0 _ | exact kd_b1 _ | exact kd_b2 _ | exact kd_b3 _ | exact kd_b4 _ | exact kd_b5 _ | exact kd_b6 _) (by omega) ?_
            refine Wp.aload_n rfl dX12_readNumber_116 ?_
            first | refine Wp.dupR dX12_readNumber_117 ?_ | refine Wp.dupI dX12_readNumber_117 ?_
            refine Wp.gi (kz := 15) rfl dX12_readNumber_118 fkX12_113 (by first | rfl | exact kd_b0 _ | exact kd_b1 _ | exact kd_b2 _ | exact kd_b3 _ | exact kd_b4 _ | exact kd_b5 _ | exact kd_b6 _) (by omega) ?_
            try simp (disch := omega) only [up_same, up_o, up_k]
            refine Wp.iconst dX12_readNumber_121 ?_
            refine Wp.iadd dX12_readNumber_122 ?_
            refine Wp.pi (kz := 15) rfl dX12_readNumber_123 fkX12_113 (Or.inl rfl) (Or.inl rfl) (by first | rfl | exact kd_b0 _ | exact kd_b1 _ | exact kd_b2 _ | exact kd_b3 _ | exact kd_b4 _ | exact kd_b5 _ | exact kd_b6 _) (by omega) ?_
            refine Wp.goto (tgt := 42) dX12_readNumber_126 (by decide) ?_
            first | (exfalso; omega) | exact ih (k + 1) (k + 1) _ (by omega) (by omega) ((e0.wr (by omega)).wr (by omega)) (by simp (disch := omega) only [up_same, up_o, up_k]; exact e1) (by simp (disch := omega) only [up_same, up_o, up_k]; omega) (by simp (disch := omega) only [up_same, up_o, up_k]; first | (rw [e3]; exact nN_t (by omega)) | (rw [nN_s (by omega), e3, h41, e2])) (by simp (disch := omega) only [up_same, up_o, up_k]; exact e4)
          · refine Wp.aload_n rfl dX12_readNumber_86 ?_
            refine Wp.gi (kz := 16) rfl dX12_readNumber_87 fkX12_131 (by first | rfl | exact kd_b0 _ | exact kd_b1 _ | exact kd_b2 _ | exact kd_b3 _ | exact kd_b4 _ | exact kd_b5 _ | exact kd_b6 _) (by omega) ?_
            refine Wp.goto (tgt := 113) dX12_readNumber_90 (by decide) ?_
            refine Wp.pi (kz := 16) rfl dX12_readNumber_113 fkX12_131 (Or.inl rfl) (Or.inl rfl) (by first | rfl | exact kd_b0 _ | exact kd_b1 _ | exact kd_b2 _ | exact kd_b3 _ | exact kd_b4 _ | exact kd_b5 _ | exact kd_b6 _) (by omega) ?_
            refine Wp.aload_n rfl dX12_readNumber_116 ?_
            first | refine Wp.dupR dX12_readNumber_117 ?_ | refine Wp.dupI dX12_readNumber_117 ?_
            refine Wp.gi (kz := 15) rfl dX12_readNumber_118 fkX12_113 (by first | rfl | exact kd_b0 _ | exact kd_b1 _ | exact kd_b2 _ | exact kd_b3 _ | exact kd_b4 _ | exact kd_b5 _ | exact kd_b6 _) (by omega) ?_
            try simp (disch := omega) only [up_same, up_o, up_k]
            refine Wp.iconst dX12_readNumber_121 ?_
            refine Wp.iadd dX12_readNumber_122 ?_
            refine Wp.pi (kz := 15) rfl dX12_readNumber_123 fkX12_113 (Or.inl rfl) (Or.inl rfl) (by first | rfl | exact kd_b0 _ | exact kd_b1 _ | exact kd_b2 _ | exact kd_b3 _ | exact kd_b4 _ | exact kd_b5 _ | exact kd_b6 _) (by omega) ?_
            refine Wp.goto (tgt := 42) dX12_readNumber_126 (by decide) ?_
            first | (exfalso; omega) | exact ih (k + 1) (k + 1) _ (by omega) (by omega) ((e0.wr (by omega)).wr (by omega)) (by simp (disch := omega) only [up_same, up_o, up_k]; exact e1) (by simp (disch := omega) only [up_same, up_o, up_k]; omega) (by simp (disch := omega) only [up_same, up_o, up_k]; first | (rw [e3]; exact nN_t (by omega)) | (rw [nN_s (by omega), e3, h41, e2])) (by simp (disch := omega) only [up_same, up_o, up_k]; exact e4)
  refine Wp.aload_n rfl dX12_readNumber_0 ?_
  refine Wp.callV (As := []) (ls0 := [_]) (bd := (0, 0)) (bd' := (0, 0)) dX12_readNumber_1 kmX12_here lkX12_116 (by decide) (by decide) (Nat.le_of_ble_eq_true rfl) (by first | rfl | exact kd_b0 _ | exact kd_b1 _ | exact kd_b2 _ | exact kd_b3 _ | exact kd_b4 _ | exact kd_b5 _ | exact kd_b6 _) (by omega) rfl rfl (Nat.le_of_ble_eq_true rfl) rfl ?_
  refine ct_X12_here hn hFx hT h0 h1 (fun J hF hk h15 => ?_)
  rw [← hp] at h15 ⊢
  show Wp _ _ _ (_ :: _) _ _ _
  refine Wp.istore_n (ls' := [_, _, _]) dX12_readNumber_4 (by decide) rfl ?_
  refine Wp.iload_n rfl dX12_readNumber_5 ?_
  refine Wp.i2l (by first | omega | exact bI_R _ | exact cmp_R _ _ | assumption) dX12_readNumber_6 ?_
  refine Wp.ldc2_w (b := 48#64) ckX12_120 rfl dX12_readNumber_7 ?_
  refine Wp.ldc2_w (b := 57#64) ckX12_122 rfl dX12_readNumber_10 ?_
  refine Wp.callS (As := [_, _, _]) (ls0 := [_, _, _, _, _, _]) (bd := (0, 0)) (bd' := (0, 0)) dX12_readNumber_13 kmX12_in lkX12_100 (by decide) (by decide) (Nat.le_of_ble_eq_true rfl) rfl rfl (Nat.le_of_ble_eq_true rfl) rfl ?_
  refine ct_X12_in (a := 48) (b := 57) (ofI_toInt (by omega)) rfl rfl ?_
  show Wp _ _ _ (_ :: _) _ _ _
  refine Wp.if_neB (tgt := 29) dX12_readNumber_16 (by decide) (fun c16 => ?_) (fun c16 => ?_)
  · refine Wp.aload_n rfl dX12_readNumber_29 ?_
    refine Wp.aload_n rfl dX12_readNumber_30 ?_
    refine Wp.gi (kz := 15) rfl dX12_readNumber_31 fkX12_113 (by first | rfl | exact kd_b0 _ | exact kd_b1 _ | exact kd_b2 _ | exact kd_b3 _ | exact kd_b4 _ | exact kd_b5 _ | exact kd_b6 _) (by omega) ?_
    refine Wp.pi (kz := 17) rfl dX12_readNumber_34 fkX12_128 (Or.inl rfl) (Or.inl rfl) (by first | rfl | exact kd_b0 _ | exact kd_b1 _ | exact kd_b2 _ | exact kd_b3 _ | exact kd_b4 _ | exact kd_b5 _ | exact kd_b6 _) (by omega) ?_
    refine Wp.aload_n rfl dX12_readNumber_37 ?_
    refine Wp.iconst dX12_readNumber_38 ?_
    refine Wp.pi (kz := 16) rfl dX12_readNumber_39 fkX12_131 (Or.inl rfl) (Or.inl rfl) (by first | rfl | exact kd_b0 _ | exact kd_b1 _ | exact kd_b2 _ | exact kd_b3 _ | exact kd_b4 _ | exact kd_b5 _ | exact kd_b6 _) (by omega) ?_
    exact lp (hsg.mpr (by omega)) _ (dc (I 41) (I 32 13) p).toNat 0 0 _ (by omega) (by omega) ((hF.wr (by omega)).wr (by omega)) (by simp (disch := omega) only [up_same, up_o, up_k]; exact hk 14 (by omega)) (by simp (disch := omega) only [up_same, up_o, up_k]; omega) (by simp (disch := omega) only [up_same, up_o, up_k]; rfl) (by simp (disch := omega) only [up_same, up_o, up_k]; exact h15)
  · refine Wp.aload_n rfl dX12_readNumber_19 ?_
    refine Wp.iconst dX12_readNumber_20 ?_
    refine Wp.aload_n rfl dX12_readNumber_21 ?_
    refine Wp.gi (kz := 15) rfl dX12_readNumber_22 fkX12_113 (by first | rfl | exact kd_b0 _ | exact kd_b1 _ | exact kd_b2 _ | exact kd_b3 _ | exact kd_b4 _ | exact kd_b5 _ | exact kd_b6 _) (by omega) ?_
    refine Wp.callV (As := [_, _]) (ls0 := [_, _, _]) (bd := (0, 0)) (bd' := (0, 0)) dX12_readNumber_25 kmX12_fails lkX12_124 (by decide) (by decide) (Nat.le_of_ble_eq_true rfl) (by first | rfl | exact kd_b0 _ | exact kd_b1 _ | exact kd_b2 _ | exact kd_b3 _ | exact kd_b4 _ | exact kd_b5 _ | exact kd_b6 _) (by omega) rfl rfl (Nat.le_of_ble_eq_true rfl) rfl ?_
    refine ct_X12_fails hn ?_
    show Wp _ _ _ (_ :: _) _ _ _
    refine Wp.ireturn dX12_readNumber_28 rfl ?_
    first | (exfalso; omega) | (exact hf1 _ (hF.wr (by omega)) (fun q => absurd (hsg.mp q) (by omega)) (by rw [up_same]; exact h15))
end

