/-! ===== the class's reader: numbers, and the whole text ===== -/
section
variable {I J : Nat → Int → Int} {L K : Nat → Int → BitVec 64} {R : Nat → Int → Option Nat} {n kb : Nat} {Q : Option AV → Mm → Prop} {D : Dr} {nx hd pl N : Int} {T : Int → Int}
/-- the class's text -/
def TxC (I : Nat → Int → Int) (T : Int → Int) (N : Int) : Prop := I 1 1 = N ∧ (0 ≤ N ∧ N ≤ 240) ∧ ∀ p : Int, 0 ≤ p → p < N → I 2 p = T p ∧ 0 ≤ T p ∧ T p ≤ 255
theorem TxC.sg (h : TxC I T N) {p : Int} (h0 : 0 ≤ p) (h1 : p < N) : sgn I p = T p ∧ 0 ≤ T p ∧ T p ≤ 255 := by
  have h2 := h.2.2 p h0 h1
  unfold sgn; rw [if_pos ⟨h0, by rw [h.1]; exact h1⟩]; exact h2
theorem TxC.se (h : TxC I T N) {p : Int} (h1 : N ≤ p) : sgn I p = -1 := by
  unfold sgn; rw [if_neg (fun q => by rw [h.1] at q; omega)]
theorem TxC.B (h : TxC I T N) (p : Int) (h0 : 0 ≤ p) : -1 ≤ sgn I p ∧ sgn I p ≤ 255 := by
  rcases Int.lt_or_le p N with h1 | h1
  · have := h.sg h0 h1; omega
  · have := h.se h1; omega
theorem TxC.fr (h : TxC I T N) (hF : FrD kb I J) : TxC J T N := by
  refine ⟨by rw [hF 1 1 (by unfold dO; omega)]; exact h.1, h.2.1, fun p h0 h1 => ?_⟩
  rw [hF 2 p (by unfold dO; omega)]; exact h.2.2 p h0 h1
set_option maxHeartbeats 1000000 in
theorem ct_X5_readNumber {S : Int ⊕ St} (hn : 57 ≤ n) (hFx : Fx R) (hk : 57 + 7 * kb + 7 ≤ n) (hBk : Bk R kb) (hT : TxC I T N) (hR : RdI I L kb (nx, hd, pl, D)) (hpl : 0 ≤ pl ∧ pl < 240) (hdg : dgP T N pl) (hS : S = stp T N nx hd pl D) (hq : ∀ J K r, roP kb I J L K r S → Q (some (vi r)) (J, K, R, n)) : Wp mX5_readNumber 0 [some (vr (some 3)), some (vr (some 1)), some (vr (some (57 + 7 * kb))), none, none] [] (I, L, R, n) (0, 0) Q := by
  obtain ⟨hM, hA, hC, h30, h31, h32⟩ := hR
  dsimp only at hM hA hC h30 h31 h32
  have hnB := hM.1
  unfold stp at hS
  rw [if_pos hdg] at hS
  have hd1 := dg1 hdg
  have hN := hT.2.1
  have hdB : ∀ k : Nat, (k : Int) < dc T N pl → dgP T N (pl + k) := fun k hk => dc_dg k pl hk
  have hde : ¬ dgP T N (pl + dc T N pl) := dc_nd _ pl rfl
  have hvB : ∀ k : Nat, (k : Int) ≤ dc T N pl → 0 ≤ vN T pl k ∧ vN T pl k ≤ 99 := fun k hk => by
    have h2 : ∀ j : Nat, j < 2 → (j : Int) < dc T N pl → 48 ≤ T (pl + j) ∧ T (pl + j) ≤ 57 := fun j _ hj => (hdB j hj).2
    by_cases hk2 : k ≤ 2
    · exact (nN_v hk2 (fun j hj => h2 j (by omega) (by omega))).2
    · have key : ∀ j : Nat, 2 ≤ j → vN T pl j = vN T pl 2 := fun j => by
        induction j with
        | zero => intro h; omega
        | succ j ih =>
          intro h
          by_cases hj : j = 1
          · subst hj; rfl
          · rw [vN_e (by omega)]; exact ih (by omega)
      rw [key k (by omega)]
      exact (nN_v (Nat.le_refl 2) (fun j hj => h2 j hj (by omega))).2
  -- behind the figures
  have h96 : (nx = 0 ∨ nx = 2 ∨ nx = 3 ∨ nx = 5) → Wp mX5_readNumber 96 [some (vr (some 3)), some (vr (some 1)), some (vr (some (57 + 7 * kb))), some (vi (vN T pl (dc T N pl).toNat)), some (vi (dc T N pl))] [] (up I 3 1 (pl + dc T N pl), L, R, n) (0, 0) Q := by
    intro hnx
    rw [if_pos hnx] at hS
    have hv := hvB (dc T N pl).toNat (by omega)
    generalize vN T pl (dc T N pl).toNat = v at *
    have f1 : FrD kb I (up I 3 1 (pl + dc T N pl)) := FrD.rf.wr (by unfold dO; omega)
    have e33 : up I 3 1 (pl + dc T N pl) 3 3 = I 3 3 := up_k _ _ _ _ (by decide)
    have e30 : up I 3 1 (pl + dc T N pl) 3 0 = nx := by rw [up_k _ _ _ _ (by decide)]; exact h30
    have e31 : up I 3 1 (pl + dc T N pl) 3 1 = pl + dc T N pl := up_same _ _ _ _
    have e32 : up I 3 1 (pl + dc T N pl) 3 2 = hd := by rw [up_k _ _ _ _ (by decide)]; exact h32
    have hC1 : CB (up I 3 1 (pl + dc T N pl)) L kb D := CB_3 hC
    generalize up I 3 1 (pl + dc T N pl) = J1 at f1 e33 e30 e31 e32 hC1 ⊢
    have hq1 : ∀ J K r, roP kb J1 J L K r S → Q (some (vi r)) (J, K, R, n) := fun J K r h => hq J K r (ro_tr f1 e33 h)
    have hlim : nx = 3 ∧ (if nx = 3 then (6 : Int) else 60) = 6 ∨ nx ≠ 3 ∧ (if nx = 3 then (6 : Int) else 60) = 60 := by by_cases h3 : nx = 3; (rw [if_pos h3]; exact Or.inl ⟨h3, rfl⟩); (rw [if_neg h3]; exact Or.inr ⟨h3, rfl⟩)
    generalize (if nx = 3 then (6 : Int) else 60) = lim at hS hlim
    refine Wp.iload rfl dX5_readNumber_96 ?_
    refine Wp.iconst dX5_readNumber_98 ?_
    refine Wp.icmp_gt (tgt := 121) dX5_readNumber_99 (by decide) (by first | omega | exact bI_R _ | exact cmp_R _ _ | assumption) (by first | omega | exact bI_R _ | exact cmp_R _ _ | assumption) (fun c99 => ?_) (fun c99 => ?_)
    · refine Wp.iconst dX5_readNumber_121 ?_
      refine Wp.ireturn dX5_readNumber_122 rfl ?_
      first | (exfalso; omega) | (rw [if_pos (by omega)] at hS; exact hq1 J1 L 2 (ro_f FrD.rf FrDL.rf rfl hS (by omega) (by omega)))
    · refine Wp.iload_n rfl dX5_readNumber_102 ?_
      refine Wp.aload_n rfl dX5_readNumber_103 ?_
      refine Wp.gi (kz := 0) rfl dX5_readNumber_104 fkX5_11 (by first | rfl | exact kd_b0 _ | exact kd_b1 _ | exact kd_b2 _ | exact kd_b3 _ | exact kd_b4 _ | exact kd_b5 _ | exact kd_b6 _) (by omega) ?_
      refine Wp.iconst dX5_readNumber_107 ?_
      refine Wp.icmp_ne (tgt := 116) dX5_readNumber_108 (by decide) (by first | omega | exact bI_R _ | exact cmp_R _ _ | assumption) (by first | omega | exact bI_R _ | exact cmp_R _ _ | assumption) (fun c108 => ?_) (fun c108 => ?_)
      · refine Wp.bipush rfl dX5_readNumber_116 ?_
        refine Wp.icmp_lt (tgt := 123) dX5_readNumber_118 (by decide) (by first | omega | exact bI_R _ | exact cmp_R _ _ | assumption) (by first | omega | exact bI_R _ | exact cmp_R _ _ | assumption) (fun c118 => ?_) (fun c118 => ?_)
        · rw [if_neg (by omega)] at hS
          refine Wp.aload_n rfl dX5_readNumber_123 ?_
          refine Wp.gi (kz := 0) rfl dX5_readNumber_124 fkX5_11 (by first | rfl | exact kd_b0 _ | exact kd_b1 _ | exact kd_b2 _ | exact kd_b3 _ | exact kd_b4 _ | exact kd_b5 _ | exact kd_b6 _) (by omega) ?_
          refine Wp.if_ne (tgt := 137) dX5_readNumber_127 (by decide) (by first | omega | exact bI_R _ | exact cmp_R _ _ | assumption) (fun c127 => ?_) (fun c127 => ?_)
          · refine Wp.aload_n rfl dX5_readNumber_137 ?_
            refine Wp.gi (kz := 0) rfl dX5_readNumber_138 fkX5_11 (by first | rfl | exact kd_b0 _ | exact kd_b1 _ | exact kd_b2 _ | exact kd_b3 _ | exact kd_b4 _ | exact kd_b5 _ | exact kd_b6 _) (by omega) ?_
            refine Wp.iconst dX5_readNumber_141 ?_
            refine Wp.icmp_ne (tgt := 152) dX5_readNumber_142 (by decide) (by first | omega | exact bI_R _ | exact cmp_R _ _ | assumption) (by first | omega | exact bI_R _ | exact cmp_R _ _ | assumption) (fun c142 => ?_) (fun c142 => ?_)
            · refine Wp.aload_n rfl dX5_readNumber_152 ?_
              refine Wp.aload_n rfl dX5_readNumber_153 ?_
              refine Wp.iload_n rfl dX5_readNumber_154 ?_
              rw [if_neg (by omega), if_neg (by omega), ← e31] at hS
              refine Wp.callV (As := [_, _]) (ls0 := [_, _, _, _]) (bd := (0, 0)) (bd' := (0, 0)) dX5_readNumber_155 kmX5_takeWord lkX5_71 (by decide) (by decide) (Nat.le_of_ble_eq_true rfl) (by first | rfl | exact kd_b0 _ | exact kd_b1 _ | exact kd_b2 _ | exact kd_b3 _ | exact kd_b4 _ | exact kd_b5 _ | exact kd_b6 _) (by omega) rfl rfl (Nat.le_of_ble_eq_true rfl) rfl ?_
              refine ct_X5_takeWord hn hk hBk hM hC1 e32 (by omega) (by omega) (by omega) hS (fun J K r hro => ?_)
              show Wp _ _ _ (_ :: _) _ _ _
              refine Wp.ireturn dX5_readNumber_158 rfl ?_
              exact hq1 J K r hro
            · refine Wp.aload_n rfl dX5_readNumber_145 ?_
              refine Wp.aload_n rfl dX5_readNumber_146 ?_
              refine Wp.iload_n rfl dX5_readNumber_147 ?_
              have hnx3 : nx = 3 := by omega
              subst hnx3
              rw [if_neg (by decide), if_pos rfl, ← e31] at hS
              refine Wp.callV (As := [_, _]) (ls0 := [_, _, _]) (bd := (0, 0)) (bd' := (0, 0)) dX5_readNumber_148 kmX5_takeField lkX5_68 (by decide) (by decide) (Nat.le_of_ble_eq_true rfl) (by first | rfl | exact kd_b0 _ | exact kd_b1 _ | exact kd_b2 _ | exact kd_b3 _ | exact kd_b4 _ | exact kd_b5 _ | exact kd_b6 _) (by omega) rfl rfl (Nat.le_of_ble_eq_true rfl) rfl ?_
              refine ct_X5_takeField hn hk hBk hM hC1 e32 (by omega) (by omega) hS (fun J K r hro => ?_)
              show Wp _ _ _ (_ :: _) _ _ _
              refine Wp.ireturn dX5_readNumber_151 rfl ?_
              exact hq1 J K r hro
          · refine Wp.aload_n rfl dX5_readNumber_130 ?_
            refine Wp.aload_n rfl dX5_readNumber_131 ?_
            refine Wp.iload_n rfl dX5_readNumber_132 ?_
            have hnx0 : nx = 0 := by omega
            subst hnx0
            rw [if_pos rfl, ← e31] at hS
            refine Wp.callV (As := [_, _]) (ls0 := [_, _, _]) (bd := (0, 0)) (bd' := (0, 0)) dX5_readNumber_133 kmX5_takeHead lkX5_64 (by decide) (by decide) (Nat.le_of_ble_eq_true rfl) (by first | rfl | exact kd_b0 _ | exact kd_b1 _ | exact kd_b2 _ | exact kd_b3 _ | exact kd_b4 _ | exact kd_b5 _ | exact kd_b6 _) (by omega) rfl rfl (Nat.le_of_ble_eq_true rfl) rfl ?_
            refine ct_X5_takeHead hn hk hM hC1 (by omega) (by omega) hS (fun J K r hro => ?_)
            show Wp _ _ _ (_ :: _) _ _ _
            refine Wp.ireturn dX5_readNumber_136 rfl ?_
            exact hq1 J K r hro
        · refine Wp.iconst dX5_readNumber_121 ?_
          refine Wp.ireturn dX5_readNumber_122 rfl ?_
          first | (exfalso; omega) | (rw [if_pos (by omega)] at hS; exact hq1 J1 L 2 (ro_f FrD.rf FrDL.rf rfl hS (by omega) (by omega)))
      · refine Wp.bipush rfl dX5_readNumber_111 ?_
        refine Wp.goto (tgt := 118) dX5_readNumber_113 (by decide) ?_
        refine Wp.icmp_lt (tgt := 123) dX5_readNumber_118 (by decide) (by first | omega | exact bI_R _ | exact cmp_R _ _ | assumption) (by first | omega | exact bI_R _ | exact cmp_R _ _ | assumption) (fun c118 => ?_) (fun c118 => ?_)
        · rw [if_neg (by omega)] at hS
          refine Wp.aload_n rfl dX5_readNumber_123 ?_
          refine Wp.gi (kz := 0) rfl dX5_readNumber_124 fkX5_11 (by first | rfl | exact kd_b0 _ | exact kd_b1 _ | exact kd_b2 _ | exact kd_b3 _ | exact kd_b4 _ | exact kd_b5 _ | exact kd_b6 _) (by omega) ?_
          refine Wp.if_ne (tgt := 137) dX5_readNumber_127 (by decide) (by first | omega | exact bI_R _ | exact cmp_R _ _ | assumption) (fun c127 => ?_) (fun c127 => ?_)
          · refine Wp.aload_n rfl dX5_readNumber_137 ?_
            refine Wp.gi (kz := 0) rfl dX5_readNumber_138 fkX5_11 (by first | rfl | exact kd_b0 _ | exact kd_b1 _ | exact kd_b2 _ | exact kd_b3 _ | exact kd_b4 _ | exact kd_b5 _ | exact kd_b6 _) (by omega) ?_
            refine Wp.iconst dX5_readNumber_141 ?_
            refine Wp.icmp_ne (tgt := 152) dX5_readNumber_142 (by decide) (by first | omega | exact bI_R _ | exact cmp_R _ _ | assumption) (by first | omega | exact bI_R _ | exact cmp_R _ _ | assumption) (fun c142 => ?_) (fun c142 => ?_)
            · refine Wp.aload_n rfl dX5_readNumber_152 ?_
              refine Wp.aload_n rfl dX5_readNumber_153 ?_
              refine Wp.iload_n rfl dX5_readNumber_154 ?_
              rw [if_neg (by omega), if_neg (by omega), ← e31] at hS
              refine Wp.callV (As := [_, _]) (ls0 := [_, _, _, _]) (bd := (0, 0)) (bd' := (0, 0)) dX5_readNumber_155 kmX5_takeWord lkX5_71 (by decide) (by decide) (Nat.le_of_ble_eq_true rfl) (by first | rfl | exact kd_b0 _ | exact kd_b1 _ | exact kd_b2 _ | exact kd_b3 _ | exact kd_b4 _ | exact kd_b5 _ | exact kd_b6 _) (by omega) rfl rfl (Nat.le_of_ble_eq_true rfl) rfl ?_
              refine ct_X5_takeWord hn hk hBk hM hC1 e32 (by omega) (by omega) (by omega) hS (fun J K r hro => ?_)
              show Wp _ _ _ (_ :: _) _ _ _
              refine Wp.ireturn dX5_readNumber_158 rfl ?_
              exact hq1 J K r hro
            · refine Wp.aload_n rfl dX5_readNumber_145 ?_
              refine Wp.aload_n rfl dX5_readNumber_146 ?_
              refine Wp.iload_n rfl dX5_readNumber_147 ?_
              have hnx3 : nx = 3 := by omega
              subst hnx3
              rw [if_neg (by decide), if_pos rfl, ← e31] at hS
              refine Wp.callV (As := [_, _]) (ls0 := [_, _, _]) (bd := (0, 0)) (bd' := (0, 0)) dX5_readNumber_148 kmX5_takeField lkX5_68 (by decide) (by decide) (Nat.le_of_ble_eq_true rfl) (by first | rfl | exact kd_b0 _ | exact kd_b1 _ | exact kd_b2 _ | exact kd_b3 _ | exact kd_b4 _ | exact kd_b5 _ | exact kd_b6 _) (by omega) rfl rfl (Nat.le_of_ble_eq_true rfl) rfl ?_
              refine ct_X5_takeField hn hk hBk hM hC1 e32 (by omega) (by omega) hS (fun J K r hro => ?_)
              show Wp _ _ _ (_ :: _) _ _ _
              refine Wp.ireturn dX5_readNumber_151 rfl ?_
              exact hq1 J K r hro
          · refine Wp.aload_n rfl dX5_readNumber_130 ?_
            refine Wp.aload_n rfl dX5_readNumber_131 ?_
            refine Wp.iload_n rfl dX5_readNumber_132 ?_
            have hnx0 : nx = 0 := by omega
            subst hnx0
            rw [if_pos rfl, ← e31] at hS
            refine Wp.callV (As := [_, _]) (ls0 := [_, _, _]) (bd := (0, 0)) (bd' := (0, 0)) dX5_readNumber_133 kmX5_takeHead lkX5_64 (by decide) (by decide) (Nat.le_of_ble_eq_true rfl) (by first | rfl | exact kd_b0 _ | exact kd_b1 _ | exact kd_b2 _ | exact kd_b3 _ | exact kd_b4 _ | exact kd_b5 _ | exact kd_b6 _) (by omega) rfl rfl (Nat.le_of_ble_eq_true rfl) rfl ?_
            refine ct_X5_takeHead hn hk hM hC1 (by omega) (by omega) hS (fun J K r hro => ?_)
            show Wp _ _ _ (_ :: _) _ _ _
            refine Wp.ireturn dX5_readNumber_136 rfl ?_
            exact hq1 J K r hro
        · refine Wp.iconst dX5_readNumber_121 ?_
          refine Wp.ireturn dX5_readNumber_122 rfl ?_
          first | (exfalso; omega) | (rw [if_pos (by omega)] at hS; exact hq1 J1 L 2 (ro_f FrD.rf FrDL.rf rfl hS (by omega) (by omega)))
  have lp : ∀ (hnx : nx = 0 ∨ nx = 2 ∨ nx = 3 ∨ nx = 5) , ∀ (tt k : Nat) (z : Int) (v : Int), k + tt = (dc T N pl).toNat → z = k → v = vN T pl k → Wp mX5_readNumber 38 [some (vr (some 3)), some (vr (some 1)), some (vr (some (57 + 7 * kb))), some (vi v), some (vi z)] [] (up I 3 1 (pl + k), L, R, n) (0, 0) Q := by
    intro hnx
    intro tt
    induction tt with
    | zero =>
      intro k z v hkt hz e0
      obtain rfl : k = (dc T N pl).toNat := by omega
      have hkk : ((((dc T N pl).toNat : Nat) : Int)) = dc T N pl := by omega
      rw [hkk] at hz ⊢
      subst hz
      rw [e0]
      have hTJ : TxC (up I 3 1 (pl + dc T N pl)) T N := hT.fr (kb := kb) (FrD.rf.wr (by unfold dO; omega))
      have hsB := hTJ.B (pl + dc T N pl) (by omega)
      have hsg : ¬ (48 ≤ sgn (up I 3 1 (pl + dc T N pl)) (pl + dc T N pl) ∧ sgn (up I 3 1 (pl + dc T N pl)) (pl + dc T N pl) ≤ 57) := fun q => by
        rcases Int.lt_or_le (pl + dc T N pl) N with h1 | h1
        · have := hTJ.sg (p := pl + dc T N pl) (by omega) h1; rw [this.1] at q; exact hde ⟨h1, q.1, q.2⟩
        · have := hTJ.se (p := pl + dc T N pl) h1; omega
      have hN11 : up I 3 1 (pl + dc T N pl) 1 1 = N := hTJ.1
      refine Wp.iload rfl dX5_readNumber_38 ?_
      refine Wp.sipush rfl dX5_readNumber_40 ?_
      refine Wp.icmp_ge (tgt := 96) dX5_readNumber_43 (by decide) (by first | omega | exact bI_R _ | exact cmp_R _ _ | assumption) (by first | omega | exact bI_R _ | exact cmp_R _ _ | assumption) (fun c43 => ?_) (fun c43 => ?_)
      · exact h96 hnx
      · refine Wp.aload_n rfl dX5_readNumber_46 ?_
        refine Wp.aload_n rfl dX5_readNumber_47 ?_
        refine Wp.gi (kz := 1) rfl dX5_readNumber_48 fkX5_15 (by first | rfl | exact kd_b0 _ | exact kd_b1 _ | exact kd_b2 _ | exact kd_b3 _ | exact kd_b4 _ | exact kd_b5 _ | exact kd_b6 _) (by omega) ?_
        simp (disch := omega) only [up_same, up_o, up_k]
        refine Wp.callV (As := [_]) (ls0 := [_, _, _]) (bd := (0, 0)) (bd' := (0, 0)) dX5_readNumber_51 kmX9_figureAt lkX5_29 (by decide) (by decide) (Nat.le_of_ble_eq_true rfl) (by first | rfl | exact kd_b0 _ | exact kd_b1 _ | exact kd_b2 _ | exact kd_b3 _ | exact kd_b4 _ | exact kd_b5 _ | exact kd_b6 _) (by omega) rfl rfl (Nat.le_of_ble_eq_true rfl) rfl ?_
        refine ct_X9_figureAt hn hFx (by omega) (by omega) (by omega) (by omega) ?_
        show Wp _ _ _ (_ :: _) _ _ _
        refine Wp.if_eqB (tgt := 96) dX5_readNumber_54 (by decide) (fun c54 => ?_) (fun c54 => ?_)
        · exact h96 hnx
        · exact absurd c54 hsg
    | succ tt ih =>
      intro k z v hkt hz e0
      subst hz
      subst e0
      have hdk := hdB k (by omega)
      have hdk1 := hdk.1
      have hdk2 := hdk.2
      have hTJ : TxC (up I 3 1 (pl + k)) T N := hT.fr (kb := kb) (FrD.rf.wr (by unfold dO; omega))
      have hsg := hTJ.sg (p := pl + k) (by omega) hdk1
      have hN11 : up I 3 1 (pl + k) 1 1 = N := hTJ.1
      have hvk := hvB k (by omega)
      refine Wp.iload rfl dX5_readNumber_38 ?_
      refine Wp.sipush rfl dX5_readNumber_40 ?_
      refine Wp.icmp_ge (tgt := 96) dX5_readNumber_43 (by decide) (by first | omega | exact bI_R _ | exact cmp_R _ _ | assumption) (by first | omega | exact bI_R _ | exact cmp_R _ _ | assumption) (fun c43 => ?_) (fun c43 => ?_)
      · exfalso; omega
      · refine Wp.aload_n rfl dX5_readNumber_46 ?_
        refine Wp.aload_n rfl dX5_readNumber_47 ?_
        refine Wp.gi (kz := 1) rfl dX5_readNumber_48 fkX5_15 (by first | rfl | exact kd_b0 _ | exact kd_b1 _ | exact kd_b2 _ | exact kd_b3 _ | exact kd_b4 _ | exact kd_b5 _ | exact kd_b6 _) (by omega) ?_
        simp (disch := omega) only [up_same, up_o, up_k]
        refine Wp.callV (As := [_]) (ls0 := [_, _, _]) (bd := (0, 0)) (bd' := (0, 0)) dX5_readNumber_51 kmX9_figureAt lkX5_29 (by decide) (by decide) (Nat.le_of_ble_eq_true rfl) (by first | rfl | exact kd_b0 _ | exact kd_b1 _ | exact kd_b2 _ | exact kd_b3 _ | exact kd_b4 _ | exact kd_b5 _ | exact kd_b6 _) (by omega) rfl rfl (Nat.le_of_ble_eq_true rfl) rfl ?_
        refine ct_X9_figureAt hn hFx (by omega) (by omega) (by omega) (by omega) ?_
        show Wp _ _ _ (_ :: _) _ _ _
        refine Wp.if_eqB (tgt := 96) dX5_readNumber_54 (by decide) (fun c54 => ?_) (fun c54 => ?_)
        · exfalso; omega
        · refine Wp.iload rfl dX5_readNumber_57 ?_
          refine Wp.iconst dX5_readNumber_59 ?_
          refine Wp.icmp_ge (tgt := 80) dX5_readNumber_60 (by decide) (by first | omega | exact bI_R _ | exact cmp_R _ _ | assumption) (by first | omega | exact bI_R _ | exact cmp_R _ _ | assumption) (fun c60 => ?_) (fun c60 => ?_)
          · refine Wp.aload_n rfl dX5_readNumber_80 ?_
            first | refine Wp.dupR dX5_readNumber_81 ?_ | refine Wp.dupI dX5_readNumber_81 ?_
            refine Wp.gi (kz := 1) rfl dX5_readNumber_82 fkX5_15 (by first | rfl | exact kd_b0 _ | exact kd_b1 _ | exact kd_b2 _ | exact kd_b3 _ | exact kd_b4 _ | exact kd_b5 _ | exact kd_b6 _) (by omega) ?_
            refine Wp.iconst dX5_readNumber_85 ?_
            refine Wp.iadd dX5_readNumber_86 ?_
            refine Wp.pi (kz := 1) rfl dX5_readNumber_87 fkX5_15 (Or.inl rfl) (Or.inl rfl) (by first | rfl | exact kd_b0 _ | exact kd_b1 _ | exact kd_b2 _ | exact kd_b3 _ | exact kd_b4 _ | exact kd_b5 _ | exact kd_b6 _) (by omega) ?_
            refine Wp.iinc (ls' := [_, _, _, _, _]) rfl dX5_readNumber_90 (by decide) rfl ?_
            refine Wp.goto (tgt := 38) dX5_readNumber_93 (by decide) ?_
            simp (disch := omega) only [up_same, up_o, up_k]
            rw [up_up, show pl + (k : Int) + 1 = pl + ((k + 1 : Nat) : Int) by omega]
            first | exact ih (k + 1) _ _ (by omega) (by omega) (vN_s (by omega)).symm | exact ih (k + 1) _ _ (by omega) (by omega) (vN_e (by omega)).symm
          · refine Wp.iload_n rfl dX5_readNumber_63 ?_
            refine Wp.bipush rfl dX5_readNumber_64 ?_
            refine Wp.imul dX5_readNumber_66 ?_
            refine Wp.aload_n rfl dX5_readNumber_67 ?_
            refine Wp.aload_n rfl dX5_readNumber_68 ?_
            refine Wp.gi (kz := 1) rfl dX5_readNumber_69 fkX5_15 (by first | rfl | exact kd_b0 _ | exact kd_b1 _ | exact kd_b2 _ | exact kd_b3 _ | exact kd_b4 _ | exact kd_b5 _ | exact kd_b6 _) (by omega) ?_
            simp (disch := omega) only [up_same, up_o, up_k]
            refine Wp.callV (As := [_]) (ls0 := [_, _]) (bd := (0, 0)) (bd' := (0, 0)) dX5_readNumber_72 kmX9_signAt lkX5_37 (by decide) (by decide) (Nat.le_of_ble_eq_true rfl) (by first | rfl | exact kd_b0 _ | exact kd_b1 _ | exact kd_b2 _ | exact kd_b3 _ | exact kd_b4 _ | exact kd_b5 _ | exact kd_b6 _) (by omega) rfl rfl (Nat.le_of_ble_eq_true rfl) rfl ?_
            refine ct_X9_signAt hn hFx (by omega) (by omega) (by omega) ?_
            rw [hsg.1]
            show Wp _ _ _ (_ :: _) _ _ _
            refine Wp.iadd dX5_readNumber_75 ?_
            refine Wp.bipush rfl dX5_readNumber_76 ?_
            refine Wp.isub dX5_readNumber_78 ?_
            refine Wp.istore_n (ls' := [_, _, _, _, _]) dX5_readNumber_79 (by decide) rfl ?_
            refine Wp.aload_n rfl dX5_readNumber_80 ?_
            first | refine Wp.dupR dX5_readNumber_81 ?_ | refine Wp.dupI dX5_readNumber_81 ?_
            refine Wp.gi (kz := 1) rfl dX5_readNumber_82 fkX5_15 (by first | rfl | exact kd_b0 _ | exact kd_b1 _ | exact kd_b2 _ | exact kd_b3 _ | exact kd_b4 _ | exact kd_b5 _ | exact kd_b6 _) (by omega) ?_
            refine Wp.iconst dX5_readNumber_85 ?_
            refine Wp.iadd dX5_readNumber_86 ?_
            refine Wp.pi (kz := 1) rfl dX5_readNumber_87 fkX5_15 (Or.inl rfl) (Or.inl rfl) (by first | rfl | exact kd_b0 _ | exact kd_b1 _ | exact kd_b2 _ | exact kd_b3 _ | exact kd_b4 _ | exact kd_b5 _ | exact kd_b6 _) (by omega) ?_
            refine Wp.iinc (ls' := [_, _, _, _, _]) rfl dX5_readNumber_90 (by decide) rfl ?_
            refine Wp.goto (tgt := 38) dX5_readNumber_93 (by decide) ?_
            simp (disch := omega) only [up_same, up_o, up_k]
            rw [up_up, show pl + (k : Int) + 1 = pl + ((k + 1 : Nat) : Int) by omega]
            first | exact ih (k + 1) _ _ (by omega) (by omega) (vN_s (by omega)).symm | exact ih (k + 1) _ _ (by omega) (by omega) (vN_e (by omega)).symm
  have eI : up I 3 1 (pl + ((0 : Nat) : Int)) = I := by
    funext o z; unfold up
    split
    · rename_i h; rw [h.1, h.2, h31]; omega
    · rfl
  refine Wp.aload_n rfl dX5_readNumber_0 ?_
  refine Wp.gi (kz := 0) rfl dX5_readNumber_1 fkX5_11 (by first | rfl | exact kd_b0 _ | exact kd_b1 _ | exact kd_b2 _ | exact kd_b3 _ | exact kd_b4 _ | exact kd_b5 _ | exact kd_b6 _) (by omega) ?_
  refine Wp.if_eq (tgt := 33) dX5_readNumber_4 (by decide) (by first | omega | exact bI_R _ | exact cmp_R _ _ | assumption) (fun c4 => ?_) (fun c4 => ?_)
  · refine Wp.iconst dX5_readNumber_33 ?_
    refine Wp.istore_n (ls' := [_, _, _, _, _]) dX5_readNumber_34 (by decide) rfl ?_
    refine Wp.iconst dX5_readNumber_35 ?_
    refine Wp.istore (ls' := [_, _, _, _, _]) dX5_readNumber_36 (by decide) rfl ?_
    have hlp := lp (by omega) (dc T N pl).toNat 0 0 0 (by omega) rfl rfl
    rw [eI] at hlp
    exact hlp
  · refine Wp.aload_n rfl dX5_readNumber_7 ?_
    refine Wp.gi (kz := 0) rfl dX5_readNumber_8 fkX5_11 (by first | rfl | exact kd_b0 _ | exact kd_b1 _ | exact kd_b2 _ | exact kd_b3 _ | exact kd_b4 _ | exact kd_b5 _ | exact kd_b6 _) (by omega) ?_
    refine Wp.iconst dX5_readNumber_11 ?_
    refine Wp.icmp_eq (tgt := 33) dX5_readNumber_12 (by decide) (by first | omega | exact bI_R _ | exact cmp_R _ _ | assumption) (by first | omega | exact bI_R _ | exact cmp_R _ _ | assumption) (fun c12 => ?_) (fun c12 => ?_)
    · refine Wp.iconst dX5_readNumber_33 ?_
      refine Wp.istore_n (ls' := [_, _, _, _, _]) dX5_readNumber_34 (by decide) rfl ?_
      refine Wp.iconst dX5_readNumber_35 ?_
      refine Wp.istore (ls' := [_, _, _, _, _]) dX5_readNumber_36 (by decide) rfl ?_
      have hlp := lp (by omega) (dc T N pl).toNat 0 0 0 (by omega) rfl rfl
      rw [eI] at hlp
      exact hlp
    · refine Wp.aload_n rfl dX5_readNumber_15 ?_
      refine Wp.gi (kz := 0) rfl dX5_readNumber_16 fkX5_11 (by first | rfl | exact kd_b0 _ | exact kd_b1 _ | exact kd_b2 _ | exact kd_b3 _ | exact kd_b4 _ | exact kd_b5 _ | exact kd_b6 _) (by omega) ?_
      refine Wp.iconst dX5_readNumber_19 ?_
      refine Wp.icmp_eq (tgt := 33) dX5_readNumber_20 (by decide) (by first | omega | exact bI_R _ | exact cmp_R _ _ | assumption) (by first | omega | exact bI_R _ | exact cmp_R _ _ | assumption) (fun c20 => ?_) (fun c20 => ?_)
      · refine Wp.iconst dX5_readNumber_33 ?_
        refine Wp.istore_n (ls' := [_, _, _, _, _]) dX5_readNumber_34 (by decide) rfl ?_
        refine Wp.iconst dX5_readNumber_35 ?_
        refine Wp.istore (ls' := [_, _, _, _, _]) dX5_readNumber_36 (by decide) rfl ?_
        have hlp := lp (by omega) (dc T N pl).toNat 0 0 0 (by omega) rfl rfl
        rw [eI] at hlp
        exact hlp
      · refine Wp.aload_n rfl dX5_readNumber_23 ?_
        refine Wp.gi (kz := 0) rfl dX5_readNumber_24 fkX5_11 (by first | rfl | exact kd_b0 _ | exact kd_b1 _ | exact kd_b2 _ | exact kd_b3 _ | exact kd_b4 _ | exact kd_b5 _ | exact kd_b6 _) (by omega) ?_
        refine Wp.iconst dX5_readNumber_27 ?_
        refine Wp.icmp_eq (tgt := 33) dX5_readNumber_28 (by decide) (by first | omega | exact bI_R _ | exact cmp_R _ _ | assumption) (by first | omega | exact bI_R _ | exact cmp_R _ _ | assumption) (fun c28 => ?_) (fun c28 => ?_)
        · refine Wp.iconst dX5_readNumber_33 ?_
          refine Wp.istore_n (ls' := [_, _, _, _, _]) dX5_readNumber_34 (by decide) rfl ?_
          refine Wp.iconst dX5_readNumber_35 ?_
          refine Wp.istore (ls' := [_, _, _, _, _]) dX5_readNumber_36 (by decide) rfl ?_
          have hlp := lp (by omega) (dc T N pl).toNat 0 0 0 (by omega) rfl rfl
          rw [eI] at hlp
          exact hlp
        · refine Wp.iconst dX5_readNumber_31 ?_
          refine Wp.ireturn dX5_readNumber_32 rfl ?_
          first | (exfalso; omega) | (rw [if_neg (by omega)] at hS; exact hq I L 1 (ro_f FrD.rf FrDL.rf rfl hS (by omega) (by omega)))
/-- how the text was read -/
def rdO (kb : Nat) (I J : Nat → Int → Int) (L K : Nat → Int → BitVec 64) (O : Int × Int × Dr) (r : Int) : Prop := FrD kb I J ∧ FrDL kb L K ∧ r = O.1 ∧ (1 ≤ r ∧ r ≤ 5 ∧ J 3 3 = O.2.1 ∨ r = 0 ∧ CB J K kb O.2.2)
set_option maxHeartbeats 1000000 in
theorem ct_X5_read {O : Int × Int × Dr} (hn : 57 ≤ n) (hFx : Fx R) (hk : 57 + 7 * kb + 7 ≤ n) (hBk : Bk R kb) (hT : TxC I T N) (hM : MI 0 (-1) D) (hC : CB I L kb D) (hO : O = out T N 0 (-1) 0 D) (hq : ∀ J K r, rdO kb I J L K O r → Q (some (vi r)) (J, K, R, n)) : Wp mX5_read 0 [some (vr (some 3)), some (vr (some 1)), some (vr (some (57 + 7 * kb))), none, none] [] (I, L, R, n) (0, 0) Q := by
  have hN := hT.2.1
  have hend : ∀ (J : Nat → Int → Int) (K : Nat → Int → BitVec 64) (r : Int) (x4 : Option AV), FrD kb I J → FrDL kb L K → r = O.1 → 1 ≤ r → r ≤ 5 → J 3 3 = O.2.1 → Wp mX5_read 91 [some (vr (some 3)), some (vr (some 1)), some (vr (some (57 + 7 * kb))), some (vi r), x4] [] (J, K, R, n) (0, 0) Q := by
    intro J K r x4 hF hFL hr h1 h5 h3
    refine Wp.iload_n rfl dX5_read_91 ?_
    refine Wp.if_ne (tgt := 112) dX5_read_92 (by decide) (by first | omega | exact bI_R _ | exact cmp_R _ _ | assumption) (fun c92 => ?_) (fun c92 => ?_)
    · refine Wp.iload_n rfl dX5_read_112 ?_
      refine Wp.ireturn dX5_read_113 rfl ?_
      first | (exfalso; omega) | (exact hq J K r ⟨hF, hFL, hr, Or.inl ⟨h1, h5, h3⟩⟩)
    · exfalso; omega
  have hdone : ∀ (J : Nat → Int → Int) (K : Nat → Int → BitVec 64) (st : St) (x4 : Option AV), FrD kb I J → FrDL kb L K → RdI J K kb st → N ≤ st.2.2.1 → O = out T N st.1 st.2.1 st.2.2.1 st.2.2.2 → Wp mX5_read 91 [some (vr (some 3)), some (vr (some 1)), some (vr (some (57 + 7 * kb))), some (vi 0), x4] [] (J, K, R, n) (0, 0) Q := by
    intro J K st x4 hF hFL hR hp hOJ
    obtain ⟨nx, hd, pl, D⟩ := st
    obtain ⟨hM, hA, hC, h30, h31, h32⟩ := hR
    dsimp only at hM hA hC h30 h31 h32 hp hOJ
    rw [out_end hp] at hOJ
    have hTJ := hT.fr hF
    have hT1 := hTJ.1
    have hnB := hM.1
    refine Wp.iload_n rfl dX5_read_91 ?_
    refine Wp.if_ne (tgt := 112) dX5_read_92 (by decide) (by first | omega | exact bI_R _ | exact cmp_R _ _ | assumption) (fun c92 => ?_) (fun c92 => ?_)
    · refine Wp.iload_n rfl dX5_read_112 ?_
      refine Wp.ireturn dX5_read_113 rfl ?_
      first
      | (rw [if_neg (by omega)] at hOJ; exact hq _ K 1 ⟨hF.wr (by unfold dO; omega), hFL, by rw [hOJ], Or.inl ⟨by omega, by omega, by rw [up_same, hOJ]; exact hT1⟩⟩)
      | (rw [if_pos (by omega)] at hOJ; exact hq J K 0 ⟨hF, hFL, by rw [hOJ], Or.inr ⟨rfl, by rw [hOJ]; exact hC⟩⟩)
      | (exfalso; omega)
    · refine Wp.aload_n rfl dX5_read_95 ?_
      refine Wp.gi (kz := 0) rfl dX5_read_96 fkX5_11 (by first | rfl | exact kd_b0 _ | exact kd_b1 _ | exact kd_b2 _ | exact kd_b3 _ | exact kd_b4 _ | exact kd_b5 _ | exact kd_b6 _) (by omega) ?_
      refine Wp.if_eq (tgt := 112) dX5_read_99 (by decide) (by first | omega | exact bI_R _ | exact cmp_R _ _ | assumption) (fun c99 => ?_) (fun c99 => ?_)
      · refine Wp.iload_n rfl dX5_read_112 ?_
        refine Wp.ireturn dX5_read_113 rfl ?_
        first
        | (rw [if_neg (by omega)] at hOJ; exact hq _ K 1 ⟨hF.wr (by unfold dO; omega), hFL, by rw [hOJ], Or.inl ⟨by omega, by omega, by rw [up_same, hOJ]; exact hT1⟩⟩)
        | (rw [if_pos (by omega)] at hOJ; exact hq J K 0 ⟨hF, hFL, by rw [hOJ], Or.inr ⟨rfl, by rw [hOJ]; exact hC⟩⟩)
        | (exfalso; omega)
      · refine Wp.aload_n rfl dX5_read_102 ?_
        refine Wp.aload_n rfl dX5_read_103 ?_
        refine Wp.gi (kz := 1) rfl dX5_read_104 fkX5_24 (by first | rfl | exact kd_b0 _ | exact kd_b1 _ | exact kd_b2 _ | exact kd_b3 _ | exact kd_b4 _ | exact kd_b5 _ | exact kd_b6 _) (by omega) ?_
        refine Wp.pi (kz := 3) rfl dX5_read_107 fkX5_21 (Or.inl rfl) (Or.inl rfl) (by first | rfl | exact kd_b0 _ | exact kd_b1 _ | exact kd_b2 _ | exact kd_b3 _ | exact kd_b4 _ | exact kd_b5 _ | exact kd_b6 _) (by omega) ?_
        refine Wp.iconst dX5_read_110 ?_
        refine Wp.istore_n (ls' := [_, _, _, _, _]) dX5_read_111 (by decide) rfl ?_
        refine Wp.iload_n rfl dX5_read_112 ?_
        refine Wp.ireturn dX5_read_113 rfl ?_
        first
        | (rw [if_neg (by omega)] at hOJ; exact hq _ K 1 ⟨hF.wr (by unfold dO; omega), hFL, by rw [hOJ], Or.inl ⟨by omega, by omega, by rw [up_same, hOJ]; exact hT1⟩⟩)
        | (rw [if_pos (by omega)] at hOJ; exact hq J K 0 ⟨hF, hFL, by rw [hOJ], Or.inr ⟨rfl, by rw [hOJ]; exact hC⟩⟩)
        | (exfalso; omega)
  have lp : ∀ (tt k : Nat) (z : Int) (J : Nat → Int → Int) (K : Nat → Int → BitVec 64) (st : St), k + tt = 240 → z = k → FrD kb I J → FrDL kb L K → RdI J K kb st → ((k : Int) ≤ st.2.2.1 ∧ st.2.2.1 ≤ N) → (O = out T N st.1 st.2.1 st.2.2.1 st.2.2.2) → Wp mX5_read 20 [some (vr (some 3)), some (vr (some 1)), some (vr (some (57 + 7 * kb))), some (vi 0), some (vi z)] [] (J, K, R, n) (0, 0) Q := by
    intro tt
    induction tt with
    | zero =>
      intro k z J K st hkt hz e0 e1 e2 e3 e4
      obtain rfl : k = 240 := by omega
      refine Wp.iload rfl dX5_read_20 ?_
      refine Wp.sipush rfl dX5_read_22 ?_
      refine Wp.icmp_ge (tgt := 91) dX5_read_25 (by decide) (by first | omega | exact bI_R _ | exact cmp_R _ _ | assumption) (by first | omega | exact bI_R _ | exact cmp_R _ _ | assumption) (fun c25 => ?_) (fun c25 => ?_)
      · exact hdone J K st _ e0 e1 e2 (by omega) e4
      · refine Wp.iload_n rfl dX5_read_28 ?_
        refine Wp.if_ne (tgt := 91) dX5_read_29 (by decide) (by first | omega | exact bI_R _ | exact cmp_R _ _ | assumption) (fun c29 => ?_) (fun c29 => ?_)
        · exact hdone J K st _ e0 e1 e2 (by omega) e4
        · exfalso; omega
    | succ tt ih =>
      intro k z J K st hkt hz e0 e1 e2 e3 e4
      subst hz
      have hTJ := hT.fr e0
      have hT1 := hTJ.1
      have hst1 := e2.2.2.2.2.1
      have h24b : st.2.2.1 < N → ∀ (K2 : Nat → Int → BitVec 64) (J2 : Nat → Int → Int) (r : Int), roP kb (up J 3 3 st.2.2.1) J2 K K2 r (stp T N st.1 st.2.1 st.2.2.1 st.2.2.2) → Wp mX5_read 84 [some (vr (some 3)), some (vr (some 1)), some (vr (some (57 + 7 * kb))), some (vi 0), some (vi k)] [vi r] (J2, K2, R, n) (0, 0) Q := by
        intro hlt K2 J2 r hro
        have hF2 : FrD kb I J2 := (e0.wr (by unfold dO; omega)).tr hro.1
        have h33 : J2 3 3 = st.2.2.1 := by rw [hro.2.2.1, up_same]
        obtain ⟨nx, hd, pl, D⟩ := st
        dsimp only at hlt h33 e3 e4 hro
        rcases hro.2.2.2 with ⟨hs, h1, h5⟩ | ⟨hr0, st2, hs, hR2⟩
        · have ho := out_f hlt hs
          rw [← e4] at ho
          have hnx2 : ∀ x4, Wp mX5_read 91 [some (vr (some 3)), some (vr (some 1)), some (vr (some (57 + 7 * kb))), some (vi r), x4] [] (J2, K2, R, n) (0, 0) Q := fun x4 => hend J2 K2 r x4 hF2 (e1.tr hro.2.1) (by rw [ho]) h1 h5 (by rw [ho]; exact h33)
          refine Wp.istore_n (ls' := [_, _, _, _, _]) dX5_read_84 (by decide) rfl ?_
          refine Wp.iinc (ls' := [_, _, _, _, _]) rfl dX5_read_85 (by decide) rfl ?_
          refine Wp.goto (tgt := 20) dX5_read_88 (by decide) ?_
          refine Wp.iload rfl dX5_read_20 ?_
          refine Wp.sipush rfl dX5_read_22 ?_
          refine Wp.icmp_ge (tgt := 91) dX5_read_25 (by decide) (by first | omega | exact bI_R _ | exact cmp_R _ _ | assumption) (by first | omega | exact bI_R _ | exact cmp_R _ _ | assumption) (fun c25 => ?_) (fun c25 => ?_)
          · exact hnx2 _
          · refine Wp.iload_n rfl dX5_read_28 ?_
            refine Wp.if_ne (tgt := 91) dX5_read_29 (by decide) (by first | omega | exact bI_R _ | exact cmp_R _ _ | assumption) (fun c29 => ?_) (fun c29 => ?_)
            · exact hnx2 _
            · exfalso; omega
        · subst hr0
          obtain ⟨nx2, hd2, pl2, D2⟩ := st2
          have hp2 := stp_pl hlt hs
          dsimp only at hp2
          have ho := out_s hlt hs
          refine Wp.istore_n (ls' := [_, _, _, _, _]) dX5_read_84 (by decide) rfl ?_
          refine Wp.iinc (ls' := [_, _, _, _, _]) rfl dX5_read_85 (by decide) rfl ?_
          refine Wp.goto (tgt := 20) dX5_read_88 (by decide) ?_
          exact ih (k + 1) _ J2 K2 (nx2, hd2, pl2, D2) (by omega) (by omega) hF2 (e1.tr hro.2.1) hR2 ⟨by dsimp only; omega, hp2.2⟩ (e4.trans ho)
      have hR3 : RdI (up J 3 3 st.2.2.1) K kb (st.1, st.2.1, st.2.2.1, st.2.2.2) := ⟨e2.1, e2.2.1, CB_3 e2.2.2.1, by rw [up_k _ _ _ _ (by decide)]; exact e2.2.2.2.1, by rw [up_k _ _ _ _ (by decide)]; exact hst1, by rw [up_k _ _ _ _ (by decide)]; exact e2.2.2.2.2.2⟩
      have hT3 : TxC (up J 3 3 st.2.2.1) T N := hTJ.fr (kb := kb) (FrD.rf.wr (by unfold dO; omega))
      have h31 : up J 3 3 st.2.2.1 3 1 = st.2.2.1 := by rw [up_k _ _ _ _ (by decide)]; exact hst1
      have h11 : up J 3 3 st.2.2.1 1 1 = N := hT3.1
      refine Wp.iload rfl dX5_read_20 ?_
      refine Wp.sipush rfl dX5_read_22 ?_
      refine Wp.icmp_ge (tgt := 91) dX5_read_25 (by decide) (by first | omega | exact bI_R _ | exact cmp_R _ _ | assumption) (by first | omega | exact bI_R _ | exact cmp_R _ _ | assumption) (fun c25 => ?_) (fun c25 => ?_)
      · first | (exfalso; omega) | exact hdone J K st _ e0 e1 e2 (by omega) e4
      · refine Wp.iload_n rfl dX5_read_28 ?_
        refine Wp.if_ne (tgt := 91) dX5_read_29 (by decide) (by first | omega | exact bI_R _ | exact cmp_R _ _ | assumption) (fun c29 => ?_) (fun c29 => ?_)
        · first | (exfalso; omega) | exact hdone J K st _ e0 e1 e2 (by omega) e4
        · refine Wp.aload_n rfl dX5_read_32 ?_
          refine Wp.gi (kz := 1) rfl dX5_read_33 fkX5_15 (by first | rfl | exact kd_b0 _ | exact kd_b1 _ | exact kd_b2 _ | exact kd_b3 _ | exact kd_b4 _ | exact kd_b5 _ | exact kd_b6 _) (by omega) ?_
          refine Wp.aload_n rfl dX5_read_36 ?_
          refine Wp.gi (kz := 1) rfl dX5_read_37 fkX5_24 (by first | rfl | exact kd_b0 _ | exact kd_b1 _ | exact kd_b2 _ | exact kd_b3 _ | exact kd_b4 _ | exact kd_b5 _ | exact kd_b6 _) (by omega) ?_
          refine Wp.icmp_ge (tgt := 91) dX5_read_40 (by decide) (by first | omega | exact bI_R _ | exact cmp_R _ _ | assumption) (by first | omega | exact bI_R _ | exact cmp_R _ _ | assumption) (fun c40 => ?_) (fun c40 => ?_)
          · first | (exfalso; omega) | exact hdone J K st _ e0 e1 e2 (by omega) e4
          · refine Wp.aload_n rfl dX5_read_43 ?_
            refine Wp.aload_n rfl dX5_read_44 ?_
            refine Wp.gi (kz := 1) rfl dX5_read_45 fkX5_15 (by first | rfl | exact kd_b0 _ | exact kd_b1 _ | exact kd_b2 _ | exact kd_b3 _ | exact kd_b4 _ | exact kd_b5 _ | exact kd_b6 _) (by omega) ?_
            refine Wp.pi (kz := 3) rfl dX5_read_48 fkX5_21 (Or.inl rfl) (Or.inl rfl) (by first | rfl | exact kd_b0 _ | exact kd_b1 _ | exact kd_b2 _ | exact kd_b3 _ | exact kd_b4 _ | exact kd_b5 _ | exact kd_b6 _) (by omega) ?_
            rw [hst1]
            have hlt : st.2.2.1 < N := by omega
            have hsg := hT3.sg (p := st.2.2.1) (by omega) hlt
            have hcont := h24b hlt
            clear h24b ih hend hdone
            generalize up J 3 3 st.2.2.1 = J3 at *
            refine Wp.aload_n rfl dX5_read_51 ?_
            refine Wp.aload_n rfl dX5_read_52 ?_
            refine Wp.gi (kz := 1) rfl dX5_read_53 fkX5_15 (by first | rfl | exact kd_b0 _ | exact kd_b1 _ | exact kd_b2 _ | exact kd_b3 _ | exact kd_b4 _ | exact kd_b5 _ | exact kd_b6 _) (by omega) ?_
            try simp (disch := omega) only [up_same, up_o, up_k]
            rw [h31]
            refine Wp.callV (As := [_]) (ls0 := [_, _, _]) (bd := (0, 0)) (bd' := (0, 0)) dX5_read_56 kmX9_figureAt lkX5_29 (by decide) (by decide) (Nat.le_of_ble_eq_true rfl) (by first | rfl | exact kd_b0 _ | exact kd_b1 _ | exact kd_b2 _ | exact kd_b3 _ | exact kd_b4 _ | exact kd_b5 _ | exact kd_b6 _) (by omega) rfl rfl (Nat.le_of_ble_eq_true rfl) rfl ?_
            refine ct_X9_figureAt hn hFx (by omega) (by omega) (by omega) (by omega) ?_
            rw [hsg.1]
            show Wp _ _ _ (_ :: _) _ _ _
            refine Wp.if_eqB (tgt := 71) dX5_read_59 (by decide) (fun c59 => ?_) (fun c59 => ?_)
            · refine Wp.aload_n rfl dX5_read_71 ?_
              refine Wp.aload_n rfl dX5_read_72 ?_
              refine Wp.aload_n rfl dX5_read_73 ?_
              refine Wp.gi (kz := 1) rfl dX5_read_74 fkX5_15 (by first | rfl | exact kd_b0 _ | exact kd_b1 _ | exact kd_b2 _ | exact kd_b3 _ | exact kd_b4 _ | exact kd_b5 _ | exact kd_b6 _) (by omega) ?_
              try simp (disch := omega) only [up_same, up_o, up_k]
              rw [h31]
              refine Wp.callV (As := [_]) (ls0 := [_, _]) (bd := (0, 0)) (bd' := (0, 0)) dX5_read_77 kmX9_signAt lkX5_37 (by decide) (by decide) (Nat.le_of_ble_eq_true rfl) (by first | rfl | exact kd_b0 _ | exact kd_b1 _ | exact kd_b2 _ | exact kd_b3 _ | exact kd_b4 _ | exact kd_b5 _ | exact kd_b6 _) (by omega) rfl rfl (Nat.le_of_ble_eq_true rfl) rfl ?_
              refine ct_X9_signAt hn hFx (by omega) (by omega) (by omega) ?_
              rw [hsg.1]
              show Wp _ _ _ (_ :: _) _ _ _
              refine Wp.aload_n rfl dX5_read_80 ?_
              refine Wp.callV (As := [_, _]) (ls0 := [_, _, _, _]) (bd := (0, 0)) (bd' := (0, 0)) dX5_read_81 kmX5_readSign lkX5_41 (by decide) (by decide) (Nat.le_of_ble_eq_true rfl) (by first | rfl | exact kd_b0 _ | exact kd_b1 _ | exact kd_b2 _ | exact kd_b3 _ | exact kd_b4 _ | exact kd_b5 _ | exact kd_b6 _) (by omega) rfl rfl (Nat.le_of_ble_eq_true rfl) rfl ?_
              refine ct_X5_readSign (T := T) (N := N) hn hk hBk hR3 (by omega) rfl (by omega) (fun q => c59 q.2) rfl (fun J2 K2 r hro => ?_)
              show Wp _ _ _ (_ :: _) _ _ _
              exact hcont K2 J2 r hro
            · refine Wp.aload_n rfl dX5_read_62 ?_
              refine Wp.aload_n rfl dX5_read_63 ?_
              refine Wp.aload_n rfl dX5_read_64 ?_
              refine Wp.callV (As := [_, _]) (ls0 := [_, _, _, _, _]) (bd := (0, 0)) (bd' := (0, 0)) dX5_read_65 kmX5_readNumber lkX5_33 (by decide) (by decide) (Nat.le_of_ble_eq_true rfl) (by first | rfl | exact kd_b0 _ | exact kd_b1 _ | exact kd_b2 _ | exact kd_b3 _ | exact kd_b4 _ | exact kd_b5 _ | exact kd_b6 _) (by omega) rfl rfl (Nat.le_of_ble_eq_true rfl) rfl ?_
              refine ct_X5_readNumber hn hFx hk hBk hT3 hR3 (by omega) ⟨hlt, c59⟩ rfl (fun J2 K2 r hro => ?_)
              show Wp _ _ _ (_ :: _) _ _ _
              refine Wp.goto (tgt := 84) dX5_read_68 (by decide) ?_
              exact hcont K2 J2 r hro
  refine Wp.aload_n rfl dX5_read_0 ?_
  refine Wp.iconst dX5_read_1 ?_
  refine Wp.pi (kz := 0) rfl dX5_read_2 fkX5_11 (Or.inl rfl) (Or.inl rfl) (by first | rfl | exact kd_b0 _ | exact kd_b1 _ | exact kd_b2 _ | exact kd_b3 _ | exact kd_b4 _ | exact kd_b5 _ | exact kd_b6 _) (by omega) ?_
  refine Wp.aload_n rfl dX5_read_5 ?_
  refine Wp.iconst dX5_read_6 ?_
  refine Wp.pi (kz := 1) rfl dX5_read_7 fkX5_15 (Or.inl rfl) (Or.inl rfl) (by first | rfl | exact kd_b0 _ | exact kd_b1 _ | exact kd_b2 _ | exact kd_b3 _ | exact kd_b4 _ | exact kd_b5 _ | exact kd_b6 _) (by omega) ?_
  refine Wp.aload_n rfl dX5_read_10 ?_
  refine Wp.iconst dX5_read_11 ?_
  refine Wp.pi (kz := 2) rfl dX5_read_12 fkX5_18 (Or.inl rfl) (Or.inl rfl) (by first | rfl | exact kd_b0 _ | exact kd_b1 _ | exact kd_b2 _ | exact kd_b3 _ | exact kd_b4 _ | exact kd_b5 _ | exact kd_b6 _) (by omega) ?_
  refine Wp.iconst dX5_read_15 ?_
  refine Wp.istore_n (ls' := [_, _, _, _, _]) dX5_read_16 (by decide) rfl ?_
  refine Wp.iconst dX5_read_17 ?_
  refine Wp.istore (ls' := [_, _, _, _, _]) dX5_read_18 (by decide) rfl ?_
  refine lp 240 0 _ _ L (0, -1, 0, D) (by omega) (by omega) (((FrD.rf.wr (by unfold dO; omega)).wr (by unfold dO; omega)).wr (by unfold dO; omega)) FrDL.rf ⟨hM, fun q => absurd (show (0 : Int) = 6 from q) (by decide), CB_3 (CB_3 (CB_3 hC)), ?_, ?_, ?_⟩ ⟨Int.le_refl 0, hN.1⟩ hO
  · simp (disch := omega) only [up_same, up_o, up_k]
  · simp (disch := omega) only [up_same, up_o, up_k]
  · simp (disch := omega) only [up_same, up_o, up_k]
end

