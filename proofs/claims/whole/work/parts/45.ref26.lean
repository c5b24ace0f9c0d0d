/-! ===== the reference: promises 1, 3: clauses, books ===== -/
def R36 (J : Nat → Int → Int) (kb : Int) (D : Dr) : Prop := ∀ w : Int, 0 ≤ w → w < 60 → J 36 (60 * kb + w) = D 36 w
def tC (kb : Int) (o : Nat) (k : Int) : Prop := tW kb o k ∨ (o = 36 ∧ 60 * kb ≤ k ∧ k < 60 * kb + 60)
def FrC (kb : Int) (I J : Nat → Int → Int) : Prop := ∀ (o : Nat) (k : Int), ¬ tC kb o k → J o k = I o k
theorem FrC.rf (kb : Int) (I : Nat → Int → Int) : FrC kb I I := fun _ _ _ => rfl
theorem FrC.wr {kb : Int} {I J : Nat → Int → Int} (h : FrC kb I J) {o : Nat} {k v : Int} (hs : tC kb o k) : FrC kb I (up J o k v) := fun o' k' hs' => by
  unfold up
  rw [if_neg (fun q => hs' (by rw [q.1, q.2]; exact hs))]
  exact h o' k' hs'
theorem FrC.fn {kb : Int} {I J K : Nat → Int → Int} (h : FrC kb I J) (h2 : FrN J K) : FrC kb I K := fun o k hs => (h2 o k (fun q => hs (by unfold tC tW; omega))).trans (h o k hs)
theorem FrC.fw {kb : Int} {I J K : Nat → Int → Int} (h : FrC kb I J) (h2 : FrW kb J K) : FrC kb I K := fun o k hs => (h2 o k (fun q => hs (Or.inl q))).trans (h o k hs)
theorem FrC.tr {kb : Int} {I J K : Nat → Int → Int} (h : FrC kb I J) (h2 : FrC kb J K) : FrC kb I K := fun o k hs => (h2 o k hs).trans (h o k hs)
theorem FrC.t {kb : Int} {I J : Nat → Int → Int} (h : FrC kb I J) : J 41 = I 41 ∧ J 32 13 = I 32 13 := ⟨funext (fun k => h 41 k (by unfold tC tW; omega)), h 32 13 (by unfold tC tW; omega)⟩
/-- how reading a clause comes out -/
def rcO (T : Int → Int) (N kb hd p : Int) (D : Dr) (I J : Nat → Int → Int) (f : Int) : Prop := FrC kb I J ∧ ((1 ≤ f ∧ f ≤ 5 ∧ (out T N 0 hd p D).1 = f ∧ (out T N 0 hd p D).2.1 = J 32 14) ∨ (f = 0 ∧ ∃ (hd' : Int) (D' : Dr), J 32 14 = I 32 14 ∧ p < J 32 15 ∧ J 32 15 ≤ N ∧ RDr J kb D' ∧ R36 J kb D' ∧ MI 0 hd' D' ∧ out T N 0 hd p D = out T N 0 hd' (J 32 15) D'))
theorem R36_fn {J K : Nat → Int → Int} {kb : Int} {D : Dr} (h : R36 J kb D) (h2 : FrN J K) : R36 K kb D := fun w h0 h1 => by rw [h2 36 _ (by omega)]; exact h w h0 h1
theorem R36_fw {J K : Nat → Int → Int} {kb kb' : Int} {D : Dr} (h : R36 J kb D) (h2 : FrW kb' J K) : R36 K kb D := fun w h0 h1 => by rw [h2 36 _ (by unfold tW; omega)]; exact h w h0 h1
theorem R36_u {J : Nat → Int → Int} {kb k v : Int} {D : Dr} (h : R36 J kb D) : R36 (up J 32 k v) kb D := fun w h0 h1 => by rw [up_o _ _ _ _ (by decide)]; exact h w h0 h1
theorem RDr_36 {J : Nat → Int → Int} {kb k v : Int} {D : Dr} (h : RDr J kb D) : RDr (up J 36 k v) kb D :=
  ⟨fun i h0 h1 => by rw [up_o _ _ _ _ (by decide), up_o _ _ _ _ (by decide)]; exact h.1 i h0 h1, fun i h0 h1 => by rw [up_o _ _ _ _ (by decide), up_o _ _ _ _ (by decide)]; exact h.2 i h0 h1⟩
section
variable {I : Nat → Int → Int} {L : Nat → Int → BitVec 64} {R : Nat → Int → Option Nat} {n : Nat} {m : Mm} {Q : Option AV → Mm → Prop} {T : Int → Int} {N : Int}
set_option maxHeartbeats 4000000 in
theorem ct_X12_readClause {kb hd0 : Int} {D : Dr} (hn : 57 ≤ n) (hFx : Fx R) (hT : TxW I) (hJT : I 41 = T) (hJN : I 32 13 = N) (hkb : 0 ≤ kb ∧ kb < 8) (hM : MI 0 hd0 D) (hR : RDr I kb D) (hR36 : R36 I kb D) (h0 : 0 ≤ I 32 15) (h1 : I 32 15 < N) (hsp : ¬ (I 32 15 < N ∧ T (I 32 15) = 32)) (hq : ∀ J f, 0 ≤ f → f ≤ 5 → rcO T N kb hd0 (I 32 15) D I J f → Q (some (vi f)) (J, L, R, n)) : Wp mX12_readClause 0 [some (vr (some 32)), some (vi kb), none, none, none] [] (I, L, R, n) (0, 0) Q := by
  have hN : 0 ≤ N ∧ N ≤ 240 := by rw [← hJN]; exact ⟨hT.1, hT.2.1⟩
  obtain ⟨p, hp⟩ : ∃ p, p = I 32 15 := ⟨_, rfl⟩
  have hsk : sk T N (I 32 15) = p := by rw [sk_f hsp, hp]
  have hpN : p ≤ N := by omega
  have hfail : ∀ (K : Nat → Int → Int) (f : Int), FrC kb I K → 1 ≤ f → f ≤ 5 → (out T N 0 hd0 p D).1 = f → (out T N 0 hd0 p D).2.1 = K 32 14 → Q (some (vi f)) (K, L, R, n) := fun K f hF a b c d => hq K f (by omega) b ⟨hF, Or.inl ⟨a, b, by rw [← hp]; exact c, by rw [← hp]; exact d⟩⟩
  -- with a head
  have body : ∀ (hd : Int), 0 ≤ hd → hd < 60 → ∀ (tt : Nat) (J : Nat → Int → Int) (D1 : Dr) (x2 : Int), (N - J 32 15).toNat < tt → FrC kb I J → J 32 14 = I 32 14 → p < J 32 15 → J 32 15 ≤ N → RDr J kb D1 → R36 J kb D1 → MI 2 hd (addS D1 hd) → out T N 0 hd0 p D = out T N 2 hd (J 32 15) (addS D1 hd) → Wp mX12_readClause 60 [some (vr (some 32)), some (vi kb), some (vi x2), some (vi (60 * kb + hd)), some (vi 1)] [] (J, L, R, n) (0, 0) Q := by
    intro hd hh0 hh1 tt
    induction tt with
    | zero => intro J D1 x2 h; omega
    | succ tt ih =>
      intro J D1 x2 hm hF j14 j0 j1 hR1 hS1 hM1 hO
      have hcb := hM1.hd (by omega)
      have a36 : addS D1 hd 36 hd = D1 36 hd + 1 := addS_36h
      have b36 : J 36 (60 * kb + hd) = D1 36 hd := hS1 hd hh0 hh1
      have hend : ∀ (K : Nat → Int → Int) (nx' : Int) (D' : Dr), FrC kb I K → K 32 14 = I 32 14 → p < K 32 15 → K 32 15 ≤ N → RDr K kb D' → R36 K kb D' → (nx' = 6 ∨ nx' = 7) → MI nx' hd D' → out T N 0 hd0 p D = out T N nx' hd (K 32 15) D' → ¬ (K 32 15 < N ∧ T (K 32 15) = 32) → sgE T N (K 32 15) ≠ 44 → (nx' = 6 → sgE T N (K 32 15) ≠ 42) → sgE T N (K 32 15) ≠ 124 → Wp mX12_readClause 60 [some (vr (some 32)), some (vi kb), some (vi 0), some (vi (60 * kb + hd)), some (vi 0)] [] (K, L, R, n) (0, 0) Q := by
        intro K nx' D' hFK k14 k0 k1 hRK hSK hnx hMK hOK e1 e2 e3 e4
        have hsg := sg_B hT hJT hJN (p := K 32 15) (by omega)
        refine Wp.iload rfl dX12_readClause_60 ?_
        refine Wp.if_eq (tgt := 159) dX12_readClause_62 (by decide) (by first | omega | exact bI_R _ | exact cmp_R _ _ | assumption) (fun c62 => ?_) (fun c62 => ?_)
        · refine Wp.iload_n rfl dX12_readClause_159 ?_
          refine Wp.if_le (tgt := 167) dX12_readClause_160 (by decide) (by first | omega | exact bI_R _ | exact cmp_R _ _ | assumption) (fun c160 => ?_) (fun c160 => ?_)
          · refine Wp.aload_n rfl dX12_readClause_167 ?_
            refine Wp.bipush rfl dX12_readClause_168 ?_
            refine Wp.callV (As := [_]) (ls0 := [_, _]) (bd := (0, 0)) (bd' := (0, 0)) dX12_readClause_170 kmX12_readSign lkX12_138 (by decide) (by decide) (Nat.le_of_ble_eq_true rfl) (by first | rfl | exact kd_b0 _ | exact kd_b1 _ | exact kd_b2 _ | exact kd_b3 _ | exact kd_b4 _ | exact kd_b5 _ | exact kd_b6 _) (by omega) rfl rfl (Nat.le_of_ble_eq_true rfl) rfl ?_
            refine ct_rs (T := T) (N := N) hn hFx (TxW_cg hFK.t.1 hFK.t.2 hT) (by rw [hFK.t.1]; exact hJT) (by rw [hFK.t.2]; exact hJN) (by omega) (by omega) (by omega) (fun K8 f8 hf80 hf81 hF8 hrS => ?_)
            rw [sk_f e1] at hrS
            show Wp _ _ _ (_ :: _) _ _ _
            refine Wp.ireturn dX12_readClause_173 rfl ?_
            rcases hrS with ⟨b1, b2, b3⟩ | ⟨b1, b2, b3, b4⟩
            · exact hfail K8 f8 (hFK.fn hF8) (by omega) (by omega) (by rw [hOK, b1]; exact (out_m1 k1 e1 (by omega)).1) (by rw [hOK, b3]; exact (out_m1 k1 e1 (by omega)).2)
            · exact hq K8 f8 hf80 (by omega) ⟨hFK.fn hF8, Or.inr ⟨b1, hd, D', by omega, by omega, by omega, RDr_fn hRK hF8, R36_fn hSK hF8, MI_nx hMK (by omega), by rw [← hp, hOK, b4, out_sc (by omega) (by omega) hnx]⟩⟩
          · exfalso; first | omega | (simp at c160; done) | (simp_all; done)
        · exfalso; first | omega | (simp at c62; done) | (simp_all; done)
      have h86 : ∀ (K : Nat → Int → Int), rwO T N kb 2 hd (J 32 15) (addS D1 hd) J K 0 → Wp mX12_readClause 86 [some (vr (some 32)), some (vi kb), some (vi 0), some (vi (60 * kb + hd)), some (vi 1)] [] (K, L, R, n) (0, 0) Q := by
        intro K hrw
        obtain ⟨hFJ, hrw2⟩ := hrw
        obtain ⟨_, nx', D', a1, a2, a3, a4, a5, a6, a7, a8, a9, a10, a11, a12⟩ := hrw2.resolve_left (fun q => absurd q.1 (by omega))
        clear hrw2
        have hFK := hF.fw hFJ
        have k36 : K 36 (60 * kb + hd) = D1 36 hd := by rw [hFJ 36 _ (by unfold tW; omega)]; exact b36
        have d36 : D' 36 hd = D1 36 hd + 1 := by rw [a7]; exact a36
        have hF2 : FrC kb I (up K 36 (60 * kb + hd) (K 36 (60 * kb + hd) + 1)) := hFK.wr (by unfold tC; omega)
        have hS2 : R36 (up K 36 (60 * kb + hd) (K 36 (60 * kb + hd) + 1)) kb D' := by
          intro w hw0 hw1
          by_cases hw : w = hd
          · subst hw; rw [up_same, k36, d36]
          · rw [up_k _ _ _ _ (by omega), hFJ 36 _ (by unfold tW; omega), hS1 w hw0 hw1, a7, addS_36 hw]
        have hR2 := RDr_36 (k := 60 * kb + hd) (v := K 36 (60 * kb + hd) + 1) a4
        have e15 : up K 36 (60 * kb + hd) (K 36 (60 * kb + hd) + 1) 32 15 = K 32 15 := up_o _ _ _ _ (by decide)
        have e14 : up K 36 (60 * kb + hd) (K 36 (60 * kb + hd) + 1) 32 14 = I 32 14 := by rw [up_o _ _ _ _ (by decide), a1]; exact j14
        have e36 : up K 36 (60 * kb + hd) (K 36 (60 * kb + hd) + 1) 36 (60 * kb + hd) = D' 36 hd := hS2 hd hh0 hh1
        have hO2 := hO.trans a9
        have hsg := sg_B hT hJT hJN (p := K 32 15) (by omega)
        refine Wp.aload_n rfl dX12_readClause_86 ?_
        refine Wp.gr (kz := 4) rfl dX12_readClause_87 fkX12_19 (by first | rfl | exact kd_b0 _ | exact kd_b1 _ | exact kd_b2 _ | exact kd_b3 _ | exact kd_b4 _ | exact kd_b5 _ | exact kd_b6 _) (by omega) (by first | exact hFx _ 4 _ rfl | assumption | exact hBk.1 | exact hBk.2.1 | exact hBk.2.2.1 | exact hBk.2.2.2.1 | exact hBk.2.2.2.2.1 | exact hBk.2.2.2.2.2) ?_
        refine Wp.iload_n rfl dX12_readClause_90 ?_
        first | refine Wp.dup2IR dX12_readClause_91 ?_ | refine Wp.dup2II dX12_readClause_91 ?_
        refine Wp.iaload dX12_readClause_92 (by first | rfl | exact kd_b0 _ | exact kd_b1 _ | exact kd_b2 _ | exact kd_b3 _ | exact kd_b4 _ | exact kd_b5 _ | exact kd_b6 _) (by omega) (by omega) (by omega) ?_
        refine Wp.iconst dX12_readClause_93 ?_
        refine Wp.iadd dX12_readClause_94 ?_
        refine Wp.iastore dX12_readClause_95 (by first | rfl | exact kd_b0 _ | exact kd_b1 _ | exact kd_b2 _ | exact kd_b3 _ | exact kd_b4 _ | exact kd_b5 _ | exact kd_b6 _) (by omega) (by omega) (by omega) ?_
        generalize up K 36 (60 * kb + hd) (K 36 (60 * kb + hd) + 1) = K2 at hF2 hS2 hR2 e15 e14 e36 ⊢
        refine Wp.aload_n rfl dX12_readClause_96 ?_
        refine Wp.callV (As := []) (ls0 := [_]) (bd := (0, 0)) (bd' := (0, 0)) dX12_readClause_97 kmX12_here lkX12_116 (by decide) (by decide) (Nat.le_of_ble_eq_true rfl) (by first | rfl | exact kd_b0 _ | exact kd_b1 _ | exact kd_b2 _ | exact kd_b3 _ | exact kd_b4 _ | exact kd_b5 _ | exact kd_b6 _) (by omega) rfl rfl (Nat.le_of_ble_eq_true rfl) rfl ?_
        refine ct_he (T := T) (N := N) hn hFx (TxW_cg hF2.t.1 hF2.t.2 hT) (by rw [hF2.t.1]; exact hJT) (by rw [hF2.t.2]; exact hJN) (by omega) (by omega) (fun K3 hF3 g14 g16 g17 g15 => ?_)
        rw [e15, sk_f a10] at g15 ⊢
        have hF4 := hF2.fn hF3
        have hR3 := RDr_fn hR2 hF3
        have hS3 := R36_fn hS2 hF3
        have g36 : K3 36 (60 * kb + hd) = D' 36 hd := by rw [hF3 36 _ (by omega)]; exact e36
        show Wp _ _ _ (_ :: _) _ _ _
        refine Wp.bipush rfl dX12_readClause_100 ?_
        refine Wp.icmp_ne (tgt := 109) dX12_readClause_102 (by decide) (by first | omega | exact bI_R _ | exact cmp_R _ _ | assumption) (by first | omega | exact bI_R _ | exact cmp_R _ _ | assumption) (fun c102 => ?_) (fun c102 => ?_)
        · refine Wp.iconst dX12_readClause_109 ?_
          refine Wp.istore (ls' := [_, _, _, _, _]) dX12_readClause_110 (by decide) rfl ?_
          refine Wp.iload rfl dX12_readClause_112 ?_
          refine Wp.if_eq (tgt := 137) dX12_readClause_114 (by decide) (by first | omega | exact bI_R _ | exact cmp_R _ _ | assumption) (fun c114 => ?_) (fun c114 => ?_)
          · refine Wp.aload_n rfl dX12_readClause_137 ?_
            first | refine Wp.dupR dX12_readClause_138 ?_ | refine Wp.dupI dX12_readClause_138 ?_
            refine Wp.gi (kz := 15) rfl dX12_readClause_139 fkX12_113 (by first | rfl | exact kd_b0 _ | exact kd_b1 _ | exact kd_b2 _ | exact kd_b3 _ | exact kd_b4 _ | exact kd_b5 _ | exact kd_b6 _) (by omega) ?_
            try simp (disch := omega) only [up_same, up_o, up_k]
            refine Wp.iload rfl dX12_readClause_142 ?_
            refine Wp.if_eq (tgt := 151) dX12_readClause_144 (by decide) (by first | omega | exact bI_R _ | exact cmp_R _ _ | assumption) (fun c144 => ?_) (fun c144 => ?_)
            · refine Wp.iconst dX12_readClause_151 ?_
              refine Wp.iadd dX12_readClause_152 ?_
              refine Wp.pi (kz := 15) rfl dX12_readClause_153 fkX12_113 (Or.inl rfl) (Or.inl rfl) (by first | rfl | exact kd_b0 _ | exact kd_b1 _ | exact kd_b2 _ | exact kd_b3 _ | exact kd_b4 _ | exact kd_b5 _ | exact kd_b6 _) (by omega) ?_
              refine Wp.goto (tgt := 60) dX12_readClause_156 (by decide) ?_
              first | (exfalso; omega) | exact ih _ D' _ (by rw [up_same]; omega) (hF4.wr (by unfold tC tW; omega)) (by simp (disch := omega) only [up_same, up_o, up_k]; omega) (by rw [up_same]; omega) (by rw [up_same]; omega) (RDr_u hR3) (R36_u hS3) (MI_sense a6 (by omega) (by omega)) (by rw [up_same, g15, hO2, out_se (by omega) (by omega) (by omega)]) | exact hend _ nx' D' (hF4.wr (by unfold tC tW; omega)) (by simp (disch := omega) only [up_same, up_o, up_k]; omega) (by rw [up_same]; omega) (by rw [up_same]; omega) (RDr_u hR3) (R36_u hS3) a5 a6 (by rw [up_same, g15, Int.add_zero]; exact hO2) (by rw [up_same, g15, Int.add_zero]; exact a10) (by rw [up_same, g15, Int.add_zero]; exact a11) (by rw [up_same, g15, Int.add_zero]; exact a12) (by rw [up_same, g15, Int.add_zero]; omega)
            · refine Wp.iconst dX12_readClause_147 ?_
              refine Wp.goto (tgt := 152) dX12_readClause_148 (by decide) ?_
              refine Wp.iadd dX12_readClause_152 ?_
              refine Wp.pi (kz := 15) rfl dX12_readClause_153 fkX12_113 (Or.inl rfl) (Or.inl rfl) (by first | rfl | exact kd_b0 _ | exact kd_b1 _ | exact kd_b2 _ | exact kd_b3 _ | exact kd_b4 _ | exact kd_b5 _ | exact kd_b6 _) (by omega) ?_
              refine Wp.goto (tgt := 60) dX12_readClause_156 (by decide) ?_
              first | (exfalso; omega) | exact ih _ D' _ (by rw [up_same]; omega) (hF4.wr (by unfold tC tW; omega)) (by simp (disch := omega) only [up_same, up_o, up_k]; omega) (by rw [up_same]; omega) (by rw [up_same]; omega) (RDr_u hR3) (R36_u hS3) (MI_sense a6 (by omega) (by omega)) (by rw [up_same, g15, hO2, out_se (by omega) (by omega) (by omega)]) | exact hend _ nx' D' (hF4.wr (by unfold tC tW; omega)) (by simp (disch := omega) only [up_same, up_o, up_k]; omega) (by rw [up_same]; omega) (by rw [up_same]; omega) (RDr_u hR3) (R36_u hS3) a5 a6 (by rw [up_same, g15, Int.add_zero]; exact hO2) (by rw [up_same, g15, Int.add_zero]; exact a10) (by rw [up_same, g15, Int.add_zero]; exact a11) (by rw [up_same, g15, Int.add_zero]; exact a12) (by rw [up_same, g15, Int.add_zero]; omega)
          · refine Wp.aload_n rfl dX12_readClause_117 ?_
            refine Wp.gr (kz := 4) rfl dX12_readClause_118 fkX12_19 (by first | rfl | exact kd_b0 _ | exact kd_b1 _ | exact kd_b2 _ | exact kd_b3 _ | exact kd_b4 _ | exact kd_b5 _ | exact kd_b6 _) (by omega) (by first | exact hFx _ 4 _ rfl | assumption | exact hBk.1 | exact hBk.2.1 | exact hBk.2.2.1 | exact hBk.2.2.2.1 | exact hBk.2.2.2.2.1 | exact hBk.2.2.2.2.2) ?_
            try simp (disch := omega) only [up_same, up_o, up_k]
            refine Wp.iload_n rfl dX12_readClause_121 ?_
            refine Wp.iaload dX12_readClause_122 (by first | rfl | exact kd_b0 _ | exact kd_b1 _ | exact kd_b2 _ | exact kd_b3 _ | exact kd_b4 _ | exact kd_b5 _ | exact kd_b6 _) (by omega) (by omega) (by omega) ?_
            try simp (disch := omega) only [up_same, up_o, up_k]
            refine Wp.iconst dX12_readClause_123 ?_
            refine Wp.icmp_ne (tgt := 137) dX12_readClause_124 (by decide) (by first | omega | exact bI_R _ | exact cmp_R _ _ | assumption) (by first | omega | exact bI_R _ | exact cmp_R _ _ | assumption) (fun c124 => ?_) (fun c124 => ?_)
            · refine Wp.aload_n rfl dX12_readClause_137 ?_
              first | refine Wp.dupR dX12_readClause_138 ?_ | refine Wp.dupI dX12_readClause_138 ?_
              refine Wp.gi (kz := 15) rfl dX12_readClause_139 fkX12_113 (by first | rfl | exact kd_b0 _ | exact kd_b1 _ | exact kd_b2 _ | exact kd_b3 _ | exact kd_b4 _ | exact kd_b5 _ | exact kd_b6 _) (by omega) ?_
              try simp (disch := omega) only [up_same, up_o, up_k]
              refine Wp.iload rfl dX12_readClause_142 ?_
              refine Wp.if_eq (tgt := 151) dX12_readClause_144 (by decide) (by first | omega | exact bI_R _ | exact cmp_R _ _ | assumption) (fun c144 => ?_) (fun c144 => ?_)
              · refine Wp.iconst dX12_readClause_151 ?_
                refine Wp.iadd dX12_readClause_152 ?_
                refine Wp.pi (kz := 15) rfl dX12_readClause_153 fkX12_113 (Or.inl rfl) (Or.inl rfl) (by first | rfl | exact kd_b0 _ | exact kd_b1 _ | exact kd_b2 _ | exact kd_b3 _ | exact kd_b4 _ | exact kd_b5 _ | exact kd_b6 _) (by omega) ?_
                refine Wp.goto (tgt := 60) dX12_readClause_156 (by decide) ?_
                first | (exfalso; omega) | exact ih _ D' _ (by rw [up_same]; omega) (hF4.wr (by unfold tC tW; omega)) (by simp (disch := omega) only [up_same, up_o, up_k]; omega) (by rw [up_same]; omega) (by rw [up_same]; omega) (RDr_u hR3) (R36_u hS3) (MI_sense a6 (by omega) (by omega)) (by rw [up_same, g15, hO2, out_se (by omega) (by omega) (by omega)]) | exact hend _ nx' D' (hF4.wr (by unfold tC tW; omega)) (by simp (disch := omega) only [up_same, up_o, up_k]; omega) (by rw [up_same]; omega) (by rw [up_same]; omega) (RDr_u hR3) (R36_u hS3) a5 a6 (by rw [up_same, g15, Int.add_zero]; exact hO2) (by rw [up_same, g15, Int.add_zero]; exact a10) (by rw [up_same, g15, Int.add_zero]; exact a11) (by rw [up_same, g15, Int.add_zero]; exact a12) (by rw [up_same, g15, Int.add_zero]; omega)
              · refine Wp.iconst dX12_readClause_147 ?_
                refine Wp.goto (tgt := 152) dX12_readClause_148 (by decide) ?_
                refine Wp.iadd dX12_readClause_152 ?_
                refine Wp.pi (kz := 15) rfl dX12_readClause_153 fkX12_113 (Or.inl rfl) (Or.inl rfl) (by first | rfl | exact kd_b0 _ | exact kd_b1 _ | exact kd_b2 _ | exact kd_b3 _ | exact kd_b4 _ | exact kd_b5 _ | exact kd_b6 _) (by omega) ?_
                refine Wp.goto (tgt := 60) dX12_readClause_156 (by decide) ?_
                first | (exfalso; omega) | exact ih _ D' _ (by rw [up_same]; omega) (hF4.wr (by unfold tC tW; omega)) (by simp (disch := omega) only [up_same, up_o, up_k]; omega) (by rw [up_same]; omega) (by rw [up_same]; omega) (RDr_u hR3) (R36_u hS3) (MI_sense a6 (by omega) (by omega)) (by rw [up_same, g15, hO2, out_se (by omega) (by omega) (by omega)]) | exact hend _ nx' D' (hF4.wr (by unfold tC tW; omega)) (by simp (disch := omega) only [up_same, up_o, up_k]; omega) (by rw [up_same]; omega) (by rw [up_same]; omega) (RDr_u hR3) (R36_u hS3) a5 a6 (by rw [up_same, g15, Int.add_zero]; exact hO2) (by rw [up_same, g15, Int.add_zero]; exact a10) (by rw [up_same, g15, Int.add_zero]; exact a11) (by rw [up_same, g15, Int.add_zero]; exact a12) (by rw [up_same, g15, Int.add_zero]; omega)
            · refine Wp.aload_n rfl dX12_readClause_127 ?_
              refine Wp.iconst dX12_readClause_128 ?_
              refine Wp.aload_n rfl dX12_readClause_129 ?_
              refine Wp.gi (kz := 15) rfl dX12_readClause_130 fkX12_113 (by first | rfl | exact kd_b0 _ | exact kd_b1 _ | exact kd_b2 _ | exact kd_b3 _ | exact kd_b4 _ | exact kd_b5 _ | exact kd_b6 _) (by omega) ?_
              try simp (disch := omega) only [up_same, up_o, up_k]
              refine Wp.callV (As := [_, _]) (ls0 := [_, _, _]) (bd := (0, 0)) (bd' := (0, 0)) dX12_readClause_133 kmX12_fails lkX12_124 (by decide) (by decide) (Nat.le_of_ble_eq_true rfl) (by first | rfl | exact kd_b0 _ | exact kd_b1 _ | exact kd_b2 _ | exact kd_b3 _ | exact kd_b4 _ | exact kd_b5 _ | exact kd_b6 _) (by omega) rfl rfl (Nat.le_of_ble_eq_true rfl) rfl ?_
              refine ct_X12_fails hn ?_
              show Wp _ _ _ (_ :: _) _ _ _
              refine Wp.ireturn dX12_readClause_136 rfl ?_
              first | (exfalso; omega) | (exact hfail _ 5 (hF4.wr (by unfold tC tW; omega)) (by omega) (by omega) (by rw [hO2]; exact (out_se5 (by omega) (by omega) (by omega)).1) (by rw [up_same, hO2, g15]; exact (out_se5 (by omega) (by omega) (by omega)).2))
        · refine Wp.iconst dX12_readClause_105 ?_
          refine Wp.goto (tgt := 110) dX12_readClause_106 (by decide) ?_
          refine Wp.istore (ls' := [_, _, _, _, _]) dX12_readClause_110 (by decide) rfl ?_
          refine Wp.iload rfl dX12_readClause_112 ?_
          refine Wp.if_eq (tgt := 137) dX12_readClause_114 (by decide) (by first | omega | exact bI_R _ | exact cmp_R _ _ | assumption) (fun c114 => ?_) (fun c114 => ?_)
          · refine Wp.aload_n rfl dX12_readClause_137 ?_
            first | refine Wp.dupR dX12_readClause_138 ?_ | refine Wp.dupI dX12_readClause_138 ?_
            refine Wp.gi (kz := 15) rfl dX12_readClause_139 fkX12_113 (by first | rfl | exact kd_b0 _ | exact kd_b1 _ | exact kd_b2 _ | exact kd_b3 _ | exact kd_b4 _ | exact kd_b5 _ | exact kd_b6 _) (by omega) ?_
            try simp (disch := omega) only [up_same, up_o, up_k]
            refine Wp.iload rfl dX12_readClause_142 ?_
            refine Wp.if_eq (tgt := 151) dX12_readClause_144 (by decide) (by first | omega | exact bI_R _ | exact cmp_R _ _ | assumption) (fun c144 => ?_) (fun c144 => ?_)
            · refine Wp.iconst dX12_readClause_151 ?_
              refine Wp.iadd dX12_readClause_152 ?_
              refine Wp.pi (kz := 15) rfl dX12_readClause_153 fkX12_113 (Or.inl rfl) (Or.inl rfl) (by first | rfl | exact kd_b0 _ | exact kd_b1 _ | exact kd_b2 _ | exact kd_b3 _ | exact kd_b4 _ | exact kd_b5 _ | exact kd_b6 _) (by omega) ?_
              refine Wp.goto (tgt := 60) dX12_readClause_156 (by decide) ?_
              first | (exfalso; omega) | exact ih _ D' _ (by rw [up_same]; omega) (hF4.wr (by unfold tC tW; omega)) (by simp (disch := omega) only [up_same, up_o, up_k]; omega) (by rw [up_same]; omega) (by rw [up_same]; omega) (RDr_u hR3) (R36_u hS3) (MI_sense a6 (by omega) (by omega)) (by rw [up_same, g15, hO2, out_se (by omega) (by omega) (by omega)]) | exact hend _ nx' D' (hF4.wr (by unfold tC tW; omega)) (by simp (disch := omega) only [up_same, up_o, up_k]; omega) (by rw [up_same]; omega) (by rw [up_same]; omega) (RDr_u hR3) (R36_u hS3) a5 a6 (by rw [up_same, g15, Int.add_zero]; exact hO2) (by rw [up_same, g15, Int.add_zero]; exact a10) (by rw [up_same, g15, Int.add_zero]; exact a11) (by rw [up_same, g15, Int.add_zero]; exact a12) (by rw [up_same, g15, Int.add_zero]; omega)
            · refine Wp.iconst dX12_readClause_147 ?_
              refine Wp.goto (tgt := 152) dX12_readClause_148 (by decide) ?_
              refine Wp.iadd dX12_readClause_152 ?_
              refine Wp.pi (kz := 15) rfl dX12_readClause_153 fkX12_113 (Or.inl rfl) (Or.inl rfl) (by first | rfl | exact kd_b0 _ | exact kd_b1 _ | exact kd_b2 _ | exact kd_b3 _ | exact kd_b4 _ | exact kd_b5 _ | exact kd_b6 _) (by omega) ?_
              refine Wp.goto (tgt := 60) dX12_readClause_156 (by decide) ?_
              first | (exfalso; omega) | exact ih _ D' _ (by rw [up_same]; omega) (hF4.wr (by unfold tC tW; omega)) (by simp (disch := omega) only [up_same, up_o, up_k]; omega) (by rw [up_same]; omega) (by rw [up_same]; omega) (RDr_u hR3) (R36_u hS3) (MI_sense a6 (by omega) (by omega)) (by rw [up_same, g15, hO2, out_se (by omega) (by omega) (by omega)]) | exact hend _ nx' D' (hF4.wr (by unfold tC tW; omega)) (by simp (disch := omega) only [up_same, up_o, up_k]; omega) (by rw [up_same]; omega) (by rw [up_same]; omega) (RDr_u hR3) (R36_u hS3) a5 a6 (by rw [up_same, g15, Int.add_zero]; exact hO2) (by rw [up_same, g15, Int.add_zero]; exact a10) (by rw [up_same, g15, Int.add_zero]; exact a11) (by rw [up_same, g15, Int.add_zero]; exact a12) (by rw [up_same, g15, Int.add_zero]; omega)
          · refine Wp.aload_n rfl dX12_readClause_117 ?_
            refine Wp.gr (kz := 4) rfl dX12_readClause_118 fkX12_19 (by first | rfl | exact kd_b0 _ | exact kd_b1 _ | exact kd_b2 _ | exact kd_b3 _ | exact kd_b4 _ | exact kd_b5 _ | exact kd_b6 _) (by omega) (by first | exact hFx _ 4 _ rfl | assumption | exact hBk.1 | exact hBk.2.1 | exact hBk.2.2.1 | exact hBk.2.2.2.1 | exact hBk.2.2.2.2.1 | exact hBk.2.2.2.2.2) ?_
            try simp (disch := omega) only [up_same, up_o, up_k]
            refine Wp.iload_n rfl dX12_readClause_121 ?_
            refine Wp.iaload dX12_readClause_122 (by first | rfl | exact kd_b0 _ | exact kd_b1 _ | exact kd_b2 _ | exact kd_b3 _ | exact kd_b4 _ | exact kd_b5 _ | exact kd_b6 _) (by omega) (by omega) (by omega) ?_
            try simp (disch := omega) only [up_same, up_o, up_k]
            refine Wp.iconst dX12_readClause_123 ?_
            refine Wp.icmp_ne (tgt := 137) dX12_readClause_124 (by decide) (by first | omega | exact bI_R _ | exact cmp_R _ _ | assumption) (by first | omega | exact bI_R _ | exact cmp_R _ _ | assumption) (fun c124 => ?_) (fun c124 => ?_)
            · refine Wp.aload_n rfl dX12_readClause_137 ?_
              first | refine Wp.dupR dX12_readClause_138 ?_ | refine Wp.dupI dX12_readClause_138 ?_
              refine Wp.gi (kz := 15) rfl dX12_readClause_139 fkX12_113 (by first | rfl | exact kd_b0 _ | exact kd_b1 _ | exact kd_b2 _ | exact kd_b3 _ | exact kd_b4 _ | exact kd_b5 _ | exact kd_b6 _) (by omega) ?_
              try simp (disch := omega) only [up_same, up_o, up_k]
              refine Wp.iload rfl dX12_readClause_142 ?_
              refine Wp.if_eq (tgt := 151) dX12_readClause_144 (by decide) (by first | omega | exact bI_R _ | exact cmp_R _ _ | assumption) (fun c144 => ?_) (fun c144 => ?_)
              · refine Wp.iconst dX12_readClause_151 ?_
                refine Wp.iadd dX12_readClause_152 ?_
                refine Wp.pi (kz := 15) rfl dX12_readClause_153 fkX12_113 (Or.inl rfl) (Or.inl rfl) (by first | rfl | exact kd_b0 _ | exact kd_b1 _ | exact kd_b2 _ | exact kd_b3 _ | exact kd_b4 _ | exact kd_b5 _ | exact kd_b6 _) (by omega) ?_
                refine Wp.goto (tgt := 60) dX12_readClause_156 (by decide) ?_
                first | (exfalso; omega) | exact ih _ D' _ (by rw [up_same]; omega) (hF4.wr (by unfold tC tW; omega)) (by simp (disch := omega) only [up_same, up_o, up_k]; omega) (by rw [up_same]; omega) (by rw [up_same]; omega) (RDr_u hR3) (R36_u hS3) (MI_sense a6 (by omega) (by omega)) (by rw [up_same, g15, hO2, out_se (by omega) (by omega) (by omega)]) | exact hend _ nx' D' (hF4.wr (by unfold tC tW; omega)) (by simp (disch := omega) only [up_same, up_o, up_k]; omega) (by rw [up_same]; omega) (by rw [up_same]; omega) (RDr_u hR3) (R36_u hS3) a5 a6 (by rw [up_same, g15, Int.add_zero]; exact hO2) (by rw [up_same, g15, Int.add_zero]; exact a10) (by rw [up_same, g15, Int.add_zero]; exact a11) (by rw [up_same, g15, Int.add_zero]; exact a12) (by rw [up_same, g15, Int.add_zero]; omega)
              · refine Wp.iconst dX12_readClause_147 ?_
                refine Wp.goto (tgt := 152) dX12_readClause_148 (by decide) ?_
                refine Wp.iadd dX12_readClause_152 ?_
                refine Wp.pi (kz := 15) rfl dX12_readClause_153 fkX12_113 (Or.inl rfl) (Or.inl rfl) (by first | rfl | exact kd_b0 _ | exact kd_b1 _ | exact kd_b2 _ | exact kd_b3 _ | exact kd_b4 _ | exact kd_b5 _ | exact kd_b6 _) (by omega) ?_
                refine Wp.goto (tgt := 60) dX12_readClause_156 (by decide) ?_
                first | (exfalso; omega) | exact ih _ D' _ (by rw [up_same]; omega) (hF4.wr (by unfold tC tW; omega)) (by simp (disch := omega) only [up_same, up_o, up_k]; omega) (by rw [up_same]; omega) (by rw [up_same]; omega) (RDr_u hR3) (R36_u hS3) (MI_sense a6 (by omega) (by omega)) (by rw [up_same, g15, hO2, out_se (by omega) (by omega) (by omega)]) | exact hend _ nx' D' (hF4.wr (by unfold tC tW; omega)) (by simp (disch := omega) only [up_same, up_o, up_k]; omega) (by rw [up_same]; omega) (by rw [up_same]; omega) (RDr_u hR3) (R36_u hS3) a5 a6 (by rw [up_same, g15, Int.add_zero]; exact hO2) (by rw [up_same, g15, Int.add_zero]; exact a10) (by rw [up_same, g15, Int.add_zero]; exact a11) (by rw [up_same, g15, Int.add_zero]; exact a12) (by rw [up_same, g15, Int.add_zero]; omega)
            · refine Wp.aload_n rfl dX12_readClause_127 ?_
              refine Wp.iconst dX12_readClause_128 ?_
              refine Wp.aload_n rfl dX12_readClause_129 ?_
              refine Wp.gi (kz := 15) rfl dX12_readClause_130 fkX12_113 (by first | rfl | exact kd_b0 _ | exact kd_b1 _ | exact kd_b2 _ | exact kd_b3 _ | exact kd_b4 _ | exact kd_b5 _ | exact kd_b6 _) (by omega) ?_
              try simp (disch := omega) only [up_same, up_o, up_k]
              refine Wp.callV (As := [_, _]) (ls0 := [_, _, _]) (bd := (0, 0)) (bd' := (0, 0)) dX12_readClause_133 kmX12_fails lkX12_124 (by decide) (by decide) (Nat.le_of_ble_eq_true rfl) (by first | rfl | exact kd_b0 _ | exact kd_b1 _ | exact kd_b2 _ | exact kd_b3 _ | exact kd_b4 _ | exact kd_b5 _ | exact kd_b6 _) (by omega) rfl rfl (Nat.le_of_ble_eq_true rfl) rfl ?_
              refine ct_X12_fails hn ?_
              show Wp _ _ _ (_ :: _) _ _ _
              refine Wp.ireturn dX12_readClause_136 rfl ?_
              first | (exfalso; omega) | (exact hfail _ 5 (hF4.wr (by unfold tC tW; omega)) (by omega) (by omega) (by rw [hO2]; exact (out_se5 (by omega) (by omega) (by omega)).1) (by rw [up_same, hO2, g15]; exact (out_se5 (by omega) (by omega) (by omega)).2))
      refine Wp.iload rfl dX12_readClause_60 ?_
      refine Wp.if_eq (tgt := 159) dX12_readClause_62 (by decide) (by first | omega | exact bI_R _ | exact cmp_R _ _ | assumption) (fun c62 => ?_) (fun c62 => ?_)
      · exfalso; first | omega | (simp at c62; done) | (simp_all; done)
      · refine Wp.aload_n rfl dX12_readClause_65 ?_
        refine Wp.iconst dX12_readClause_66 ?_
        refine Wp.iload_n rfl dX12_readClause_67 ?_
        refine Wp.imul dX12_readClause_68 ?_
        refine Wp.aload_n rfl dX12_readClause_69 ?_
        refine Wp.gr (kz := 4) rfl dX12_readClause_70 fkX12_19 (by first | rfl | exact kd_b0 _ | exact kd_b1 _ | exact kd_b2 _ | exact kd_b3 _ | exact kd_b4 _ | exact kd_b5 _ | exact kd_b6 _) (by omega) (by first | exact hFx _ 4 _ rfl | assumption | exact hBk.1 | exact hBk.2.1 | exact hBk.2.2.1 | exact hBk.2.2.2.1 | exact hBk.2.2.2.2.1 | exact hBk.2.2.2.2.2) ?_
        refine Wp.iload_n rfl dX12_readClause_73 ?_
        refine Wp.iaload dX12_readClause_74 (by first | rfl | exact kd_b0 _ | exact kd_b1 _ | exact kd_b2 _ | exact kd_b3 _ | exact kd_b4 _ | exact kd_b5 _ | exact kd_b6 _) (by omega) (by omega) (by omega) ?_
        refine Wp.iadd dX12_readClause_75 ?_
        refine Wp.callV (As := [_]) (ls0 := [_, _, _]) (bd := (0, 0)) (bd' := (0, 0)) dX12_readClause_76 kmX12_readSense lkX12_144 (by decide) (by decide) (Nat.le_of_ble_eq_true rfl) (by first | rfl | exact kd_b0 _ | exact kd_b1 _ | exact kd_b2 _ | exact kd_b3 _ | exact kd_b4 _ | exact kd_b5 _ | exact kd_b6 _) (by omega) rfl rfl (Nat.le_of_ble_eq_true rfl) rfl ?_
        refine ct_X12_readSense (T := T) (N := N) (D := D1) hn hFx (TxW_cg hF.t.1 hF.t.2 hT) (by rw [hF.t.1]; exact hJT) (by rw [hF.t.2]; exact hJN) hkb hM1 hR1 (by omega) j1 (by omega) (fun K f hf0 hf1 hrw => ?_)
        show Wp _ _ _ (_ :: _) _ _ _
        refine Wp.istore_n (ls' := [_, _, _, _, _]) dX12_readClause_79 (by decide) rfl ?_
        refine Wp.iload_n rfl dX12_readClause_80 ?_
        refine Wp.if_le (tgt := 86) dX12_readClause_81 (by decide) (by first | omega | exact bI_R _ | exact cmp_R _ _ | assumption) (fun c81 => ?_) (fun c81 => ?_)
        · obtain rfl : f = 0 := by omega
          exact h86 K hrw
        · refine Wp.iload_n rfl dX12_readClause_84 ?_
          refine Wp.ireturn dX12_readClause_85 rfl ?_
          rcases hrw.2 with h2 | h2
          · exact hfail K f (hF.fw hrw.1) h2.1 h2.2.1 (by rw [hO]; exact h2.2.2.1) (by rw [hO]; exact h2.2.2.2)
          · exact absurd h2.1 (by omega)
  have h60f : ∀ (K : Nat → Int → Int) (f x3 : Int), (1 ≤ f ∧ f ≤ 5) → Q (some (vi f)) (K, L, R, n) → Wp mX12_readClause 60 [some (vr (some 32)), some (vi kb), some (vi f), some (vi x3), some (vi 0)] [] (K, L, R, n) (0, 0) Q := by
    intro K f x3 hf hQ
    refine Wp.iload rfl dX12_readClause_60 ?_
    refine Wp.if_eq (tgt := 159) dX12_readClause_62 (by decide) (by first | omega | exact bI_R _ | exact cmp_R _ _ | assumption) (fun c62 => ?_) (fun c62 => ?_)
    · refine Wp.iload_n rfl dX12_readClause_159 ?_
      refine Wp.if_le (tgt := 167) dX12_readClause_160 (by decide) (by first | omega | exact bI_R _ | exact cmp_R _ _ | assumption) (fun c160 => ?_) (fun c160 => ?_)
      · exfalso; first | omega | (simp at c160; done) | (simp_all; done)
      · refine Wp.iload_n rfl dX12_readClause_163 ?_
        refine Wp.goto (tgt := 173) dX12_readClause_164 (by decide) ?_
        refine Wp.ireturn dX12_readClause_173 rfl ?_
        first | (exfalso; omega) | (exact hQ)
    · exfalso; first | omega | (simp at c62; done) | (simp_all; done)
  refine Wp.aload_n rfl dX12_readClause_0 ?_
  refine Wp.bipush rfl dX12_readClause_1 ?_
  refine Wp.callV (As := [_]) (ls0 := [_, _, _]) (bd := (0, 0)) (bd' := (0, 0)) dX12_readClause_3 kmX12_readNumber lkX12_134 (by decide) (by decide) (Nat.le_of_ble_eq_true rfl) (by first | rfl | exact kd_b0 _ | exact kd_b1 _ | exact kd_b2 _ | exact kd_b3 _ | exact kd_b4 _ | exact kd_b5 _ | exact kd_b6 _) (by omega) rfl rfl (Nat.le_of_ble_eq_true rfl) rfl ?_
  refine ct_rn (T := T) (N := N) hn hFx hT hJT hJN (by omega) h0 (by omega) (fun K f hf0 hf1 hFK hrO => ?_)
  rw [hsk] at hrO
  have hF1 := (FrC.rf kb I).fn hFK
  show Wp _ _ _ (_ :: _) _ _ _
  refine Wp.istore_n (ls' := [_, _, _, _, _]) dX12_readClause_6 (by decide) rfl ?_
  refine Wp.iload_n rfl dX12_readClause_7 ?_
  refine Wp.if_le (tgt := 13) dX12_readClause_8 (by decide) (by first | omega | exact bI_R _ | exact cmp_R _ _ | assumption) (fun c8 => ?_) (fun c8 => ?_)
  · have hrO2 := (hrO.resolve_left (fun q => absurd q.1 (by omega))).resolve_left (fun q => absurd q.1 (by omega))
    clear hrO
    obtain ⟨a1, a2, a3, a4, a5, a6, a7⟩ := hrO2
    have hd1 := dg1 a2
    have hvB := vN_ok (by omega) a2
    have hMh := fun h => MI_head hM hvB.1 (show vN T p (dc T N p).toNat < 60 by omega) h
    have hO1 := fun h => out_h (hd := hd0) a2 a3 (D := D) h
    have hO3 := fun h => out_h3 (hd := hd0) a2 a3 (D := D) h
    have hDw := (hM.2.2.2.2.2 _ hvB.1 (show vN T p (dc T N p).toNat < 60 by omega)).1
    generalize vN T p (dc T N p).toNat = v at a3 a6 hvB hMh hO1 hO3 hDw ⊢
    refine Wp.bipush rfl dX12_readClause_13 ?_
    refine Wp.iload_n rfl dX12_readClause_15 ?_
    refine Wp.imul dX12_readClause_16 ?_
    refine Wp.aload_n rfl dX12_readClause_17 ?_
    refine Wp.gi (kz := 16) rfl dX12_readClause_18 fkX12_131 (by first | rfl | exact kd_b0 _ | exact kd_b1 _ | exact kd_b2 _ | exact kd_b3 _ | exact kd_b4 _ | exact kd_b5 _ | exact kd_b6 _) (by omega) ?_
    rw [a6]
    have k36 : K 36 (60 * kb + v) = D 36 v := by rw [hFK 36 _ (by omega)]; exact hR36 v hvB.1 (by omega)
    have hqB := sk_B (T := T) hd1.2
    obtain ⟨q, hqd⟩ : ∃ q, q = sk T N (p + dc T N p) := ⟨_, rfl⟩
    rw [← hqd] at hqB
    have hsq := sg_B hT hJT hJN (p := q) (by omega)
    refine Wp.iadd dX12_readClause_21 ?_
    refine Wp.istore_n (ls' := [_, _, _, _, _]) dX12_readClause_22 (by decide) rfl ?_
    refine Wp.aload_n rfl dX12_readClause_23 ?_
    refine Wp.gr (kz := 4) rfl dX12_readClause_24 fkX12_19 (by first | rfl | exact kd_b0 _ | exact kd_b1 _ | exact kd_b2 _ | exact kd_b3 _ | exact kd_b4 _ | exact kd_b5 _ | exact kd_b6 _) (by omega) (by first | exact hFx _ 4 _ rfl | assumption | exact hBk.1 | exact hBk.2.1 | exact hBk.2.2.1 | exact hBk.2.2.2.1 | exact hBk.2.2.2.2.1 | exact hBk.2.2.2.2.2) ?_
    refine Wp.iload_n rfl dX12_readClause_27 ?_
    refine Wp.iaload dX12_readClause_28 (by first | rfl | exact kd_b0 _ | exact kd_b1 _ | exact kd_b2 _ | exact kd_b3 _ | exact kd_b4 _ | exact kd_b5 _ | exact kd_b6 _) (by omega) (by omega) (by omega) ?_
    refine Wp.if_le (tgt := 42) dX12_readClause_29 (by decide) (by first | omega | exact bI_R _ | exact cmp_R _ _ | assumption) (fun c29 => ?_) (fun c29 => ?_)
    · have h41 : ¬ D 41 v = 1 := fun q => absurd (hDw.2.2 q (by omega)) (by omega)
      have hO4 : out T N 0 hd0 p D = out T N 1 v q (up D 41 v 1) := by rw [hO1 h41, out_sk _ _ rfl hd1.2, ← hqd]
      have hM4 := hMh h41
      clear hDw
      refine Wp.aload_n rfl dX12_readClause_42 ?_
      refine Wp.bipush rfl dX12_readClause_43 ?_
      refine Wp.callV (As := [_]) (ls0 := [_, _]) (bd := (0, 0)) (bd' := (0, 0)) dX12_readClause_45 kmX12_readSign lkX12_138 (by decide) (by decide) (Nat.le_of_ble_eq_true rfl) (by first | rfl | exact kd_b0 _ | exact kd_b1 _ | exact kd_b2 _ | exact kd_b3 _ | exact kd_b4 _ | exact kd_b5 _ | exact kd_b6 _) (by omega) rfl rfl (Nat.le_of_ble_eq_true rfl) rfl ?_
      refine ct_rs (T := T) (N := N) hn hFx (TxW_cg hF1.t.1 hF1.t.2 hT) (by rw [hF1.t.1]; exact hJT) (by rw [hF1.t.2]; exact hJN) (by omega) (by omega) (by omega) (fun K8 f8 hf80 hf81 hF8 hrS => ?_)
      rw [a5, ← hqd] at hrS
      show Wp _ _ _ (_ :: _) _ _ _
      refine Wp.istore_n (ls' := [_, _, _, _, _]) dX12_readClause_48 (by decide) rfl ?_
      refine Wp.iload_n rfl dX12_readClause_49 ?_
      refine Wp.if_ne (tgt := 57) dX12_readClause_50 (by decide) (by first | omega | exact bI_R _ | exact cmp_R _ _ | assumption) (fun c50 => ?_) (fun c50 => ?_)
      · refine Wp.iconst dX12_readClause_57 ?_
        refine Wp.istore (ls' := [_, _, _, _, _]) dX12_readClause_58 (by decide) rfl ?_
        rcases hrS with ⟨b1, b2, b3⟩ | ⟨b1, b2, b3, b4⟩
        · first | (exfalso; omega) | exact h60f K8 f8 _ (by omega) (hfail K8 f8 (hF1.fn hF8) (by omega) (by omega) (by rw [hO4, b1]; exact (out_m1 hqB.2.1 hqB.2.2 (by omega)).1) (by rw [hO4, b3]; exact (out_m1 hqB.2.1 hqB.2.2 (by omega)).2))
        · first | (exfalso; omega) | exact body v hvB.1 (by omega) _ K8 (up D 41 v 1) _ (Nat.lt_succ_self _) (hF1.fn hF8) (by omega) (by omega) (by omega) (RDr_d (RDr_fn (RDr_fn hR hFK) hF8) (fun o k ho1 ho2 => up_o _ _ _ _ (by omega))) (fun w hw0 hw1 => by rw [up_o _ _ _ _ (by decide)]; exact R36_fn (R36_fn hR36 hFK) hF8 w hw0 hw1) (MI_sense hM4 (by omega) (by rw [up_o _ _ _ _ (by decide)]; omega)) (by rw [b4, hO4, out_se (by omega) (by omega) (by rw [up_o _ _ _ _ (by decide)]; omega)])
      · refine Wp.iconst dX12_readClause_53 ?_
        refine Wp.goto (tgt := 58) dX12_readClause_54 (by decide) ?_
        refine Wp.istore (ls' := [_, _, _, _, _]) dX12_readClause_58 (by decide) rfl ?_
        rcases hrS with ⟨b1, b2, b3⟩ | ⟨b1, b2, b3, b4⟩
        · first | (exfalso; omega) | exact h60f K8 f8 _ (by omega) (hfail K8 f8 (hF1.fn hF8) (by omega) (by omega) (by rw [hO4, b1]; exact (out_m1 hqB.2.1 hqB.2.2 (by omega)).1) (by rw [hO4, b3]; exact (out_m1 hqB.2.1 hqB.2.2 (by omega)).2))
        · first | (exfalso; omega) | exact body v hvB.1 (by omega) _ K8 (up D 41 v 1) _ (Nat.lt_succ_self _) (hF1.fn hF8) (by omega) (by omega) (by omega) (RDr_d (RDr_fn (RDr_fn hR hFK) hF8) (fun o k ho1 ho2 => up_o _ _ _ _ (by omega))) (fun w hw0 hw1 => by rw [up_o _ _ _ _ (by decide)]; exact R36_fn (R36_fn hR36 hFK) hF8 w hw0 hw1) (MI_sense hM4 (by omega) (by rw [up_o _ _ _ _ (by decide)]; omega)) (by rw [b4, hO4, out_se (by omega) (by omega) (by rw [up_o _ _ _ _ (by decide)]; omega)])
    · refine Wp.aload_n rfl dX12_readClause_32 ?_
      refine Wp.iconst dX12_readClause_33 ?_
      refine Wp.aload_n rfl dX12_readClause_34 ?_
      refine Wp.gi (kz := 17) rfl dX12_readClause_35 fkX12_128 (by first | rfl | exact kd_b0 _ | exact kd_b1 _ | exact kd_b2 _ | exact kd_b3 _ | exact kd_b4 _ | exact kd_b5 _ | exact kd_b6 _) (by omega) ?_
      refine Wp.callV (As := [_, _]) (ls0 := [_, _, _]) (bd := (0, 0)) (bd' := (0, 0)) dX12_readClause_38 kmX12_fails lkX12_124 (by decide) (by decide) (Nat.le_of_ble_eq_true rfl) (by first | rfl | exact kd_b0 _ | exact kd_b1 _ | exact kd_b2 _ | exact kd_b3 _ | exact kd_b4 _ | exact kd_b5 _ | exact kd_b6 _) (by omega) rfl rfl (Nat.le_of_ble_eq_true rfl) rfl ?_
      refine ct_X12_fails hn ?_
      show Wp _ _ _ (_ :: _) _ _ _
      refine Wp.ireturn dX12_readClause_41 rfl ?_
      first | (exfalso; omega) | (exact hfail _ 3 (hF1.wr (by unfold tC tW; omega)) (by omega) (by omega) (hO3 (hDw.2.1 (by omega))).1 (by rw [up_same, a7]; exact (hO3 (hDw.2.1 (by omega))).2))
  · refine Wp.iload_n rfl dX12_readClause_11 ?_
    refine Wp.ireturn dX12_readClause_12 rfl ?_
    rcases hrO with ⟨a1, a2, a3⟩ | ⟨a1, a2, a3, a4⟩ | ⟨a1, a2, a3, a4, a5, a6, a7⟩
    · exact hfail K f hF1 (by omega) (by omega) (by rw [a1]; exact (out_n1 hpN a2 (by rw [hp]; exact hsp) (by omega)).1) (by rw [a3]; exact (out_n1 hpN a2 (by rw [hp]; exact hsp) (by omega)).2)
    · exact hfail K f hF1 (by omega) (by omega) (by rw [a1]; exact (out_n2 a2 (by omega) (by rw [if_neg (by omega)]; omega)).1) (by rw [a4]; exact (out_n2 a2 (by omega) (by rw [if_neg (by omega)]; omega)).2)
    · exfalso; omega
end

