/-! ===== the reference: promises 1, 3: words ===== -/
section
variable {I : Nat → Int → Int} {L : Nat → Int → BitVec 64} {R : Nat → Int → Option Nat} {n : Nat} {m : Mm} {Q : Option AV → Mm → Prop} {T : Int → Int} {N : Int}
theorem dg1 {T : Int → Int} {N p : Int} (h : dgP T N p) : 1 ≤ dc T N p ∧ p + dc T N p ≤ N := by
  have := dc_t h
  have := dc_B (T := T) (n := N) (p := p + 1) (by omega)
  omega
theorem vN_ok {T : Int → Int} {N p : Int} (h : ¬ 2 < dc T N p) (hd : dgP T N p) : 0 ≤ vN T p (dc T N p).toNat ∧ vN T p (dc T N p).toNat ≤ 99 := by
  have h1 := dg1 hd
  exact (nN_v (T := T) (p := p) (k := (dc T N p).toNat) (by omega) (fun j hj => ⟨(dc_dg (T := T) (n := N) j p (by omega)).2.1, (dc_dg (T := T) (n := N) j p (by omega)).2.2⟩)).2
theorem sg_B (hT : TxW I) (hJT : I 41 = T) (hJN : I 32 13 = N) {p : Int} (h0 : 0 ≤ p) : -1 ≤ sgE T N p ∧ sgE T N p ≤ 255 ∧ (sgE T N p = -1 → ¬ p < N) ∧ (0 ≤ sgE T N p → p < N ∧ T p = sgE T N p) := by
  subst hJT; subst hJN
  unfold sgE
  split
  · have := hT.2.2 p h0 (by assumption)
    omega
  · omega
set_option maxHeartbeats 4000000 in
theorem ct_X12_readWords {kb nx hd s' : Int} {D : Dr} (hn : 57 ≤ n) (hFx : Fx R) (hT : TxW I) (hJT : I 41 = T) (hJN : I 32 13 = N) (hkb : 0 ≤ kb ∧ kb < 8) (hM : MI nx hd D) (hnx : nx = 2 ∨ nx = 5) (hR : RDr I kb D) (h0 : 0 ≤ I 32 15) (h1 : I 32 15 ≤ N) (hs' : s' = 180 * kb + cur D hd) (h40 : nx = 2 → sgE T N (sk T N (I 32 15)) ≠ 40)
    (hf : ∀ J f, FrW kb I J → 1 ≤ f → f ≤ 5 → (out T N nx hd (I 32 15) D).1 = f → (out T N nx hd (I 32 15) D).2.1 = J 32 14 → Q (some (vi f)) (J, L, R, n))
    (hq : ∀ J nx' D', FrW kb I J → J 32 14 = I 32 14 → I 32 15 < J 32 15 → J 32 15 ≤ N → RDr J kb D' → (nx' = 6 ∨ nx' = 7) → MI nx' hd D' → D' 36 = D 36 → D' 41 = D 41 → out T N nx hd (I 32 15) D = out T N nx' hd (J 32 15) D' → ¬ (J 32 15 < N ∧ T (J 32 15) = 32) → sgE T N (J 32 15) ≠ 44 → (nx' = 6 → sgE T N (J 32 15) ≠ 42) → Q (some (vi 0)) (J, L, R, n)) :
    Wp mX12_readWords 0 [some (vr (some 32)), some (vi s'), none, none, none, none] [] (I, L, R, n) (0, 0) Q := by
  have hN : 0 ≤ N ∧ N ≤ 240 := by rw [← hJN]; exact ⟨hT.1, hT.2.1⟩
  have hcb := hM.hd (by omega)
  obtain ⟨cu, hcu⟩ : ∃ cu, cu = cur D hd := ⟨_, rfl⟩
  rw [← hcu] at hs'
  have hcu1 : 0 ≤ cu ∧ cu < 180 := by rw [hcu]; unfold cur; omega
  have lk : ∀ (J : Nat → Int → Int) (D : Dr) (v : Int) (hv : 0 ≤ v ∧ v ≤ 99) (f3 : Int) (hR : RDr J kb D) (h16 : J 32 16 = v) (hS : SI D cu) (hf4 : anyB (fun k => decide (D 39 (6 * cu + k) = v)) (D 38 cu).toNat = true → Q (some (vi 4)) (up J 32 14 (J 32 17), L, R, n)) (hc' : ¬ anyB (fun k => decide (D 39 (6 * cu + k) = v)) (D 38 cu).toNat = true → ∀ (x5 : Int), Wp mX12_readWords 72 [some (vr (some 32)), some (vi s'), some (vi 1), some (vi f3), some (vi (D 38 cu)), some (vi x5)] [] (J, L, R, n) (0, 0) Q) , ∀ (tt k : Nat) (z : Int) , k + tt = (D 38 cu).toNat → z = k → (¬ anyB (fun k => decide (D 39 (6 * cu + k) = v)) k = true) → Wp mX12_readWords 30 [some (vr (some 32)), some (vi s'), some (vi 1), some (vi f3), some (vi (D 38 cu)), some (vi z)] [] (J, L, R, n) (0, 0) Q := by
    intro J D v hv f3 hR h16 hS hf4 hc'
    intro tt
    induction tt with
    | zero =>
      intro k z  hkt hz e0
      obtain rfl : k = (D 38 cu).toNat := by omega
      have hS1 := hS.1
      refine Wp.iload rfl dX12_readWords_30 ?_
      refine Wp.iload rfl dX12_readWords_32 ?_
      refine Wp.icmp_ge (tgt := 72) dX12_readWords_34 (by decide) (by first | omega | exact bI_R _ | exact cmp_R _ _ | assumption) (by first | omega | exact bI_R _ | exact cmp_R _ _ | assumption) (fun c34 => ?_) (fun c34 => ?_)
      · exact hc' e0 _
      · exfalso; omega
    | succ tt ih =>
      intro k z  hkt hz e0
      subst hz
      have hS1 := hS.1
      have hS2 := (hS.2 k (by omega) (by omega)).1
      have h39 : J 39 (6 * s' + k) = D 39 (6 * cu + k) := by rw [show 6 * s' + (k : Int) = 1080 * kb + (6 * cu + k) by omega]; exact (hR.2 _ (by omega) (by omega)).1
      refine Wp.iload rfl dX12_readWords_30 ?_
      refine Wp.iload rfl dX12_readWords_32 ?_
      refine Wp.icmp_ge (tgt := 72) dX12_readWords_34 (by decide) (by first | omega | exact bI_R _ | exact cmp_R _ _ | assumption) (by first | omega | exact bI_R _ | exact cmp_R _ _ | assumption) (fun c34 => ?_) (fun c34 => ?_)
      · exfalso; omega
      · refine Wp.aload_n rfl dX12_readWords_37 ?_
        refine Wp.gr (kz := 7) rfl dX12_readWords_38 fkX12_28 (by first | rfl | exact kd_b0 _ | exact kd_b1 _ | exact kd_b2 _ | exact kd_b3 _ | exact kd_b4 _ | exact kd_b5 _ | exact kd_b6 _) (by omega) (by first | exact hFx _ 7 _ rfl | assumption | exact hBk.1 | exact hBk.2.1 | exact hBk.2.2.1 | exact hBk.2.2.2.1 | exact hBk.2.2.2.2.1 | exact hBk.2.2.2.2.2) ?_
        refine Wp.bipush rfl dX12_readWords_41 ?_
        refine Wp.iload_n rfl dX12_readWords_43 ?_
        refine Wp.imul dX12_readWords_44 ?_
        refine Wp.iload rfl dX12_readWords_45 ?_
        refine Wp.iadd dX12_readWords_47 ?_
        refine Wp.iaload dX12_readWords_48 (by first | rfl | exact kd_b0 _ | exact kd_b1 _ | exact kd_b2 _ | exact kd_b3 _ | exact kd_b4 _ | exact kd_b5 _ | exact kd_b6 _) (by omega) (by omega) (by omega) ?_
        refine Wp.aload_n rfl dX12_readWords_49 ?_
        refine Wp.gi (kz := 16) rfl dX12_readWords_50 fkX12_131 (by first | rfl | exact kd_b0 _ | exact kd_b1 _ | exact kd_b2 _ | exact kd_b3 _ | exact kd_b4 _ | exact kd_b5 _ | exact kd_b6 _) (by omega) ?_
        refine Wp.icmp_ne (tgt := 66) dX12_readWords_53 (by decide) (by first | omega | exact bI_R _ | exact cmp_R _ _ | assumption) (by first | omega | exact bI_R _ | exact cmp_R _ _ | assumption) (fun c53 => ?_) (fun c53 => ?_)
        · refine Wp.iinc (ls' := [_, _, _, _, _, _]) rfl dX12_readWords_66 (by decide) rfl ?_
          refine Wp.goto (tgt := 30) dX12_readWords_69 (by decide) ?_
          exact ih (k + 1) _ (by omega) (by omega) (fun q => (by simp only [anyB, Bool.or_eq_true] at q; rcases q with q | q; exact e0 q; exact absurd (of_decide_eq_true q) (by omega)))
        · refine Wp.aload_n rfl dX12_readWords_56 ?_
          refine Wp.iconst dX12_readWords_57 ?_
          refine Wp.aload_n rfl dX12_readWords_58 ?_
          refine Wp.gi (kz := 17) rfl dX12_readWords_59 fkX12_128 (by first | rfl | exact kd_b0 _ | exact kd_b1 _ | exact kd_b2 _ | exact kd_b3 _ | exact kd_b4 _ | exact kd_b5 _ | exact kd_b6 _) (by omega) ?_
          refine Wp.callV (As := [_, _]) (ls0 := [_, _, _]) (bd := (0, 0)) (bd' := (0, 0)) dX12_readWords_62 kmX12_fails lkX12_124 (by decide) (by decide) (Nat.le_of_ble_eq_true rfl) (by first | rfl | exact kd_b0 _ | exact kd_b1 _ | exact kd_b2 _ | exact kd_b3 _ | exact kd_b4 _ | exact kd_b5 _ | exact kd_b6 _) (by omega) rfl rfl (Nat.le_of_ble_eq_true rfl) rfl ?_
          refine ct_X12_fails hn ?_
          show Wp _ _ _ (_ :: _) _ _ _
          refine Wp.ireturn dX12_readWords_65 rfl ?_
          first | (exfalso; omega) | (exact hf4 ((anyB_iff _ _).mpr ⟨k, by omega, decide_eq_true (by omega)⟩))
  have hend : ∀ (J : Nat → Int → Int) (x3 x4 x5 : Int), Q (some (vi 0)) (J, L, R, n) → Wp mX12_readWords 2 [some (vr (some 32)), some (vi s'), some (vi 0), some (vi x3), some (vi x4), some (vi x5)] [] (J, L, R, n) (0, 0) Q := by
    intro J x3 x4 x5 hQ
    refine Wp.iload_n rfl dX12_readWords_2 ?_
    refine Wp.if_eq (tgt := 206) dX12_readWords_3 (by decide) (by first | omega | exact bI_R _ | exact cmp_R _ _ | assumption) (fun c3 => ?_) (fun c3 => ?_)
    · refine Wp.iconst dX12_readWords_206 ?_
      refine Wp.ireturn dX12_readWords_207 rfl ?_
      first | (exfalso; omega) | (exact hQ)
    · exfalso; first | omega | (simp at c3; done) | (simp_all; done)
  have main : ∀ (tt : Nat) (J : Nat → Int → Int) (nx1 : Int) (D1 : Dr) (x3 x4 x5 : Option AV), (N - J 32 15).toNat < tt → FrW kb I J → J 32 14 = I 32 14 → I 32 15 ≤ J 32 15 → J 32 15 ≤ N → RDr J kb D1 → (nx1 = 2 ∨ nx1 = 5) → MI nx1 hd D1 → D1 36 = D 36 → D1 41 = D 41 → out T N nx hd (I 32 15) D = out T N nx1 hd (J 32 15) D1 → (nx1 = 2 → sgE T N (sk T N (J 32 15)) ≠ 40) → Wp mX12_readWords 2 [some (vr (some 32)), some (vi s'), some (vi 1), x3, x4, x5] [] (J, L, R, n) (0, 0) Q := by
    intro tt
    induction tt with
    | zero => intro J nx1 D1 x3 x4 x5 h; omega
    | succ tt ih =>
      intro J nx1 D1 x3 x4 x5 hm hF h14 g0 g1 hR1 hnx1 hM1 e36 e41 hO hno
      have hJT1 : J 41 = T := by rw [hF.t.1]; exact hJT
      have hJN1 : J 32 13 = N := by rw [hF.t.2]; exact hJN
      have hTJ : TxW J := TxW_cg hF.t.1 hF.t.2 hT
      have hcu2 : cur D1 hd = cu := by rw [hcu]; unfold cur; rw [e36]
      have hS := hM1.cs (by omega)
      rw [hcu2] at hS
      have hS1 := hS.1
      have hskB := sk_B (T := T) g1
      rw [out_sk _ _ rfl g1] at hO
      generalize hp : sk T N (J 32 15) = p at hskB hO hno
      have hfault : ∀ (K : Nat → Int → Int) (f : Int), FrN J K → 1 ≤ f → f ≤ 5 → (out T N nx1 hd p D1).1 = f ∧ (out T N nx1 hd p D1).2.1 = p → K 32 14 = p → Q (some (vi f)) (K, L, R, n) := fun K f h2 h3 h4 h5 h6 => hf K f (hF.fn h2) h3 h4 (by rw [hO]; exact h5.1) (by rw [hO, h6]; exact h5.2)
      have h160 : ∀ (K4 : Nat → Int → Int) (nx2 : Int) (D2 : Dr) (f3 n4 x5 : Int), FrW kb I K4 → K4 32 14 = I 32 14 → I 32 15 < K4 32 15 → K4 32 15 ≤ N → (N - K4 32 15).toNat < tt → RDr (up K4 38 s' (K4 38 s' + 1)) kb D2 → (nx2 = 6 ∨ nx2 = 7) → MI nx2 hd D2 → D2 36 = D 36 → D2 41 = D 41 → out T N nx hd (I 32 15) D = out T N nx2 hd (K4 32 15) D2 → (nx2 = 6 → sgE T N (sk T N (K4 32 15)) ≠ 42) → Wp mX12_readWords 160 [some (vr (some 32)), some (vi s'), some (vi 1), some (vi f3), some (vi n4), some (vi x5)] [] (K4, L, R, n) (0, 0) Q := by
        intro K4 nx2 D2 f3 n4 x5 hF4 k14 k0 k1 hm4 hR4 hnx2 hM2 d36 d41 hO4 hst
        have hF6 : FrW kb I (up K4 38 s' (K4 38 s' + 1)) := hF4.wr (by unfold tW; omega)
        have e15 : up K4 38 s' (K4 38 s' + 1) 32 15 = K4 32 15 := up_o _ _ _ _ (by decide)
        have e14 : up K4 38 s' (K4 38 s' + 1) 32 14 = I 32 14 := by rw [up_o _ _ _ _ (by decide)]; exact k14
        rw [out_sk _ _ rfl k1] at hO4
        have hrB := sk_B (T := T) k1
        generalize hr : sk T N (K4 32 15) = r at hO4 hst hrB
        have hsg := sg_B hT hJT hJN (p := r) (by omega)
        refine Wp.aload_n rfl dX12_readWords_160 ?_
        refine Wp.gr (kz := 6) rfl dX12_readWords_161 fkX12_25 (by first | rfl | exact kd_b0 _ | exact kd_b1 _ | exact kd_b2 _ | exact kd_b3 _ | exact kd_b4 _ | exact kd_b5 _ | exact kd_b6 _) (by omega) (by first | exact hFx _ 6 _ rfl | assumption | exact hBk.1 | exact hBk.2.1 | exact hBk.2.2.1 | exact hBk.2.2.2.1 | exact hBk.2.2.2.2.1 | exact hBk.2.2.2.2.2) ?_
        refine Wp.iload_n rfl dX12_readWords_164 ?_
        first | refine Wp.dup2IR dX12_readWords_165 ?_ | refine Wp.dup2II dX12_readWords_165 ?_
        refine Wp.iaload dX12_readWords_166 (by first | rfl | exact kd_b0 _ | exact kd_b1 _ | exact kd_b2 _ | exact kd_b3 _ | exact kd_b4 _ | exact kd_b5 _ | exact kd_b6 _) (by omega) (by omega) (by omega) ?_
        refine Wp.iconst dX12_readWords_167 ?_
        refine Wp.iadd dX12_readWords_168 ?_
        refine Wp.iastore dX12_readWords_169 (by first | rfl | exact kd_b0 _ | exact kd_b1 _ | exact kd_b2 _ | exact kd_b3 _ | exact kd_b4 _ | exact kd_b5 _ | exact kd_b6 _) (by omega) (by omega) (by omega) ?_
        generalize up K4 38 s' (K4 38 s' + 1) = K6 at hF6 hR4 e15 e14 ⊢
        refine Wp.aload_n rfl dX12_readWords_170 ?_
        refine Wp.callV (As := []) (ls0 := [_]) (bd := (0, 0)) (bd' := (0, 0)) dX12_readWords_171 kmX12_here lkX12_116 (by decide) (by decide) (Nat.le_of_ble_eq_true rfl) (by first | rfl | exact kd_b0 _ | exact kd_b1 _ | exact kd_b2 _ | exact kd_b3 _ | exact kd_b4 _ | exact kd_b5 _ | exact kd_b6 _) (by omega) rfl rfl (Nat.le_of_ble_eq_true rfl) rfl ?_
        refine ct_he (T := T) (N := N) hn hFx (TxW_cg hF6.t.1 hF6.t.2 hT) (by rw [hF6.t.1]; exact hJT) (by rw [hF6.t.2]; exact hJN) (by omega) (by omega) (fun K7 hF7 g14 g16 g17 g15 => ?_)
        rw [e15, hr] at g15 ⊢
        have hR7 := RDr_fn hR4 hF7
        show Wp _ _ _ (_ :: _) _ _ _
        refine Wp.bipush rfl dX12_readWords_174 ?_
        refine Wp.icmp_ne (tgt := 183) dX12_readWords_176 (by decide) (by first | omega | exact bI_R _ | exact cmp_R _ _ | assumption) (by first | omega | exact bI_R _ | exact cmp_R _ _ | assumption) (fun c176 => ?_) (fun c176 => ?_)
        · refine Wp.iconst dX12_readWords_183 ?_
          refine Wp.istore_n (ls' := [_, _, _, _, _, _]) dX12_readWords_184 (by decide) rfl ?_
          refine Wp.aload_n rfl dX12_readWords_185 ?_
          first | refine Wp.dupR dX12_readWords_186 ?_ | refine Wp.dupI dX12_readWords_186 ?_
          refine Wp.gi (kz := 15) rfl dX12_readWords_187 fkX12_113 (by first | rfl | exact kd_b0 _ | exact kd_b1 _ | exact kd_b2 _ | exact kd_b3 _ | exact kd_b4 _ | exact kd_b5 _ | exact kd_b6 _) (by omega) ?_
          try simp (disch := omega) only [up_same, up_o, up_k]
          refine Wp.iload_n rfl dX12_readWords_190 ?_
          refine Wp.if_eq (tgt := 198) dX12_readWords_191 (by decide) (by first | omega | exact bI_R _ | exact cmp_R _ _ | assumption) (fun c191 => ?_) (fun c191 => ?_)
          · refine Wp.iconst dX12_readWords_198 ?_
            refine Wp.iadd dX12_readWords_199 ?_
            refine Wp.pi (kz := 15) rfl dX12_readWords_200 fkX12_113 (Or.inl rfl) (Or.inl rfl) (by first | rfl | exact kd_b0 _ | exact kd_b1 _ | exact kd_b2 _ | exact kd_b3 _ | exact kd_b4 _ | exact kd_b5 _ | exact kd_b6 _) (by omega) ?_
            refine Wp.goto (tgt := 2) dX12_readWords_203 (by decide) ?_
            first | (exfalso; omega) | exact ih _ 5 D2 _ _ _ (by rw [up_same]; omega) ((hF6.fn hF7).wr (by unfold tW; omega)) (by rw [up_k _ _ _ _ (by omega)]; omega) (by rw [up_same]; omega) (by rw [up_same]; omega) (RDr_u hR7) (Or.inr rfl) (MI_nx hM2 (by omega)) d36 d41 (by rw [up_same, g15, hO4, out_co (by omega) (by omega) hnx2]) (fun z => absurd z (by omega)) | exact hend _ _ _ _ (hq _ nx2 D2 ((hF6.fn hF7).wr (by unfold tW; omega)) (by rw [up_k _ _ _ _ (by omega)]; omega) (by rw [up_same]; omega) (by rw [up_same]; omega) (RDr_u hR7) hnx2 hM2 d36 d41 (by rw [up_same, g15, hO4, Int.add_zero]) (by rw [up_same, g15, Int.add_zero]; omega) (by rw [up_same, g15, Int.add_zero]; omega) (by rw [up_same, g15, Int.add_zero]; exact hst))
          · refine Wp.iconst dX12_readWords_194 ?_
            refine Wp.goto (tgt := 199) dX12_readWords_195 (by decide) ?_
            refine Wp.iadd dX12_readWords_199 ?_
            refine Wp.pi (kz := 15) rfl dX12_readWords_200 fkX12_113 (Or.inl rfl) (Or.inl rfl) (by first | rfl | exact kd_b0 _ | exact kd_b1 _ | exact kd_b2 _ | exact kd_b3 _ | exact kd_b4 _ | exact kd_b5 _ | exact kd_b6 _) (by omega) ?_
            refine Wp.goto (tgt := 2) dX12_readWords_203 (by decide) ?_
            first | (exfalso; omega) | exact ih _ 5 D2 _ _ _ (by rw [up_same]; omega) ((hF6.fn hF7).wr (by unfold tW; omega)) (by rw [up_k _ _ _ _ (by omega)]; omega) (by rw [up_same]; omega) (by rw [up_same]; omega) (RDr_u hR7) (Or.inr rfl) (MI_nx hM2 (by omega)) d36 d41 (by rw [up_same, g15, hO4, out_co (by omega) (by omega) hnx2]) (fun z => absurd z (by omega)) | exact hend _ _ _ _ (hq _ nx2 D2 ((hF6.fn hF7).wr (by unfold tW; omega)) (by rw [up_k _ _ _ _ (by omega)]; omega) (by rw [up_same]; omega) (by rw [up_same]; omega) (RDr_u hR7) hnx2 hM2 d36 d41 (by rw [up_same, g15, hO4, Int.add_zero]) (by rw [up_same, g15, Int.add_zero]; omega) (by rw [up_same, g15, Int.add_zero]; omega) (by rw [up_same, g15, Int.add_zero]; exact hst))
        · refine Wp.iconst dX12_readWords_179 ?_
          refine Wp.goto (tgt := 184) dX12_readWords_180 (by decide) ?_
          refine Wp.istore_n (ls' := [_, _, _, _, _, _]) dX12_readWords_184 (by decide) rfl ?_
          refine Wp.aload_n rfl dX12_readWords_185 ?_
          first | refine Wp.dupR dX12_readWords_186 ?_ | refine Wp.dupI dX12_readWords_186 ?_
          refine Wp.gi (kz := 15) rfl dX12_readWords_187 fkX12_113 (by first | rfl | exact kd_b0 _ | exact kd_b1 _ | exact kd_b2 _ | exact kd_b3 _ | exact kd_b4 _ | exact kd_b5 _ | exact kd_b6 _) (by omega) ?_
          try simp (disch := omega) only [up_same, up_o, up_k]
          refine Wp.iload_n rfl dX12_readWords_190 ?_
          refine Wp.if_eq (tgt := 198) dX12_readWords_191 (by decide) (by first | omega | exact bI_R _ | exact cmp_R _ _ | assumption) (fun c191 => ?_) (fun c191 => ?_)
          · refine Wp.iconst dX12_readWords_198 ?_
            refine Wp.iadd dX12_readWords_199 ?_
            refine Wp.pi (kz := 15) rfl dX12_readWords_200 fkX12_113 (Or.inl rfl) (Or.inl rfl) (by first | rfl | exact kd_b0 _ | exact kd_b1 _ | exact kd_b2 _ | exact kd_b3 _ | exact kd_b4 _ | exact kd_b5 _ | exact kd_b6 _) (by omega) ?_
            refine Wp.goto (tgt := 2) dX12_readWords_203 (by decide) ?_
            first | (exfalso; omega) | exact ih _ 5 D2 _ _ _ (by rw [up_same]; omega) ((hF6.fn hF7).wr (by unfold tW; omega)) (by rw [up_k _ _ _ _ (by omega)]; omega) (by rw [up_same]; omega) (by rw [up_same]; omega) (RDr_u hR7) (Or.inr rfl) (MI_nx hM2 (by omega)) d36 d41 (by rw [up_same, g15, hO4, out_co (by omega) (by omega) hnx2]) (fun z => absurd z (by omega)) | exact hend _ _ _ _ (hq _ nx2 D2 ((hF6.fn hF7).wr (by unfold tW; omega)) (by rw [up_k _ _ _ _ (by omega)]; omega) (by rw [up_same]; omega) (by rw [up_same]; omega) (RDr_u hR7) hnx2 hM2 d36 d41 (by rw [up_same, g15, hO4, Int.add_zero]) (by rw [up_same, g15, Int.add_zero]; omega) (by rw [up_same, g15, Int.add_zero]; omega) (by rw [up_same, g15, Int.add_zero]; exact hst))
          · refine Wp.iconst dX12_readWords_194 ?_
            refine Wp.goto (tgt := 199) dX12_readWords_195 (by decide) ?_
            refine Wp.iadd dX12_readWords_199 ?_
            refine Wp.pi (kz := 15) rfl dX12_readWords_200 fkX12_113 (Or.inl rfl) (Or.inl rfl) (by first | rfl | exact kd_b0 _ | exact kd_b1 _ | exact kd_b2 _ | exact kd_b3 _ | exact kd_b4 _ | exact kd_b5 _ | exact kd_b6 _) (by omega) ?_
            refine Wp.goto (tgt := 2) dX12_readWords_203 (by decide) ?_
            first | (exfalso; omega) | exact ih _ 5 D2 _ _ _ (by rw [up_same]; omega) ((hF6.fn hF7).wr (by unfold tW; omega)) (by rw [up_k _ _ _ _ (by omega)]; omega) (by rw [up_same]; omega) (by rw [up_same]; omega) (RDr_u hR7) (Or.inr rfl) (MI_nx hM2 (by omega)) d36 d41 (by rw [up_same, g15, hO4, out_co (by omega) (by omega) hnx2]) (fun z => absurd z (by omega)) | exact hend _ _ _ _ (hq _ nx2 D2 ((hF6.fn hF7).wr (by unfold tW; omega)) (by rw [up_k _ _ _ _ (by omega)]; omega) (by rw [up_same]; omega) (by rw [up_same]; omega) (RDr_u hR7) hnx2 hM2 d36 d41 (by rw [up_same, g15, hO4, Int.add_zero]) (by rw [up_same, g15, Int.add_zero]; omega) (by rw [up_same, g15, Int.add_zero]; omega) (by rw [up_same, g15, Int.add_zero]; exact hst))
      have h72 : ∀ (K : Nat → Int → Int) (v : Int) (f3 x5 : Int), FrN J K → K 32 14 = I 32 14 → K 32 15 = p + dc T N p → K 32 16 = v → K 32 17 = p → v = vN T p (dc T N p).toNat → dgP T N p → ¬ (2 < dc T N p ∨ 59 < vN T p (dc T N p).toNat) → ¬ anyB (fun k => decide (D1 39 (6 * cu + k) = v)) (D1 38 cu).toNat = true → Wp mX12_readWords 72 [some (vr (some 32)), some (vi s'), some (vi 1), some (vi f3), some (vi (D1 38 cu)), some (vi x5)] [] (K, L, R, n) (0, 0) Q := by
        intro K v f3 x5 hFK k14 k15 k16 k17 hv hdg hok hany
        have hd1 := dg1 hdg
        have hvB := vN_ok (by omega) hdg
        have hRK := RDr_fn hR1 hFK
        have hx : 6 * s' + D1 38 cu = 1080 * kb + (6 * cu + D1 38 cu) := by omega
        have hsx : ∀ x : Int, s' = x → x = 180 * kb + cu := fun x h => by omega
        have hq0B := sk_B (T := T) hd1.2
        obtain ⟨q, hqd⟩ : ∃ q, q = sk T N (p + dc T N p) := ⟨_, rfl⟩
        rw [← hqd] at hq0B
        have hsg := sg_B hT hJT hJN (p := q) (by omega)
        have hany2 : ¬ anyB (fun k => decide (D1 39 (6 * cur D1 hd + k) = vN T p (dc T N p).toNat)) (D1 38 (cur D1 hd)).toNat = true := by rw [hcu2, ← hv]; exact hany
        have hO2 : ¬ 6 ≤ D1 38 cu → out T N nx hd (I 32 15) D = out T N 6 hd q (addW D1 cu v) := fun h6 => by
          rw [hO, out_w hdg hnx1 hok hany2 (by rw [hcu2]; exact h6), out_sk _ _ rfl hd1.2, ← hqd, hcu2, ← hv]
        have hMW : ¬ 6 ≤ D1 38 cu → MI 6 hd (addW D1 cu v) := fun h6 => by
          rw [← hcu2]
          exact MI_word hM1 hnx1 (by omega) (by omega) (by rw [hv]; exact hany2) (by rw [hcu2]; exact h6)
        have hR160 : ∀ (K3 : Nat → Int → Int) (a y : Int) (k5 : Int), RDr K3 kb (up D1 39 (6 * cu + D1 38 cu) v) → K3 38 s' = D1 38 cu → RDr (up (up (up K3 40 (6 * s' + D1 38 cu) a) 32 k5 y) 38 s' (up (up K3 40 (6 * s' + D1 38 cu) a) 32 k5 y 38 s' + 1)) kb (up (up (up D1 39 (6 * cu + D1 38 cu) v) 40 (6 * cu + D1 38 cu) a) 38 cu (D1 38 cu + 1)) := by
          intro K3 a y k5 h2 h3
          rw [up_o _ _ _ _ (by decide), up_o _ _ _ _ (by decide), h3, hx, hs']
          exact RDr_38 (RDr_u (RDr_40 h2))
        have h36a : ∀ a : Int, up (up (up D1 39 (6 * cu + D1 38 cu) v) 40 (6 * cu + D1 38 cu) a) 38 cu (D1 38 cu + 1) 36 = D 36 := fun a => by funext k; rw [up_o _ _ _ _ (by decide), up_o _ _ _ _ (by decide), up_o _ _ _ _ (by decide), e36]
        have h41a : ∀ a : Int, up (up (up D1 39 (6 * cu + D1 38 cu) v) 40 (6 * cu + D1 38 cu) a) 38 cu (D1 38 cu + 1) 41 = D 41 := fun a => by funext k; rw [up_o _ _ _ _ (by decide), up_o _ _ _ _ (by decide), up_o _ _ _ _ (by decide), e41]
        have hcw : cur (addW D1 cu v) hd = cu := by rw [← hcu2]; unfold cur; rw [addW_o (by decide) (by decide) (by decide)]
        have hagd : up (addW D1 cu v) 40 (6 * cur (addW D1 cu v) hd + (addW D1 cu v 38 (cur (addW D1 cu v) hd) - 1)) 1 = up (up (up D1 39 (6 * cu + D1 38 cu) v) 40 (6 * cu + D1 38 cu) 1) 38 cu (D1 38 cu + 1) := by
          rw [hcw, addW_38h, show 6 * cu + (D1 38 cu + 1 - 1) = 6 * cu + D1 38 cu by omega]
          exact aged_up D1 _ _ _ _
        have hage : MI 6 hd (addW D1 cu v) → MI 7 hd (up (up (up D1 39 (6 * cu + D1 38 cu) v) 40 (6 * cu + D1 38 cu) 1) 38 cu (D1 38 cu + 1)) := fun h => by rw [← hagd]; exact MI_age h
        have hO7 : q < N → T q = 42 → out T N 6 hd q (addW D1 cu v) = out T N 7 hd (q + 1) (up (up (up D1 39 (6 * cu + D1 38 cu) v) 40 (6 * cu + D1 38 cu) 1) 38 cu (D1 38 cu + 1)) := fun h1 h2 => by rw [out_st h1 h2, hagd]
        have hskq : sk T N q = q := by rw [hqd]; exact sk_i hd1.2
        have hKT : K 41 = T := by rw [hFK.t.1]; exact hJT1
        have hKN : K 32 13 = N := by rw [hFK.t.2]; exact hJN1
        have hFI := hF.fn hFK
        refine Wp.iload rfl dX12_readWords_72 ?_
        refine Wp.bipush rfl dX12_readWords_74 ?_
        refine Wp.icmp_ne (tgt := 89) dX12_readWords_76 (by decide) (by first | omega | exact bI_R _ | exact cmp_R _ _ | assumption) (by first | omega | exact bI_R _ | exact cmp_R _ _ | assumption) (fun c76 => ?_) (fun c76 => ?_)
        · refine Wp.aload_n rfl dX12_readWords_89 ?_
          refine Wp.gr (kz := 7) rfl dX12_readWords_90 fkX12_28 (by first | rfl | exact kd_b0 _ | exact kd_b1 _ | exact kd_b2 _ | exact kd_b3 _ | exact kd_b4 _ | exact kd_b5 _ | exact kd_b6 _) (by omega) (by first | exact hFx _ 7 _ rfl | assumption | exact hBk.1 | exact hBk.2.1 | exact hBk.2.2.1 | exact hBk.2.2.2.1 | exact hBk.2.2.2.2.1 | exact hBk.2.2.2.2.2) ?_
          refine Wp.bipush rfl dX12_readWords_93 ?_
          refine Wp.iload_n rfl dX12_readWords_95 ?_
          refine Wp.imul dX12_readWords_96 ?_
          refine Wp.iload rfl dX12_readWords_97 ?_
          refine Wp.iadd dX12_readWords_99 ?_
          refine Wp.aload_n rfl dX12_readWords_100 ?_
          refine Wp.gi (kz := 16) rfl dX12_readWords_101 fkX12_131 (by first | rfl | exact kd_b0 _ | exact kd_b1 _ | exact kd_b2 _ | exact kd_b3 _ | exact kd_b4 _ | exact kd_b5 _ | exact kd_b6 _) (by omega) ?_
          refine Wp.iastore dX12_readWords_104 (by first | rfl | exact kd_b0 _ | exact kd_b1 _ | exact kd_b2 _ | exact kd_b3 _ | exact kd_b4 _ | exact kd_b5 _ | exact kd_b6 _) (by omega) (by omega) (by omega) ?_
          refine Wp.aload_n rfl dX12_readWords_105 ?_
          refine Wp.gr (kz := 8) rfl dX12_readWords_106 fkX12_31 (by first | rfl | exact kd_b0 _ | exact kd_b1 _ | exact kd_b2 _ | exact kd_b3 _ | exact kd_b4 _ | exact kd_b5 _ | exact kd_b6 _) (by omega) (by first | exact hFx _ 8 _ rfl | assumption | exact hBk.1 | exact hBk.2.1 | exact hBk.2.2.1 | exact hBk.2.2.2.1 | exact hBk.2.2.2.2.1 | exact hBk.2.2.2.2.2) ?_
          try simp (disch := omega) only [up_same, up_o, up_k]
          refine Wp.bipush rfl dX12_readWords_109 ?_
          refine Wp.iload_n rfl dX12_readWords_111 ?_
          refine Wp.imul dX12_readWords_112 ?_
          refine Wp.iload rfl dX12_readWords_113 ?_
          refine Wp.iadd dX12_readWords_115 ?_
          refine Wp.aload_n rfl dX12_readWords_116 ?_
          refine Wp.callV (As := []) (ls0 := [_]) (bd := (0, 0)) (bd' := (0, 0)) dX12_readWords_117 kmX12_here lkX12_116 (by decide) (by decide) (Nat.le_of_ble_eq_true rfl) (by first | rfl | exact kd_b0 _ | exact kd_b1 _ | exact kd_b2 _ | exact kd_b3 _ | exact kd_b4 _ | exact kd_b5 _ | exact kd_b6 _) (by omega) rfl rfl (Nat.le_of_ble_eq_true rfl) rfl ?_
          have h6 : ¬ 6 ≤ D1 38 cu := by omega
          have hF2 : FrW kb I (up K 39 (6 * s' + D1 38 cu) (K 32 16)) := hFI.wr (by unfold tW; omega)
          have hR2 : RDr (up K 39 (6 * s' + D1 38 cu) (K 32 16)) kb (up D1 39 (6 * cu + D1 38 cu) v) := by rw [hx, k16]; exact RDr_39 hRK
          have e15 : up K 39 (6 * s' + D1 38 cu) (K 32 16) 32 15 = p + dc T N p := by rw [up_o _ _ _ _ (by decide)]; exact k15
          have e14 : up K 39 (6 * s' + D1 38 cu) (K 32 16) 32 14 = I 32 14 := by rw [up_o _ _ _ _ (by decide)]; exact k14
          have e38 : up K 39 (6 * s' + D1 38 cu) (K 32 16) 38 s' = D1 38 cu := by rw [up_o _ _ _ _ (by decide), hs']; exact (hRK.1 cu (by omega) (by omega)).2
          have hO3 := hO2 h6
          have hM3 := hMW h6
          generalize up K 39 (6 * s' + D1 38 cu) (K 32 16) = K2 at hF2 hR2 e15 e14 e38 ⊢
          refine ct_he (T := T) (N := N) hn hFx (TxW_cg hF2.t.1 hF2.t.2 hT) (by rw [hF2.t.1]; exact hJT) (by rw [hF2.t.2]; exact hJN) (by omega) (by omega) (fun K3 hF3 g14 g16 g17 g15 => ?_)
          rw [e15, ← hqd] at g15 ⊢
          have hF4 := hF2.fn hF3
          have hR3 := RDr_fn hR2 hF3
          have g38 : K3 38 s' = D1 38 cu := by rw [hF3 38 _ (by omega)]; exact e38
          show Wp _ _ _ (_ :: _) _ _ _
          refine Wp.bipush rfl dX12_readWords_120 ?_
          refine Wp.icmp_ne (tgt := 129) dX12_readWords_122 (by decide) (by first | omega | exact bI_R _ | exact cmp_R _ _ | assumption) (by first | omega | exact bI_R _ | exact cmp_R _ _ | assumption) (fun c122 => ?_) (fun c122 => ?_)
          · refine Wp.iconst dX12_readWords_129 ?_
            refine Wp.bastore dX12_readWords_130 (by first | rfl | exact kd_b0 _ | exact kd_b1 _ | exact kd_b2 _ | exact kd_b3 _ | exact kd_b4 _ | exact kd_b5 _ | exact kd_b6 _) (by omega) (by omega) (by omega) (by omega) ?_
            refine Wp.aload_n rfl dX12_readWords_131 ?_
            first | refine Wp.dupR dX12_readWords_132 ?_ | refine Wp.dupI dX12_readWords_132 ?_
            refine Wp.gi (kz := 15) rfl dX12_readWords_133 fkX12_113 (by first | rfl | exact kd_b0 _ | exact kd_b1 _ | exact kd_b2 _ | exact kd_b3 _ | exact kd_b4 _ | exact kd_b5 _ | exact kd_b6 _) (by omega) ?_
            try simp (disch := omega) only [up_same, up_o, up_k]
            refine Wp.aload_n rfl dX12_readWords_136 ?_
            refine Wp.gr (kz := 8) rfl dX12_readWords_137 fkX12_31 (by first | rfl | exact kd_b0 _ | exact kd_b1 _ | exact kd_b2 _ | exact kd_b3 _ | exact kd_b4 _ | exact kd_b5 _ | exact kd_b6 _) (by omega) (by first | exact hFx _ 8 _ rfl | assumption | exact hBk.1 | exact hBk.2.1 | exact hBk.2.2.1 | exact hBk.2.2.2.1 | exact hBk.2.2.2.2.1 | exact hBk.2.2.2.2.2) ?_
            try simp (disch := omega) only [up_same, up_o, up_k]
            refine Wp.bipush rfl dX12_readWords_140 ?_
            refine Wp.iload_n rfl dX12_readWords_142 ?_
            refine Wp.imul dX12_readWords_143 ?_
            refine Wp.iload rfl dX12_readWords_144 ?_
            refine Wp.iadd dX12_readWords_146 ?_
            refine Wp.baload dX12_readWords_147 (by first | rfl | exact kd_b0 _ | exact kd_b1 _ | exact kd_b2 _ | exact kd_b3 _ | exact kd_b4 _ | exact kd_b5 _ | exact kd_b6 _) (by omega) (by omega) (by omega) ?_
            try simp (disch := omega) only [up_same, up_o, up_k]
            refine Wp.if_eq (tgt := 155) dX12_readWords_148 (by decide) (by first | omega | exact bI_R _ | exact cmp_R _ _ | assumption) (fun c148 => ?_) (fun c148 => ?_)
            · refine Wp.iconst dX12_readWords_155 ?_
              refine Wp.iadd dX12_readWords_156 ?_
              refine Wp.pi (kz := 15) rfl dX12_readWords_157 fkX12_113 (Or.inl rfl) (Or.inl rfl) (by first | rfl | exact kd_b0 _ | exact kd_b1 _ | exact kd_b2 _ | exact kd_b3 _ | exact kd_b4 _ | exact kd_b5 _ | exact kd_b6 _) (by omega) ?_
              first | (exfalso; omega) | exact h160 _ 7 _ _ _ _ ((hF4.wr (by unfold tW; omega)).wr (by unfold tW; omega)) (by simp (disch := omega) only [up_same, up_o, up_k]; omega) (by simp (disch := omega) only [up_same, up_o, up_k]; omega) (by simp (disch := omega) only [up_same, up_o, up_k]; omega) (by simp (disch := omega) only [up_same, up_o, up_k]; omega) (hR160 K3 1 _ _ hR3 g38) (Or.inr rfl) (hage hM3) (h36a 1) (h41a 1) (by rw [up_same, g15, hO3]; exact hO7 (by omega) (by omega)) (fun z => absurd z (by omega)) | exact h160 _ 6 _ _ _ _ ((hF4.wr (by unfold tW; omega)).wr (by unfold tW; omega)) (by simp (disch := omega) only [up_same, up_o, up_k]; omega) (by simp (disch := omega) only [up_same, up_o, up_k]; omega) (by simp (disch := omega) only [up_same, up_o, up_k]; omega) (by simp (disch := omega) only [up_same, up_o, up_k]; omega) (hR160 K3 0 _ _ hR3 g38) (Or.inl rfl) hM3 (h36a 0) (h41a 0) (by rw [up_same, g15, hO3, Int.add_zero]; rfl) (fun _ => by rw [up_same, g15, Int.add_zero, hskq]; omega)
            · refine Wp.iconst dX12_readWords_151 ?_
              refine Wp.goto (tgt := 156) dX12_readWords_152 (by decide) ?_
              refine Wp.iadd dX12_readWords_156 ?_
              refine Wp.pi (kz := 15) rfl dX12_readWords_157 fkX12_113 (Or.inl rfl) (Or.inl rfl) (by first | rfl | exact kd_b0 _ | exact kd_b1 _ | exact kd_b2 _ | exact kd_b3 _ | exact kd_b4 _ | exact kd_b5 _ | exact kd_b6 _) (by omega) ?_
              first | (exfalso; omega) | exact h160 _ 7 _ _ _ _ ((hF4.wr (by unfold tW; omega)).wr (by unfold tW; omega)) (by simp (disch := omega) only [up_same, up_o, up_k]; omega) (by simp (disch := omega) only [up_same, up_o, up_k]; omega) (by simp (disch := omega) only [up_same, up_o, up_k]; omega) (by simp (disch := omega) only [up_same, up_o, up_k]; omega) (hR160 K3 1 _ _ hR3 g38) (Or.inr rfl) (hage hM3) (h36a 1) (h41a 1) (by rw [up_same, g15, hO3]; exact hO7 (by omega) (by omega)) (fun z => absurd z (by omega)) | exact h160 _ 6 _ _ _ _ ((hF4.wr (by unfold tW; omega)).wr (by unfold tW; omega)) (by simp (disch := omega) only [up_same, up_o, up_k]; omega) (by simp (disch := omega) only [up_same, up_o, up_k]; omega) (by simp (disch := omega) only [up_same, up_o, up_k]; omega) (by simp (disch := omega) only [up_same, up_o, up_k]; omega) (hR160 K3 0 _ _ hR3 g38) (Or.inl rfl) hM3 (h36a 0) (h41a 0) (by rw [up_same, g15, hO3, Int.add_zero]; rfl) (fun _ => by rw [up_same, g15, Int.add_zero, hskq]; omega)
          · refine Wp.iconst dX12_readWords_125 ?_
            refine Wp.goto (tgt := 130) dX12_readWords_126 (by decide) ?_
            refine Wp.bastore dX12_readWords_130 (by first | rfl | exact kd_b0 _ | exact kd_b1 _ | exact kd_b2 _ | exact kd_b3 _ | exact kd_b4 _ | exact kd_b5 _ | exact kd_b6 _) (by omega) (by omega) (by omega) (by omega) ?_
            refine Wp.aload_n rfl dX12_readWords_131 ?_
            first | refine Wp.dupR dX12_readWords_132 ?_ | refine Wp.dupI dX12_readWords_132 ?_
            refine Wp.gi (kz := 15) rfl dX12_readWords_133 fkX12_113 (by first | rfl | exact kd_b0 _ | exact kd_b1 _ | exact kd_b2 _ | exact kd_b3 _ | exact kd_b4 _ | exact kd_b5 _ | exact kd_b6 _) (by omega) ?_
            try simp (disch := omega) only [up_same, up_o, up_k]
            refine Wp.aload_n rfl dX12_readWords_136 ?_
            refine Wp.gr (kz := 8) rfl dX12_readWords_137 fkX12_31 (by first | rfl | exact kd_b0 _ | exact kd_b1 _ | exact kd_b2 _ | exact kd_b3 _ | exact kd_b4 _ | exact kd_b5 _ | exact kd_b6 _) (by omega) (by first | exact hFx _ 8 _ rfl | assumption | exact hBk.1 | exact hBk.2.1 | exact hBk.2.2.1 | exact hBk.2.2.2.1 | exact hBk.2.2.2.2.1 | exact hBk.2.2.2.2.2) ?_
            try simp (disch := omega) only [up_same, up_o, up_k]
            refine Wp.bipush rfl dX12_readWords_140 ?_
            refine Wp.iload_n rfl dX12_readWords_142 ?_
            refine Wp.imul dX12_readWords_143 ?_
            refine Wp.iload rfl dX12_readWords_144 ?_
            refine Wp.iadd dX12_readWords_146 ?_
            refine Wp.baload dX12_readWords_147 (by first | rfl | exact kd_b0 _ | exact kd_b1 _ | exact kd_b2 _ | exact kd_b3 _ | exact kd_b4 _ | exact kd_b5 _ | exact kd_b6 _) (by omega) (by omega) (by omega) ?_
            try simp (disch := omega) only [up_same, up_o, up_k]
            refine Wp.if_eq (tgt := 155) dX12_readWords_148 (by decide) (by first | omega | exact bI_R _ | exact cmp_R _ _ | assumption) (fun c148 => ?_) (fun c148 => ?_)
            · refine Wp.iconst dX12_readWords_155 ?_
              refine Wp.iadd dX12_readWords_156 ?_
              refine Wp.pi (kz := 15) rfl dX12_readWords_157 fkX12_113 (Or.inl rfl) (Or.inl rfl) (by first | rfl | exact kd_b0 _ | exact kd_b1 _ | exact kd_b2 _ | exact kd_b3 _ | exact kd_b4 _ | exact kd_b5 _ | exact kd_b6 _) (by omega) ?_
              first | (exfalso; omega) | exact h160 _ 7 _ _ _ _ ((hF4.wr (by unfold tW; omega)).wr (by unfold tW; omega)) (by simp (disch := omega) only [up_same, up_o, up_k]; omega) (by simp (disch := omega) only [up_same, up_o, up_k]; omega) (by simp (disch := omega) only [up_same, up_o, up_k]; omega) (by simp (disch := omega) only [up_same, up_o, up_k]; omega) (hR160 K3 1 _ _ hR3 g38) (Or.inr rfl) (hage hM3) (h36a 1) (h41a 1) (by rw [up_same, g15, hO3]; exact hO7 (by omega) (by omega)) (fun z => absurd z (by omega)) | exact h160 _ 6 _ _ _ _ ((hF4.wr (by unfold tW; omega)).wr (by unfold tW; omega)) (by simp (disch := omega) only [up_same, up_o, up_k]; omega) (by simp (disch := omega) only [up_same, up_o, up_k]; omega) (by simp (disch := omega) only [up_same, up_o, up_k]; omega) (by simp (disch := omega) only [up_same, up_o, up_k]; omega) (hR160 K3 0 _ _ hR3 g38) (Or.inl rfl) hM3 (h36a 0) (h41a 0) (by rw [up_same, g15, hO3, Int.add_zero]; rfl) (fun _ => by rw [up_same, g15, Int.add_zero, hskq]; omega)
            · refine Wp.iconst dX12_readWords_151 ?_
              refine Wp.goto (tgt := 156) dX12_readWords_152 (by decide) ?_
              refine Wp.iadd dX12_readWords_156 ?_
              refine Wp.pi (kz := 15) rfl dX12_readWords_157 fkX12_113 (Or.inl rfl) (Or.inl rfl) (by first | rfl | exact kd_b0 _ | exact kd_b1 _ | exact kd_b2 _ | exact kd_b3 _ | exact kd_b4 _ | exact kd_b5 _ | exact kd_b6 _) (by omega) ?_
              first | (exfalso; omega) | exact h160 _ 7 _ _ _ _ ((hF4.wr (by unfold tW; omega)).wr (by unfold tW; omega)) (by simp (disch := omega) only [up_same, up_o, up_k]; omega) (by simp (disch := omega) only [up_same, up_o, up_k]; omega) (by simp (disch := omega) only [up_same, up_o, up_k]; omega) (by simp (disch := omega) only [up_same, up_o, up_k]; omega) (hR160 K3 1 _ _ hR3 g38) (Or.inr rfl) (hage hM3) (h36a 1) (h41a 1) (by rw [up_same, g15, hO3]; exact hO7 (by omega) (by omega)) (fun z => absurd z (by omega)) | exact h160 _ 6 _ _ _ _ ((hF4.wr (by unfold tW; omega)).wr (by unfold tW; omega)) (by simp (disch := omega) only [up_same, up_o, up_k]; omega) (by simp (disch := omega) only [up_same, up_o, up_k]; omega) (by simp (disch := omega) only [up_same, up_o, up_k]; omega) (by simp (disch := omega) only [up_same, up_o, up_k]; omega) (hR160 K3 0 _ _ hR3 g38) (Or.inl rfl) hM3 (h36a 0) (h41a 0) (by rw [up_same, g15, hO3, Int.add_zero]; rfl) (fun _ => by rw [up_same, g15, Int.add_zero, hskq]; omega)
        · refine Wp.aload_n rfl dX12_readWords_79 ?_
          refine Wp.iconst dX12_readWords_80 ?_
          refine Wp.aload_n rfl dX12_readWords_81 ?_
          refine Wp.gi (kz := 17) rfl dX12_readWords_82 fkX12_128 (by first | rfl | exact kd_b0 _ | exact kd_b1 _ | exact kd_b2 _ | exact kd_b3 _ | exact kd_b4 _ | exact kd_b5 _ | exact kd_b6 _) (by omega) ?_
          refine Wp.callV (As := [_, _]) (ls0 := [_, _, _]) (bd := (0, 0)) (bd' := (0, 0)) dX12_readWords_85 kmX12_fails lkX12_124 (by decide) (by decide) (Nat.le_of_ble_eq_true rfl) (by first | rfl | exact kd_b0 _ | exact kd_b1 _ | exact kd_b2 _ | exact kd_b3 _ | exact kd_b4 _ | exact kd_b5 _ | exact kd_b6 _) (by omega) rfl rfl (Nat.le_of_ble_eq_true rfl) rfl ?_
          refine ct_X12_fails hn ?_
          show Wp _ _ _ (_ :: _) _ _ _
          refine Wp.ireturn dX12_readWords_88 rfl ?_
          first | (exfalso; omega) | (exact hfault _ 5 (hFK.wr (by omega)) (by omega) (by omega) (out_w5 hdg hnx1 hok hany2 (by rw [hcu2]; omega)) (by rw [up_same]; exact k17))
      refine Wp.iload_n rfl dX12_readWords_2 ?_
      refine Wp.if_eq (tgt := 206) dX12_readWords_3 (by decide) (by first | omega | exact bI_R _ | exact cmp_R _ _ | assumption) (fun c3 => ?_) (fun c3 => ?_)
      · exfalso; first | omega | (simp at c3; done) | (simp_all; done)
      · refine Wp.aload_n rfl dX12_readWords_6 ?_
        refine Wp.bipush rfl dX12_readWords_7 ?_
        refine Wp.callV (As := [_]) (ls0 := [_, _, _]) (bd := (0, 0)) (bd' := (0, 0)) dX12_readWords_9 kmX12_readNumber lkX12_134 (by decide) (by decide) (Nat.le_of_ble_eq_true rfl) (by first | rfl | exact kd_b0 _ | exact kd_b1 _ | exact kd_b2 _ | exact kd_b3 _ | exact kd_b4 _ | exact kd_b5 _ | exact kd_b6 _) (by omega) rfl rfl (Nat.le_of_ble_eq_true rfl) rfl ?_
        refine ct_rn (T := T) (N := N) hn hFx hTJ hJT1 hJN1 (by omega) (by omega) g1 (fun K f hf0 hf1 hFK hrO => ?_)
        rw [hp] at hrO
        show Wp _ _ _ (_ :: _) _ _ _
        refine Wp.istore_n (ls' := [_, _, _, _, _, _]) dX12_readWords_12 (by decide) rfl ?_
        refine Wp.iload_n rfl dX12_readWords_13 ?_
        refine Wp.if_le (tgt := 19) dX12_readWords_14 (by decide) (by first | omega | exact bI_R _ | exact cmp_R _ _ | assumption) (fun c14 => ?_) (fun c14 => ?_)
        · refine Wp.aload_n rfl dX12_readWords_19 ?_
          refine Wp.gr (kz := 6) rfl dX12_readWords_20 fkX12_25 (by first | rfl | exact kd_b0 _ | exact kd_b1 _ | exact kd_b2 _ | exact kd_b3 _ | exact kd_b4 _ | exact kd_b5 _ | exact kd_b6 _) (by omega) (by first | exact hFx _ 6 _ rfl | assumption | exact hBk.1 | exact hBk.2.1 | exact hBk.2.2.1 | exact hBk.2.2.2.1 | exact hBk.2.2.2.2.1 | exact hBk.2.2.2.2.2) ?_
          refine Wp.iload_n rfl dX12_readWords_23 ?_
          refine Wp.iaload dX12_readWords_24 (by first | rfl | exact kd_b0 _ | exact kd_b1 _ | exact kd_b2 _ | exact kd_b3 _ | exact kd_b4 _ | exact kd_b5 _ | exact kd_b6 _) (by omega) (by omega) (by omega) ?_
          refine Wp.istore (ls' := [_, _, _, _, _, _]) dX12_readWords_25 (by decide) rfl ?_
          refine Wp.iconst dX12_readWords_27 ?_
          refine Wp.istore (ls' := [_, _, _, _, _, _]) dX12_readWords_28 (by decide) rfl ?_
          rcases hrO with ⟨a1, a2, a3⟩ | ⟨a1, a2, a3, a4⟩ | ⟨a1, a2, a3, a4, a5, a6, a7⟩
          · exfalso; omega
          · exfalso; omega
          · have hRK := RDr_fn hR1 hFK
            have h38 : K 38 s' = D1 38 cu := by rw [hs']; exact (hRK.1 cu (by omega) (by omega)).2
            rw [h38]
            have hvB := vN_ok (by omega) a2
            exact lk K D1 (vN T p (dc T N p).toNat) (by omega) f hRK a6 hS (fun h4 => hfault _ 4 (hFK.wr (by omega)) (by omega) (by omega) (out_w4 a2 hnx1 a3 (by rw [hcu2]; exact h4)) (by rw [up_same]; exact a7)) (fun h4 x5 => h72 K _ f x5 hFK (by omega) a5 a6 a7 rfl a2 a3 h4) (D1 38 cu).toNat 0 _ (by omega) (by omega) (by simp [anyB])
        · refine Wp.iload_n rfl dX12_readWords_17 ?_
          refine Wp.ireturn dX12_readWords_18 rfl ?_
          rcases hrO with ⟨a1, a2, a3⟩ | ⟨a1, a2, a3, a4⟩ | ⟨a1, a2, a3, a4, a5, a6, a7⟩
          · exact hfault K f hFK (by omega) (by omega) (by rw [a1]; exact out_n1 hskB.2.1 a2 hskB.2.2 (by omega)) a3
          · exact hfault K f hFK (by omega) (by omega) (by rw [a1]; exact out_n2 a2 (by omega) (by rw [if_neg (by omega)]; omega)) a4
          · exfalso; omega
  refine Wp.iconst dX12_readWords_0 ?_
  refine Wp.istore_n (ls' := [_, _, _, _, _, _]) dX12_readWords_1 (by decide) rfl ?_
  exact main _ I nx D _ _ _ (Nat.lt_succ_self _) (FrW.rf kb I) rfl (Int.le_refl _) h1 hR hnx hM rfl rfl rfl h40
end

