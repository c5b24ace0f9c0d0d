/-! ===== the reference: promises 1, 3: senses, clauses ===== -/
/-- how reading words comes out -/
def rwO (T : Int → Int) (N kb nx hd p : Int) (D : Dr) (I J : Nat → Int → Int) (f : Int) : Prop := FrW kb I J ∧ ((1 ≤ f ∧ f ≤ 5 ∧ (out T N nx hd p D).1 = f ∧ (out T N nx hd p D).2.1 = J 32 14) ∨ (f = 0 ∧ ∃ (nx' : Int) (D' : Dr), J 32 14 = I 32 14 ∧ I 32 15 < J 32 15 ∧ J 32 15 ≤ N ∧ RDr J kb D' ∧ (nx' = 6 ∨ nx' = 7) ∧ MI nx' hd D' ∧ D' 36 = D 36 ∧ D' 41 = D 41 ∧ out T N nx hd p D = out T N nx' hd (J 32 15) D' ∧ ¬ (J 32 15 < N ∧ T (J 32 15) = 32) ∧ sgE T N (J 32 15) ≠ 44 ∧ (nx' = 6 → sgE T N (J 32 15) ≠ 42)))
theorem rwO_tr {T : Int → Int} {N kb nx hd p nx1 p1 : Int} {D D1 : Dr} {I J K : Nat → Int → Int} {f : Int} (hF : FrW kb I J) (h14 : J 32 14 = I 32 14) (h15 : I 32 15 ≤ J 32 15) (hO : out T N nx hd p D = out T N nx1 hd p1 D1) (h36 : D1 36 = D 36) (h41 : D1 41 = D 41) (h : rwO T N kb nx1 hd p1 D1 J K f) : rwO T N kb nx hd p D I K f := by
  refine ⟨hF.tr h.1, ?_⟩
  rcases h.2 with h2 | ⟨h2, nx', D', a1, a2, a3, a4, a5, a6, a7, a8, a9, a10, a11, a12⟩
  · left; rw [hO]; exact h2
  · right
    exact ⟨h2, nx', D', a1.trans h14, by omega, a3, a4, a5, a6, a7.trans h36, a8.trans h41, hO.trans a9, a10, a11, a12⟩
section
variable {I : Nat → Int → Int} {L : Nat → Int → BitVec 64} {R : Nat → Int → Option Nat} {n : Nat} {m : Mm} {Q : Option AV → Mm → Prop} {T : Int → Int} {N : Int}
theorem ct_rw {kb nx hd s' : Int} {D : Dr} (hn : 57 ≤ n) (hFx : Fx R) (hT : TxW I) (hJT : I 41 = T) (hJN : I 32 13 = N) (hkb : 0 ≤ kb ∧ kb < 8) (hM : MI nx hd D) (hnx : nx = 2 ∨ nx = 5) (hR : RDr I kb D) (h0 : 0 ≤ I 32 15) (h1 : I 32 15 ≤ N) (hs' : s' = 180 * kb + cur D hd) (h40 : nx = 2 → sgE T N (sk T N (I 32 15)) ≠ 40) (hq : ∀ J f, 0 ≤ f → f ≤ 5 → rwO T N kb nx hd (I 32 15) D I J f → Q (some (vi f)) (J, L, R, n)) : Wp mX12_readWords 0 [some (vr (some 32)), some (vi s'), none, none, none, none] [] (I, L, R, n) (0, 0) Q :=
  ct_X12_readWords hn hFx hT hJT hJN hkb hM hnx hR h0 h1 hs' h40 (fun J f hF a b c d => hq J f (by omega) b ⟨hF, Or.inl ⟨a, b, c, d⟩⟩) (fun J nx' D' hF a1 a2 a3 a4 a5 a6 a7 a8 a9 a10 a11 a12 => hq J 0 (by omega) (by omega) ⟨hF, Or.inr ⟨rfl, nx', D', a1, a2, a3, a4, a5, a6, a7, a8, a9, a10, a11, a12⟩⟩)
set_option maxHeartbeats 2000000 in
theorem ct_X12_readSense {kb hd s' : Int} {D : Dr} (hn : 57 ≤ n) (hFx : Fx R) (hT : TxW I) (hJT : I 41 = T) (hJN : I 32 13 = N) (hkb : 0 ≤ kb ∧ kb < 8) (hM : MI 2 hd (addS D hd)) (hR : RDr I kb D) (h0 : 0 ≤ I 32 15) (h1 : I 32 15 ≤ N) (hs' : s' = 180 * kb + (3 * hd + D 36 hd)) (hq : ∀ J f, 0 ≤ f → f ≤ 5 → rwO T N kb 2 hd (I 32 15) (addS D hd) I J f → Q (some (vi f)) (J, L, R, n)) : Wp mX12_readSense 0 [some (vr (some 32)), some (vi s'), none] [] (I, L, R, n) (0, 0) Q := by
  have hN : 0 ≤ N ∧ N ≤ 240 := by rw [← hJN]; exact ⟨hT.1, hT.2.1⟩
  have hcb := hM.hd (by omega)
  have h36 : addS D hd 36 hd = D 36 hd + 1 := addS_36h
  have hcu : cur (addS D hd) hd = 3 * hd + D 36 hd := by unfold cur; omega
  have hcur : 0 ≤ 3 * hd + D 36 hd ∧ 3 * hd + D 36 hd < 180 := by omega
  have hF1 : FrW kb I (up (up I 37 s' (-1)) 38 s' 0) := ((FrW.rf kb I).wr (by unfold tW; omega)).wr (by unfold tW; omega)
  have hR1 : RDr (up (up I 37 s' (-1)) 38 s' 0) kb (addS D hd) := by
    rw [hs']
    refine RDr_d (RDr_38 (RDr_37 hR)) (fun o k ho1 ho2 => ?_)
    unfold addS
    by_cases h38 : o = 38 ∧ k = 3 * hd + D 36 hd
    · rw [h38.1, h38.2, up_same, up_same]
    · unfold up
      rw [if_neg h38, if_neg h38]
      by_cases h37 : o = 37 ∧ k = 3 * hd + D 36 hd
      · rw [if_pos h37, if_pos h37]
      · rw [if_neg h37, if_neg h37, if_neg (by omega)]
  have e15 : up (up I 37 s' (-1)) 38 s' 0 32 15 = I 32 15 := by rw [up_o _ _ _ _ (by decide), up_o _ _ _ _ (by decide)]
  have e14 : up (up I 37 s' (-1)) 38 s' 0 32 14 = I 32 14 := by rw [up_o _ _ _ _ (by decide), up_o _ _ _ _ (by decide)]
  have hrB := sk_B (T := T) h1
  have hO1 : out T N 2 hd (I 32 15) (addS D hd) = out T N 2 hd (sk T N (I 32 15)) (addS D hd) := out_sk _ _ rfl h1
  obtain ⟨r, hr⟩ : ∃ r, r = sk T N (I 32 15) := ⟨_, rfl⟩
  rw [← hr] at hO1 hrB
  have hsg := sg_B hT hJT hJN (p := r) (by omega)
  have h68 : ∀ (K : Nat → Int → Int) (nx1 : Int) (D1 : Dr) (x2 : Option AV), FrW kb I K → K 32 14 = I 32 14 → I 32 15 ≤ K 32 15 → K 32 15 ≤ N → RDr K kb D1 → (nx1 = 2 ∨ nx1 = 5) → MI nx1 hd D1 → D1 36 = addS D hd 36 → D1 41 = addS D hd 41 → out T N 2 hd (I 32 15) (addS D hd) = out T N nx1 hd (K 32 15) D1 → (nx1 = 2 → sgE T N (sk T N (K 32 15)) ≠ 40) → Wp mX12_readSense 68 [some (vr (some 32)), some (vi s'), x2] [] (K, L, R, n) (0, 0) Q := by
    intro K nx1 D1 x2 hF k14 k0 k1 hRK hnx hM1 d36 d41 hO hno
    refine Wp.aload_n rfl dX12_readSense_68 ?_
    refine Wp.iload_n rfl dX12_readSense_69 ?_
    refine Wp.callV (As := [_]) (ls0 := [_, _, _, _, _, _]) (bd := (0, 0)) (bd' := (0, 0)) dX12_readSense_70 kmX12_readWords lkX12_141 (by decide) (by decide) (Nat.le_of_ble_eq_true rfl) (by first | rfl | exact kd_b0 _ | exact kd_b1 _ | exact kd_b2 _ | exact kd_b3 _ | exact kd_b4 _ | exact kd_b5 _ | exact kd_b6 _) (by omega) rfl rfl (Nat.le_of_ble_eq_true rfl) rfl ?_
    refine ct_rw (T := T) (N := N) hn hFx (TxW_cg hF.t.1 hF.t.2 hT) (by rw [hF.t.1]; exact hJT) (by rw [hF.t.2]; exact hJN) hkb hM1 hnx hRK (by omega) k1 (by unfold cur; rw [d36]; omega) hno (fun J f hf0 hf1 hO2 => ?_)
    show Wp _ _ _ (_ :: _) _ _ _
    refine Wp.ireturn dX12_readSense_73 rfl ?_
    first | (exfalso; omega) | (exact hq J f hf0 hf1 (rwO_tr hF k14 k0 hO d36 d41 hO2))
  refine Wp.aload_n rfl dX12_readSense_0 ?_
  refine Wp.gr (kz := 5) rfl dX12_readSense_1 fkX12_22 (by first | rfl | exact kd_b0 _ | exact kd_b1 _ | exact kd_b2 _ | exact kd_b3 _ | exact kd_b4 _ | exact kd_b5 _ | exact kd_b6 _) (by omega) (by first | exact hFx _ 5 _ rfl | assumption | exact hBk.1 | exact hBk.2.1 | exact hBk.2.2.1 | exact hBk.2.2.2.1 | exact hBk.2.2.2.2.1 | exact hBk.2.2.2.2.2) ?_
  refine Wp.iload_n rfl dX12_readSense_4 ?_
  refine Wp.iconst dX12_readSense_5 ?_
  refine Wp.iastore dX12_readSense_6 (by first | rfl | exact kd_b0 _ | exact kd_b1 _ | exact kd_b2 _ | exact kd_b3 _ | exact kd_b4 _ | exact kd_b5 _ | exact kd_b6 _) (by omega) (by omega) (by omega) ?_
  refine Wp.aload_n rfl dX12_readSense_7 ?_
  refine Wp.gr (kz := 6) rfl dX12_readSense_8 fkX12_25 (by first | rfl | exact kd_b0 _ | exact kd_b1 _ | exact kd_b2 _ | exact kd_b3 _ | exact kd_b4 _ | exact kd_b5 _ | exact kd_b6 _) (by omega) (by first | exact hFx _ 6 _ rfl | assumption | exact hBk.1 | exact hBk.2.1 | exact hBk.2.2.1 | exact hBk.2.2.2.1 | exact hBk.2.2.2.2.1 | exact hBk.2.2.2.2.2) ?_
  try simp (disch := omega) only [up_same, up_o, up_k]
  refine Wp.iload_n rfl dX12_readSense_11 ?_
  refine Wp.iconst dX12_readSense_12 ?_
  refine Wp.iastore dX12_readSense_13 (by first | rfl | exact kd_b0 _ | exact kd_b1 _ | exact kd_b2 _ | exact kd_b3 _ | exact kd_b4 _ | exact kd_b5 _ | exact kd_b6 _) (by omega) (by omega) (by omega) ?_
  generalize up (up I 37 s' (-1)) 38 s' 0 = K1 at hF1 hR1 e15 e14 ⊢
  refine Wp.aload_n rfl dX12_readSense_14 ?_
  refine Wp.callV (As := []) (ls0 := [_]) (bd := (0, 0)) (bd' := (0, 0)) dX12_readSense_15 kmX12_here lkX12_116 (by decide) (by decide) (Nat.le_of_ble_eq_true rfl) (by first | rfl | exact kd_b0 _ | exact kd_b1 _ | exact kd_b2 _ | exact kd_b3 _ | exact kd_b4 _ | exact kd_b5 _ | exact kd_b6 _) (by omega) rfl rfl (Nat.le_of_ble_eq_true rfl) rfl ?_
  refine ct_he (T := T) (N := N) hn hFx (TxW_cg hF1.t.1 hF1.t.2 hT) (by rw [hF1.t.1]; exact hJT) (by rw [hF1.t.2]; exact hJN) (by omega) (by omega) (fun K2 hF2 g14 g16 g17 g15 => ?_)
  rw [e15, ← hr] at g15 ⊢
  have hF3 := hF1.fn hF2
  have hR2 := RDr_fn hR1 hF2
  show Wp _ _ _ (_ :: _) _ _ _
  refine Wp.bipush rfl dX12_readSense_18 ?_
  refine Wp.icmp_ne (tgt := 68) dX12_readSense_20 (by decide) (by first | omega | exact bI_R _ | exact cmp_R _ _ | assumption) (by first | omega | exact bI_R _ | exact cmp_R _ _ | assumption) (fun c20 => ?_) (fun c20 => ?_)
  · first | exact h68 K2 2 (addS D hd) _ hF3 (by omega) (by omega) (by omega) hR2 (Or.inl rfl) hM rfl rfl (by rw [g15]; exact hO1) (fun _ => by rw [g15, sk_f hrB.2.2]; omega) | (have hrS2 := hrS.resolve_left (fun q => absurd q.1 (by omega)); obtain ⟨b1, b2, b3, b4⟩ := hrS2; exact h68 K8 5 _ _ hF9 (by omega) (by omega) (by omega) (RDr_fn hR7 hF8) (Or.inr rfl) (MI_nx hM4 (by omega)) (by funext k; rw [up_o _ _ _ _ (by decide)]) (by funext k; rw [up_o _ _ _ _ (by decide)]) (by rw [b4, hO4, out_cl (by omega) (by omega)]) (fun z => absurd z (by omega)))
  · refine Wp.aload_n rfl dX12_readSense_23 ?_
    first | refine Wp.dupR dX12_readSense_24 ?_ | refine Wp.dupI dX12_readSense_24 ?_
    refine Wp.gi (kz := 15) rfl dX12_readSense_25 fkX12_113 (by first | rfl | exact kd_b0 _ | exact kd_b1 _ | exact kd_b2 _ | exact kd_b3 _ | exact kd_b4 _ | exact kd_b5 _ | exact kd_b6 _) (by omega) ?_
    try simp (disch := omega) only [up_same, up_o, up_k]
    refine Wp.iconst dX12_readSense_28 ?_
    refine Wp.iadd dX12_readSense_29 ?_
    refine Wp.pi (kz := 15) rfl dX12_readSense_30 fkX12_113 (Or.inl rfl) (Or.inl rfl) (by first | rfl | exact kd_b0 _ | exact kd_b1 _ | exact kd_b2 _ | exact kd_b3 _ | exact kd_b4 _ | exact kd_b5 _ | exact kd_b6 _) (by omega) ?_
    have hF4 : FrW kb I (up K2 32 15 (K2 32 15 + 1)) := hF3.wr (by unfold tW; omega)
    have hR3 := RDr_u (k := 15) (v := K2 32 15 + 1) hR2
    have k15 : up K2 32 15 (K2 32 15 + 1) 32 15 = r + 1 := by rw [up_same, g15]
    have k14 : up K2 32 15 (K2 32 15 + 1) 32 14 = I 32 14 := by rw [up_k _ _ _ _ (by omega)]; omega
    have hO2 : out T N 2 hd (I 32 15) (addS D hd) = out T N 3 hd (sk T N (r + 1)) (addS D hd) := by rw [hO1, out_op (by omega) (by omega), out_sk _ _ rfl (by omega)]
    have hM3 : MI 3 hd (addS D hd) := MI_nx hM (by omega)
    have hpB := sk_B (T := T) (n := N) (p := r + 1) (by omega)
    obtain ⟨p, hp⟩ : ∃ p, p = sk T N (r + 1) := ⟨_, rfl⟩
    rw [← hp] at hO2 hpB
    generalize up K2 32 15 (K2 32 15 + 1) = K4 at hF4 hR3 k15 k14 ⊢
    refine Wp.aload_n rfl dX12_readSense_33 ?_
    refine Wp.iconst dX12_readSense_34 ?_
    refine Wp.callV (As := [_]) (ls0 := [_, _, _]) (bd := (0, 0)) (bd' := (0, 0)) dX12_readSense_35 kmX12_readNumber lkX12_134 (by decide) (by decide) (Nat.le_of_ble_eq_true rfl) (by first | rfl | exact kd_b0 _ | exact kd_b1 _ | exact kd_b2 _ | exact kd_b3 _ | exact kd_b4 _ | exact kd_b5 _ | exact kd_b6 _) (by omega) rfl rfl (Nat.le_of_ble_eq_true rfl) rfl ?_
    refine ct_rn (T := T) (N := N) hn hFx (TxW_cg hF4.t.1 hF4.t.2 hT) (by rw [hF4.t.1]; exact hJT) (by rw [hF4.t.2]; exact hJN) (by omega) (by omega) (by omega) (fun K5 f hf0 hf1 hF5 hrO => ?_)
    rw [k15, ← hp] at hrO
    have hF6 := hF4.fn hF5
    show Wp _ _ _ (_ :: _) _ _ _
    refine Wp.istore_n (ls' := [_, _, _]) dX12_readSense_38 (by decide) rfl ?_
    refine Wp.iload_n rfl dX12_readSense_39 ?_
    refine Wp.if_le (tgt := 45) dX12_readSense_40 (by decide) (by first | omega | exact bI_R _ | exact cmp_R _ _ | assumption) (fun c40 => ?_) (fun c40 => ?_)
    · have hrO2 := (hrO.resolve_left (fun q => absurd q.1 (by omega))).resolve_left (fun q => absurd q.1 (by omega))
      clear hrO
      obtain ⟨a1, a2, a3, a4, a5, a6, a7⟩ := hrO2
      have hd1 := dg1 a2
      have hvB := vN_ok (by omega) a2
      have hF7 : FrW kb I (up K5 37 s' (K5 32 16)) := hF6.wr (by unfold tW; omega)
      have hR7 : RDr (up K5 37 s' (K5 32 16)) kb (up (addS D hd) 37 (cur (addS D hd) hd) (vN T p (dc T N p).toNat)) := by rw [hs', a6, hcu]; exact RDr_37 (RDr_fn hR3 hF5)
      have i15 : up K5 37 s' (K5 32 16) 32 15 = p + dc T N p := by rw [up_o _ _ _ _ (by decide)]; exact a5
      have i14 : up K5 37 s' (K5 32 16) 32 14 = I 32 14 := by rw [up_o _ _ _ _ (by decide)]; omega
      have hO4 : out T N 2 hd (I 32 15) (addS D hd) = out T N 4 hd (sk T N (p + dc T N p)) (up (addS D hd) 37 (cur (addS D hd) hd) (vN T p (dc T N p).toNat)) := by rw [hO2, out_fd a2 a3, out_sk _ _ rfl (by omega)]
      have hM4 := MI_field hM3 hvB.1 (show vN T p (dc T N p).toNat < 6 by omega)
      have hqB := sk_B (T := T) (n := N) (p := p + dc T N p) (by omega)
      obtain ⟨q, hqd⟩ : ∃ q, q = sk T N (p + dc T N p) := ⟨_, rfl⟩
      rw [← hqd] at hO4 hqB
      have hsq := sg_B hT hJT hJN (p := q) (by omega)
      refine Wp.aload_n rfl dX12_readSense_45 ?_
      refine Wp.gr (kz := 5) rfl dX12_readSense_46 fkX12_22 (by first | rfl | exact kd_b0 _ | exact kd_b1 _ | exact kd_b2 _ | exact kd_b3 _ | exact kd_b4 _ | exact kd_b5 _ | exact kd_b6 _) (by omega) (by first | exact hFx _ 5 _ rfl | assumption | exact hBk.1 | exact hBk.2.1 | exact hBk.2.2.1 | exact hBk.2.2.2.1 | exact hBk.2.2.2.2.1 | exact hBk.2.2.2.2.2) ?_
      try simp (disch := omega) only [up_same, up_o, up_k]
      refine Wp.iload_n rfl dX12_readSense_49 ?_
      refine Wp.aload_n rfl dX12_readSense_50 ?_
      refine Wp.gi (kz := 16) rfl dX12_readSense_51 fkX12_131 (by first | rfl | exact kd_b0 _ | exact kd_b1 _ | exact kd_b2 _ | exact kd_b3 _ | exact kd_b4 _ | exact kd_b5 _ | exact kd_b6 _) (by omega) ?_
      try simp (disch := omega) only [up_same, up_o, up_k]
      refine Wp.iastore dX12_readSense_54 (by first | rfl | exact kd_b0 _ | exact kd_b1 _ | exact kd_b2 _ | exact kd_b3 _ | exact kd_b4 _ | exact kd_b5 _ | exact kd_b6 _) (by omega) (by omega) (by omega) ?_
      generalize up K5 37 s' (K5 32 16) = K7 at hF7 hR7 i15 i14 ⊢
      refine Wp.aload_n rfl dX12_readSense_55 ?_
      refine Wp.bipush rfl dX12_readSense_56 ?_
      refine Wp.callV (As := [_]) (ls0 := [_, _]) (bd := (0, 0)) (bd' := (0, 0)) dX12_readSense_58 kmX12_readSign lkX12_138 (by decide) (by decide) (Nat.le_of_ble_eq_true rfl) (by first | rfl | exact kd_b0 _ | exact kd_b1 _ | exact kd_b2 _ | exact kd_b3 _ | exact kd_b4 _ | exact kd_b5 _ | exact kd_b6 _) (by omega) rfl rfl (Nat.le_of_ble_eq_true rfl) rfl ?_
      refine ct_rs (T := T) (N := N) hn hFx (TxW_cg hF7.t.1 hF7.t.2 hT) (by rw [hF7.t.1]; exact hJT) (by rw [hF7.t.2]; exact hJN) (by omega) (by omega) (by omega) (fun K8 f8 hf80 hf81 hF8 hrS => ?_)
      rw [i15, ← hqd] at hrS
      have hF9 := hF7.fn hF8
      show Wp _ _ _ (_ :: _) _ _ _
      refine Wp.istore_n (ls' := [_, _, _]) dX12_readSense_61 (by decide) rfl ?_
      refine Wp.iload_n rfl dX12_readSense_62 ?_
      refine Wp.if_le (tgt := 68) dX12_readSense_63 (by decide) (by first | omega | exact bI_R _ | exact cmp_R _ _ | assumption) (fun c63 => ?_) (fun c63 => ?_)
      · first | exact h68 K2 2 (addS D hd) _ hF3 (by omega) (by omega) (by omega) hR2 (Or.inl rfl) hM rfl rfl (by rw [g15]; exact hO1) (fun _ => by rw [g15, sk_f hrB.2.2]; omega) | (have hrS2 := hrS.resolve_left (fun q => absurd q.1 (by omega)); obtain ⟨b1, b2, b3, b4⟩ := hrS2; exact h68 K8 5 _ _ hF9 (by omega) (by omega) (by omega) (RDr_fn hR7 hF8) (Or.inr rfl) (MI_nx hM4 (by omega)) (by funext k; rw [up_o _ _ _ _ (by decide)]) (by funext k; rw [up_o _ _ _ _ (by decide)]) (by rw [b4, hO4, out_cl (by omega) (by omega)]) (fun z => absurd z (by omega)))
      · refine Wp.iload_n rfl dX12_readSense_66 ?_
        refine Wp.ireturn dX12_readSense_67 rfl ?_
        rcases hrS with ⟨b1, b2, b3⟩ | ⟨b1, b2, b3, b4⟩
        · exact hq K8 f8 hf80 (by omega) ⟨hF9, Or.inl ⟨by omega, by omega, by rw [hO4, b1]; exact (out_m1 hqB.2.1 hqB.2.2 (by omega)).1, by rw [hO4, b3]; exact (out_m1 hqB.2.1 hqB.2.2 (by omega)).2⟩⟩
        · exfalso; omega
    · refine Wp.iload_n rfl dX12_readSense_43 ?_
      refine Wp.ireturn dX12_readSense_44 rfl ?_
      rcases hrO with ⟨a1, a2, a3⟩ | ⟨a1, a2, a3, a4⟩ | ⟨a1, a2, a3, a4, a5, a6, a7⟩
      · exact hq K5 f hf0 (by omega) ⟨hF6, Or.inl ⟨by omega, by omega, by rw [hO2, a1]; exact (out_n1 hpB.2.1 a2 hpB.2.2 (by omega)).1, by rw [hO2, a3]; exact (out_n1 hpB.2.1 a2 hpB.2.2 (by omega)).2⟩⟩
      · exact hq K5 f hf0 (by omega) ⟨hF6, Or.inl ⟨by omega, by omega, by rw [hO2, a1]; exact (out_n2 a2 (by omega) (by rw [if_pos rfl]; omega)).1, by rw [hO2, a4]; exact (out_n2 a2 (by omega) (by rw [if_pos rfl]; omega)).2⟩⟩
      · exfalso; omega
end

