/-! ===== the reference: promises 1, 3: reading ===== -/
/-- memory is the same but for where reading stands -/
def FrN (I J : Nat → Int → Int) : Prop := ∀ (o : Nat) (k : Int), ¬ (o = 32 ∧ 14 ≤ k ∧ k ≤ 17) → J o k = I o k
theorem FrN.rf (I : Nat → Int → Int) : FrN I I := fun _ _ _ => rfl
theorem FrN.tr {I J K : Nat → Int → Int} (h : FrN I J) (h2 : FrN J K) : FrN I K := fun o k hs => (h2 o k hs).trans (h o k hs)
theorem FrN.wr {I J : Nat → Int → Int} (h : FrN I J) {k v : Int} (hs : 14 ≤ k ∧ k ≤ 17) : FrN I (up J 32 k v) := fun o' k' hs' => by
  unfold up
  rw [if_neg (fun q => hs' (by omega))]
  exact h o' k' hs'
/-- the text of memory -/
def TxW (I : Nat → Int → Int) : Prop := 0 ≤ I 32 13 ∧ I 32 13 ≤ 240 ∧ ∀ p : Int, 0 ≤ p → p < I 32 13 → 0 ≤ I 41 p ∧ I 41 p ≤ 255
theorem FrN.t {I J : Nat → Int → Int} (h : FrN I J) : J 41 = I 41 ∧ J 32 13 = I 32 13 := ⟨funext (fun k => h 41 k (by omega)), h 32 13 (by omega)⟩
theorem TxW_cg {I J : Nat → Int → Int} (h1 : J 41 = I 41) (h2 : J 32 13 = I 32 13) (h : TxW I) : TxW J := by unfold TxW; rw [h1, h2]; exact h
/-- the sign at p; -1 at the end -/
def sgE (T : Int → Int) (n p : Int) : Int := if p < n then T p else -1
section
variable {I : Nat → Int → Int} {L : Nat → Int → BitVec 64} {R : Nat → Int → Option Nat} {n : Nat} {m : Mm} {Q : Option AV → Mm → Prop}
theorem sgE_t {T : Int → Int} {n p : Int} (h : p < n) : sgE T n p = T p := if_pos h
theorem sgE_f {T : Int → Int} {n p : Int} (h : ¬ p < n) : sgE T n p = -1 := if_neg h
theorem ct_X12_here (hn : 57 ≤ n) (hFx : Fx R) (hT : TxW I) (h0 : 0 ≤ I 32 15) (h1 : I 32 15 ≤ I 32 13) (hq : ∀ J, FrN I J → (∀ k, k ≠ 15 → J 32 k = I 32 k) → J 32 15 = sk (I 41) (I 32 13) (I 32 15) → Q (some (vi (sgE (I 41) (I 32 13) (sk (I 41) (I 32 13) (I 32 15))))) (J, L, R, n)) : Wp mX12_here 0 [some (vr (some 32))] [] (I, L, R, n) (0, 0) Q := by
  obtain ⟨hT0, hT1, hTb⟩ := hT
  have lp : ∀ (tt : Nat) (J : Nat → Int → Int), (I 32 13 - J 32 15).toNat ≤ tt → FrN I J → (∀ k, k ≠ 15 → J 32 k = I 32 k) → 0 ≤ J 32 15 → J 32 15 ≤ I 32 13 → sk (I 41) (I 32 13) (J 32 15) = sk (I 41) (I 32 13) (I 32 15) → Wp mX12_here 0 [some (vr (some 32))] [] (J, L, R, n) (0, 0) Q := by
    intro tt
    induction tt with
    | zero =>
      intro J hm hF hk g0 g1 hs
      have h13 : J 32 13 = I 32 13 := hk 13 (by omega)
      have hh := hq J hF hk (by rw [← hs, sk_f (by omega)])
      rw [← hs, sk_f (by omega)] at hh
      refine Wp.aload_n rfl dX12_here_0 ?_
      refine Wp.gi (kz := 15) rfl dX12_here_1 fkX12_113 (by first | rfl | exact kd_b0 _ | exact kd_b1 _ | exact kd_b2 _ | exact kd_b3 _ | exact kd_b4 _ | exact kd_b5 _ | exact kd_b6 _) (by omega) ?_
      refine Wp.aload_n rfl dX12_here_4 ?_
      refine Wp.gi (kz := 13) rfl dX12_here_5 fkX12_108 (by first | rfl | exact kd_b0 _ | exact kd_b1 _ | exact kd_b2 _ | exact kd_b3 _ | exact kd_b4 _ | exact kd_b5 _ | exact kd_b6 _) (by omega) ?_
      refine Wp.icmp_ge (tgt := 38) dX12_here_8 (by decide) (by first | omega | exact bI_R _ | exact cmp_R _ _ | assumption) (by first | omega | exact bI_R _ | exact cmp_R _ _ | assumption) (fun c8 => ?_) (fun c8 => ?_)
      · refine Wp.aload_n rfl dX12_here_38 ?_
        refine Wp.gi (kz := 15) rfl dX12_here_39 fkX12_113 (by first | rfl | exact kd_b0 _ | exact kd_b1 _ | exact kd_b2 _ | exact kd_b3 _ | exact kd_b4 _ | exact kd_b5 _ | exact kd_b6 _) (by omega) ?_
        refine Wp.aload_n rfl dX12_here_42 ?_
        refine Wp.gi (kz := 13) rfl dX12_here_43 fkX12_108 (by first | rfl | exact kd_b0 _ | exact kd_b1 _ | exact kd_b2 _ | exact kd_b3 _ | exact kd_b4 _ | exact kd_b5 _ | exact kd_b6 _) (by omega) ?_
        refine Wp.icmp_ge (tgt := 61) dX12_here_46 (by decide) (by first | omega | exact bI_R _ | exact cmp_R _ _ | assumption) (by first | omega | exact bI_R _ | exact cmp_R _ _ | assumption) (fun c46 => ?_) (fun c46 => ?_)
        · refine Wp.iconst dX12_here_61 ?_
          refine Wp.ireturn dX12_here_62 rfl ?_
          first | (exfalso; omega) | (exact qI hh (by rw [sgE_f (by omega)]))
        · exfalso; omega
      · exfalso; omega
    | succ tt ih =>
      intro J hm hF hk g0 g1 hs
      have h13 : J 32 13 = I 32 13 := hk 13 (by omega)
      have h41 : J 41 (J 32 15) = I 41 (J 32 15) := hF 41 _ (by omega)
      have hb : J 32 15 < I 32 13 → 0 ≤ I 41 (J 32 15) ∧ I 41 (J 32 15) ≤ 255 := fun h => hTb _ g0 h
      have hh : ¬ (J 32 15 < I 32 13 ∧ I 41 (J 32 15) = 32) → ∀ v, v = sgE (I 41) (I 32 13) (J 32 15) → Q (some (vi v)) (J, L, R, n) := fun hc v hv => by
        have h2 := hq J hF hk (by rw [← hs, sk_f hc])
        rw [← hs, sk_f hc, ← hv] at h2
        exact h2
      refine Wp.aload_n rfl dX12_here_0 ?_
      refine Wp.gi (kz := 15) rfl dX12_here_1 fkX12_113 (by first | rfl | exact kd_b0 _ | exact kd_b1 _ | exact kd_b2 _ | exact kd_b3 _ | exact kd_b4 _ | exact kd_b5 _ | exact kd_b6 _) (by omega) ?_
      refine Wp.aload_n rfl dX12_here_4 ?_
      refine Wp.gi (kz := 13) rfl dX12_here_5 fkX12_108 (by first | rfl | exact kd_b0 _ | exact kd_b1 _ | exact kd_b2 _ | exact kd_b3 _ | exact kd_b4 _ | exact kd_b5 _ | exact kd_b6 _) (by omega) ?_
      refine Wp.icmp_ge (tgt := 38) dX12_here_8 (by decide) (by first | omega | exact bI_R _ | exact cmp_R _ _ | assumption) (by first | omega | exact bI_R _ | exact cmp_R _ _ | assumption) (fun c8 => ?_) (fun c8 => ?_)
      · refine Wp.aload_n rfl dX12_here_38 ?_
        refine Wp.gi (kz := 15) rfl dX12_here_39 fkX12_113 (by first | rfl | exact kd_b0 _ | exact kd_b1 _ | exact kd_b2 _ | exact kd_b3 _ | exact kd_b4 _ | exact kd_b5 _ | exact kd_b6 _) (by omega) ?_
        refine Wp.aload_n rfl dX12_here_42 ?_
        refine Wp.gi (kz := 13) rfl dX12_here_43 fkX12_108 (by first | rfl | exact kd_b0 _ | exact kd_b1 _ | exact kd_b2 _ | exact kd_b3 _ | exact kd_b4 _ | exact kd_b5 _ | exact kd_b6 _) (by omega) ?_
        refine Wp.icmp_ge (tgt := 61) dX12_here_46 (by decide) (by first | omega | exact bI_R _ | exact cmp_R _ _ | assumption) (by first | omega | exact bI_R _ | exact cmp_R _ _ | assumption) (fun c46 => ?_) (fun c46 => ?_)
        · refine Wp.iconst dX12_here_61 ?_
          refine Wp.ireturn dX12_here_62 rfl ?_
          first | (exfalso; omega) | (first | exact hh (by omega) _ (by rw [sgE_t (by omega)]; exact h41) | exact hh (by omega) _ (by rw [sgE_f (by omega)]))
        · refine Wp.aload_n rfl dX12_here_49 ?_
          refine Wp.gr (kz := 12) rfl dX12_here_50 fkX12_46 (by first | rfl | exact kd_b0 _ | exact kd_b1 _ | exact kd_b2 _ | exact kd_b3 _ | exact kd_b4 _ | exact kd_b5 _ | exact kd_b6 _) (by omega) (by first | exact hFx _ 12 _ rfl | assumption | exact hBk.1 | exact hBk.2.1 | exact hBk.2.2.1 | exact hBk.2.2.2.1 | exact hBk.2.2.2.2.1 | exact hBk.2.2.2.2.2) ?_
          refine Wp.aload_n rfl dX12_here_53 ?_
          refine Wp.gi (kz := 15) rfl dX12_here_54 fkX12_113 (by first | rfl | exact kd_b0 _ | exact kd_b1 _ | exact kd_b2 _ | exact kd_b3 _ | exact kd_b4 _ | exact kd_b5 _ | exact kd_b6 _) (by omega) ?_
          refine Wp.iaload dX12_here_57 (by first | rfl | exact kd_b0 _ | exact kd_b1 _ | exact kd_b2 _ | exact kd_b3 _ | exact kd_b4 _ | exact kd_b5 _ | exact kd_b6 _) (by omega) (by omega) (by omega) ?_
          refine Wp.goto (tgt := 62) dX12_here_58 (by decide) ?_
          refine Wp.ireturn dX12_here_62 rfl ?_
          first | (exfalso; omega) | (first | exact hh (by omega) _ (by rw [sgE_t (by omega)]; exact h41) | exact hh (by omega) _ (by rw [sgE_f (by omega)]))
      · refine Wp.aload_n rfl dX12_here_11 ?_
        refine Wp.gr (kz := 12) rfl dX12_here_12 fkX12_46 (by first | rfl | exact kd_b0 _ | exact kd_b1 _ | exact kd_b2 _ | exact kd_b3 _ | exact kd_b4 _ | exact kd_b5 _ | exact kd_b6 _) (by omega) (by first | exact hFx _ 12 _ rfl | assumption | exact hBk.1 | exact hBk.2.1 | exact hBk.2.2.1 | exact hBk.2.2.2.1 | exact hBk.2.2.2.2.1 | exact hBk.2.2.2.2.2) ?_
        refine Wp.aload_n rfl dX12_here_15 ?_
        refine Wp.gi (kz := 15) rfl dX12_here_16 fkX12_113 (by first | rfl | exact kd_b0 _ | exact kd_b1 _ | exact kd_b2 _ | exact kd_b3 _ | exact kd_b4 _ | exact kd_b5 _ | exact kd_b6 _) (by omega) ?_
        refine Wp.iaload dX12_here_19 (by first | rfl | exact kd_b0 _ | exact kd_b1 _ | exact kd_b2 _ | exact kd_b3 _ | exact kd_b4 _ | exact kd_b5 _ | exact kd_b6 _) (by omega) (by omega) (by omega) ?_
        refine Wp.bipush rfl dX12_here_20 ?_
        refine Wp.icmp_ne (tgt := 38) dX12_here_22 (by decide) (by first | omega | exact bI_R _ | exact cmp_R _ _ | assumption) (by first | omega | exact bI_R _ | exact cmp_R _ _ | assumption) (fun c22 => ?_) (fun c22 => ?_)
        · refine Wp.aload_n rfl dX12_here_38 ?_
          refine Wp.gi (kz := 15) rfl dX12_here_39 fkX12_113 (by first | rfl | exact kd_b0 _ | exact kd_b1 _ | exact kd_b2 _ | exact kd_b3 _ | exact kd_b4 _ | exact kd_b5 _ | exact kd_b6 _) (by omega) ?_
          refine Wp.aload_n rfl dX12_here_42 ?_
          refine Wp.gi (kz := 13) rfl dX12_here_43 fkX12_108 (by first | rfl | exact kd_b0 _ | exact kd_b1 _ | exact kd_b2 _ | exact kd_b3 _ | exact kd_b4 _ | exact kd_b5 _ | exact kd_b6 _) (by omega) ?_
          refine Wp.icmp_ge (tgt := 61) dX12_here_46 (by decide) (by first | omega | exact bI_R _ | exact cmp_R _ _ | assumption) (by first | omega | exact bI_R _ | exact cmp_R _ _ | assumption) (fun c46 => ?_) (fun c46 => ?_)
          · refine Wp.iconst dX12_here_61 ?_
            refine Wp.ireturn dX12_here_62 rfl ?_
            first | (exfalso; omega) | (first | exact hh (by omega) _ (by rw [sgE_t (by omega)]; exact h41) | exact hh (by omega) _ (by rw [sgE_f (by omega)]))
          · refine Wp.aload_n rfl dX12_here_49 ?_
            refine Wp.gr (kz := 12) rfl dX12_here_50 fkX12_46 (by first | rfl | exact kd_b0 _ | exact kd_b1 _ | exact kd_b2 _ | exact kd_b3 _ | exact kd_b4 _ | exact kd_b5 _ | exact kd_b6 _) (by omega) (by first | exact hFx _ 12 _ rfl | assumption | exact hBk.1 | exact hBk.2.1 | exact hBk.2.2.1 | exact hBk.2.2.2.1 | exact hBk.2.2.2.2.1 | exact hBk.2.2.2.2.2) ?_
            refine Wp.aload_n rfl dX12_here_53 ?_
            refine Wp.gi (kz := 15) rfl dX12_here_54 fkX12_113 (by first | rfl | exact kd_b0 _ | exact kd_b1 _ | exact kd_b2 _ | exact kd_b3 _ | exact kd_b4 _ | exact kd_b5 _ | exact kd_b6 _) (by omega) ?_
            refine Wp.iaload dX12_here_57 (by first | rfl | exact kd_b0 _ | exact kd_b1 _ | exact kd_b2 _ | exact kd_b3 _ | exact kd_b4 _ | exact kd_b5 _ | exact kd_b6 _) (by omega) (by omega) (by omega) ?_
            refine Wp.goto (tgt := 62) dX12_here_58 (by decide) ?_
            refine Wp.ireturn dX12_here_62 rfl ?_
            first | (exfalso; omega) | (first | exact hh (by omega) _ (by rw [sgE_t (by omega)]; exact h41) | exact hh (by omega) _ (by rw [sgE_f (by omega)]))
        · refine Wp.aload_n rfl dX12_here_25 ?_
          first | refine Wp.dupR dX12_here_26 ?_ | refine Wp.dupI dX12_here_26 ?_
          refine Wp.gi (kz := 15) rfl dX12_here_27 fkX12_113 (by first | rfl | exact kd_b0 _ | exact kd_b1 _ | exact kd_b2 _ | exact kd_b3 _ | exact kd_b4 _ | exact kd_b5 _ | exact kd_b6 _) (by omega) ?_
          refine Wp.iconst dX12_here_30 ?_
          refine Wp.iadd dX12_here_31 ?_
          refine Wp.pi (kz := 15) rfl dX12_here_32 fkX12_113 (Or.inl rfl) (Or.inl rfl) (by first | rfl | exact kd_b0 _ | exact kd_b1 _ | exact kd_b2 _ | exact kd_b3 _ | exact kd_b4 _ | exact kd_b5 _ | exact kd_b6 _) (by omega) ?_
          refine Wp.goto (tgt := 0) dX12_here_35 (by decide) ?_
          refine ih _ (by rw [up_same]; omega) (hF.wr (by omega)) (fun k hk' => by rw [up_k _ _ _ _ hk']; exact hk k hk') (by rw [up_same]; omega) (by rw [up_same]; omega) ?_
          rw [up_same, ← hs, sk_t (p := J 32 15) ⟨by omega, by omega⟩]
  exact lp (I 32 13 - I 32 15).toNat I (Nat.le_refl _) (FrN.rf I) (fun _ _ => rfl) h0 h1 rfl
theorem ct_X12_fails {f p : Int} (hn : 57 ≤ n) (hq : Q (some (vi f)) (up I 32 14 p, L, R, n)) : Wp mX12_fails 0 [some (vr (some 32)), some (vi f), some (vi p)] [] (I, L, R, n) (0, 0) Q := by
  refine Wp.aload_n rfl dX12_fails_0 ?_
  refine Wp.iload_n rfl dX12_fails_1 ?_
  refine Wp.pi (kz := 14) rfl dX12_fails_2 fkX12_49 (Or.inl rfl) (Or.inl rfl) (by first | rfl | exact kd_b0 _ | exact kd_b1 _ | exact kd_b2 _ | exact kd_b3 _ | exact kd_b4 _ | exact kd_b5 _ | exact kd_b6 _) (by omega) ?_
  refine Wp.iload_n rfl dX12_fails_5 ?_
  refine Wp.ireturn dX12_fails_6 rfl ?_
  first | exact hq | (exfalso; omega) | exact qI hq (by omega)
theorem ct_X12_readSign {c : Int} (hn : 57 ≤ n) (hFx : Fx R) (hT : TxW I) (hc : 0 ≤ c ∧ c ≤ 255) (h0 : 0 ≤ I 32 15) (h1 : I 32 15 ≤ I 32 13) (hf : ∀ J, FrN I J → sgE (I 41) (I 32 13) (sk (I 41) (I 32 13) (I 32 15)) ≠ c → J 32 14 = sk (I 41) (I 32 13) (I 32 15) → Q (some (vi 1)) (J, L, R, n)) (hq : ∀ J, FrN I J → sgE (I 41) (I 32 13) (sk (I 41) (I 32 13) (I 32 15)) = c → J 32 14 = I 32 14 → J 32 15 = sk (I 41) (I 32 13) (I 32 15) + 1 → Q (some (vi 0)) (J, L, R, n)) : Wp mX12_readSign 0 [some (vr (some 32)), some (vi c)] [] (I, L, R, n) (0, 0) Q := by
  have hB := sk_B (T := I 41) h1
  have hb : sk (I 41) (I 32 13) (I 32 15) < I 32 13 → 0 ≤ I 41 (sk (I 41) (I 32 13) (I 32 15)) ∧ I 41 (sk (I 41) (I 32 13) (I 32 15)) ≤ 255 := fun h => hT.2.2 _ (by omega) h
  have hs : -1 ≤ sgE (I 41) (I 32 13) (sk (I 41) (I 32 13) (I 32 15)) ∧ sgE (I 41) (I 32 13) (sk (I 41) (I 32 13) (I 32 15)) ≤ 255 := by unfold sgE; split <;> omega
  refine Wp.aload_n rfl dX12_readSign_0 ?_
  refine Wp.callV (As := []) (ls0 := [_]) (bd := (0, 0)) (bd' := (0, 0)) dX12_readSign_1 kmX12_here lkX12_116 (by decide) (by decide) (Nat.le_of_ble_eq_true rfl) (by first | rfl | exact kd_b0 _ | exact kd_b1 _ | exact kd_b2 _ | exact kd_b3 _ | exact kd_b4 _ | exact kd_b5 _ | exact kd_b6 _) (by omega) rfl rfl (Nat.le_of_ble_eq_true rfl) rfl ?_
  refine ct_X12_here hn hFx hT h0 h1 (fun J hF hk h15 => ?_)
  show Wp _ _ _ (_ :: _) _ _ _
  refine Wp.iload_n rfl dX12_readSign_4 ?_
  refine Wp.icmp_eq (tgt := 18) dX12_readSign_5 (by decide) (by first | omega | exact bI_R _ | exact cmp_R _ _ | assumption) (by first | omega | exact bI_R _ | exact cmp_R _ _ | assumption) (fun c5 => ?_) (fun c5 => ?_)
  · refine Wp.aload_n rfl dX12_readSign_18 ?_
    first | refine Wp.dupR dX12_readSign_19 ?_ | refine Wp.dupI dX12_readSign_19 ?_
    refine Wp.gi (kz := 15) rfl dX12_readSign_20 fkX12_113 (by first | rfl | exact kd_b0 _ | exact kd_b1 _ | exact kd_b2 _ | exact kd_b3 _ | exact kd_b4 _ | exact kd_b5 _ | exact kd_b6 _) (by omega) ?_
    refine Wp.iconst dX12_readSign_23 ?_
    refine Wp.iadd dX12_readSign_24 ?_
    refine Wp.pi (kz := 15) rfl dX12_readSign_25 fkX12_113 (Or.inl rfl) (Or.inl rfl) (by first | rfl | exact kd_b0 _ | exact kd_b1 _ | exact kd_b2 _ | exact kd_b3 _ | exact kd_b4 _ | exact kd_b5 _ | exact kd_b6 _) (by omega) ?_
    refine Wp.iconst dX12_readSign_28 ?_
    refine Wp.ireturn dX12_readSign_29 rfl ?_
    first | (exfalso; omega) | (exact hq _ (hF.wr (by omega)) (by omega) (by rw [up_k _ _ _ _ (by omega)]; exact hk 14 (by omega)) (by rw [up_same, h15]))
  · refine Wp.aload_n rfl dX12_readSign_8 ?_
    refine Wp.iconst dX12_readSign_9 ?_
    refine Wp.aload_n rfl dX12_readSign_10 ?_
    refine Wp.gi (kz := 15) rfl dX12_readSign_11 fkX12_113 (by first | rfl | exact kd_b0 _ | exact kd_b1 _ | exact kd_b2 _ | exact kd_b3 _ | exact kd_b4 _ | exact kd_b5 _ | exact kd_b6 _) (by omega) ?_
    refine Wp.callV (As := [_, _]) (ls0 := [_, _, _]) (bd := (0, 0)) (bd' := (0, 0)) dX12_readSign_14 kmX12_fails lkX12_124 (by decide) (by decide) (Nat.le_of_ble_eq_true rfl) (by first | rfl | exact kd_b0 _ | exact kd_b1 _ | exact kd_b2 _ | exact kd_b3 _ | exact kd_b4 _ | exact kd_b5 _ | exact kd_b6 _) (by omega) rfl rfl (Nat.le_of_ble_eq_true rfl) rfl ?_
    refine ct_X12_fails hn ?_
    show Wp _ _ _ (_ :: _) _ _ _
    refine Wp.ireturn dX12_readSign_17 rfl ?_
    first | (exfalso; omega) | (exact hf _ (hF.wr (by omega)) (by omega) (by rw [up_same]; exact h15))
end

