/-! ===== the reference: promises 26, 27 ===== -/
theorem anyS_t {p : Nat → Bool} {k : Nat} (h : anyB p k = true ∨ p k = true) : (1 : Int) = bI (anyB p (k + 1) = true) := by
  rw [bI_t]; simp only [anyB, Bool.or_eq_true]; exact h
theorem anyS_f {p : Nat → Bool} {k : Nat} (h : ¬ anyB p k = true) (h2 : ¬ p k = true) : (0 : Int) = bI (anyB p (k + 1) = true) := by
  rw [bI_f]; simp only [anyB, Bool.or_eq_true]; exact fun q => q.elim h h2
/-- a chain so far: how many tongues, the second, the third -/
abbrev CS : Type := Int × Int × Int
def fcZ (ld : Int → Int → Bool) (a b x y : Int) : Int := if ld a b = true then 2 else if ld a x = true ∧ ld x b = true then 3 else if ld a x = true ∧ ld x y = true ∧ ld y b = true then 4 else 0
def fcS (ld : Int → Int → Bool) (a b : Int) (s : CS) (x y : Int) : CS := if 0 < fcZ ld a b x y ∧ (s.1 = 0 ∨ fcZ ld a b x y < s.1) then (fcZ ld a b x y, if fcZ ld a b x y = 2 then b else x, if fcZ ld a b x y = 3 then b else y) else s
def fcY (ld : Int → Int → Bool) (a b : Int) (s : CS) (x : Int) : Nat → CS
  | 0 => s
  | y + 1 => fcS ld a b (fcY ld a b s x y) x y
def fcX (ld : Int → Int → Bool) (a b : Int) : Nat → CS
  | 0 => (0, 0, 0)
  | x + 1 => fcY ld a b (fcX ld a b x) x 4
def chS (ld : Int → Int → Bool) (a b : Int) : CS := fcX ld a b 4
/-- the i-th tongue of a chain -/
def chAt (a b : Int) (s : CS) (i : Int) : Int := if i = 0 then a else if i = 1 then s.2.1 else if i = 2 then s.2.2 else b
def aChain (ld : Int → Int → Bool) (a b i : Int) : Int := if tgP a ∧ tgP b then (if a = b then -1002 else if i = -1 then (if (chS ld a b).1 = 0 then -1 else (chS ld a b).1) else if 0 ≤ i ∧ i < (chS ld a b).1 then chAt a b (chS ld a b) i else -1) else -1001
theorem fcZ_B (ld : Int → Int → Bool) (a b x y : Int) : 0 ≤ fcZ ld a b x y ∧ fcZ ld a b x y ≤ 4 := by unfold fcZ; (repeat' split) <;> omega
def csOk (s : CS) : Prop := 0 ≤ s.1 ∧ s.1 ≤ 4 ∧ 0 ≤ s.2.1 ∧ s.2.1 ≤ 3 ∧ 0 ≤ s.2.2 ∧ s.2.2 ≤ 3
theorem fcS_ok {ld : Int → Int → Bool} {a b : Int} {s : CS} {x y : Int} (hb : tgP b) (hx : tgP x) (hy : tgP y) (h : csOk s) : csOk (fcS ld a b s x y) := by
  have hz := fcZ_B ld a b x y
  unfold fcS
  split
  · unfold csOk; dsimp only; (repeat' split) <;> omega
  · exact h
theorem fcY_ok {ld : Int → Int → Bool} {a b : Int} {s : CS} {x : Int} (hb : tgP b) (hx : tgP x) (h : csOk s) : ∀ k : Nat, k ≤ 4 → csOk (fcY ld a b s x k)
  | 0, _ => h
  | k + 1, hk => fcS_ok hb hx ⟨by omega, by omega⟩ (fcY_ok hb hx h k (by omega))
theorem fcX_ok {ld : Int → Int → Bool} {a b : Int} (hb : tgP b) : ∀ k : Nat, k ≤ 4 → csOk (fcX ld a b k)
  | 0, _ => by unfold csOk; simp [fcX]
  | k + 1, hk => fcY_ok hb ⟨by omega, by omega⟩ (fcX_ok hb k (by omega)) 4 (by omega)
section
variable {I : Nat → Int → Int} {L : Nat → Int → BitVec 64} {R : Nat → Int → Option Nat} {n : Nat} {m : Mm} {Q : Option AV → Mm → Prop}
theorem ldB_cg {J : Nat → Int → Int} (h : SE I J) (lk a b : Int) : ldB J lk a b = ldB I lk a b := by
  unfold ldB
  simp only [h.1 35 (by omega) (by omega), h.1 33 (by omega) (by omega), h.1 34 (by omega) (by omega), h.2.1, h.2.2.1]
theorem hsB_cg {J : Nat → Int → Int} (h : SE I J) (lk a w : Int) : hsB J lk a w = hsB I lk a w := by
  unfold hsB
  simp only [h.1 35 (by omega) (by omega), h.1 33 (by omega) (by omega), h.1 36 (by omega) (by omega), h.2.1, h.2.2.1]
theorem ct_X12_leads {a b : Int} (hn : 57 ≤ n) (hFx : Fx R) (hW : RW I) (ha : inR a) (hb : inR b) (hq : Q (some (vi (bI (ldB I (I 32 11) a b = true)))) (I, L, R, n)) : Wp mX12_leads 0 [some (vr (some 32)), some (vi a), some (vi b), none, none] [] (I, L, R, n) (0, 0) Q := by
  have hN0 := hW.1
  have hN1 := hW.2.1
  have hT0 := hW.2.2.1
  have hT1 := hW.2.2.2.1
  unfold ldB at hq
  have lp : ∀ (tt k : Nat) (z : Int) (x : Int), k + tt = (I 32 0).toNat → z = k → x = bI (anyB (fun j => decide (bitI (I 32 11) j ∧ I 35 j ≤ I 32 9 ∧ I 33 j = a ∧ I 34 j = b)) k = true) → Wp mX12_leads 5 [some (vr (some 32)), some (vi a), some (vi b), some (vi x), some (vi z)] [] (I, L, R, n) (0, 0) Q := by
    intro tt
    induction tt with
    | zero =>
      intro k z x hkt hz e0
      obtain rfl : k = (I 32 0).toNat := by omega
      refine Wp.iload rfl dX12_leads_5 ?_
      refine Wp.aload_n rfl dX12_leads_7 ?_
      refine Wp.gi (kz := 0) rfl dX12_leads_8 fkX12_153 (by first | rfl | exact kd_b0 _ | exact kd_b1 _ | exact kd_b2 _ | exact kd_b3 _ | exact kd_b4 _ | exact kd_b5 _ | exact kd_b6 _) (by omega) ?_
      refine Wp.icmp_ge (tgt := 61) dX12_leads_11 (by decide) (by first | omega | exact bI_R _ | exact cmp_R _ _ | assumption) (by first | omega | exact bI_R _ | exact cmp_R _ _ | assumption) (fun c11 => ?_) (fun c11 => ?_)
      · refine Wp.iload_n rfl dX12_leads_61 ?_
        refine Wp.zreturn dX12_leads_62 rfl (by rw [e0]; exact bI_01 _) ?_
        first | (exfalso; omega) | (exact qI hq e0)
      · exfalso; omega
    | succ tt ih =>
      intro k z x hkt hz e0
      subst hz
      subst e0
      have hzb := hW.b (show (0 : Int) ≤ k by omega) (by omega)
      refine Wp.iload rfl dX12_leads_5 ?_
      refine Wp.aload_n rfl dX12_leads_7 ?_
      refine Wp.gi (kz := 0) rfl dX12_leads_8 fkX12_153 (by first | rfl | exact kd_b0 _ | exact kd_b1 _ | exact kd_b2 _ | exact kd_b3 _ | exact kd_b4 _ | exact kd_b5 _ | exact kd_b6 _) (by omega) ?_
      refine Wp.icmp_ge (tgt := 61) dX12_leads_11 (by decide) (by first | omega | exact bI_R _ | exact cmp_R _ _ | assumption) (by first | omega | exact bI_R _ | exact cmp_R _ _ | assumption) (fun c11 => ?_) (fun c11 => ?_)
      · exfalso; omega
      · refine Wp.iload_n rfl dX12_leads_14 ?_
        refine Wp.if_neB (tgt := 49) dX12_leads_15 (by decide) (fun c15 => ?_) (fun c15 => ?_)
        · refine Wp.iconst dX12_leads_49 ?_
          refine Wp.goto (tgt := 54) dX12_leads_50 (by decide) ?_
          refine Wp.istore_n (ls' := [_, _, _, _, _]) dX12_leads_54 (by decide) rfl ?_
          refine Wp.iinc (ls' := [_, _, _, _, _]) rfl dX12_leads_55 (by decide) rfl ?_
          refine Wp.goto (tgt := 5) dX12_leads_58 (by decide) ?_
          first | exact ih (k + 1) _ _ (by omega) (by omega) (anyS_t (Or.inl c15)) | exact ih (k + 1) _ _ (by omega) (by omega) (anyS_t (Or.inr (decide_eq_true ⟨c24.1, c24.2, c35, c46⟩))) | exact ih (k + 1) _ _ (by omega) (by omega) (anyS_f c15 (fun q => c24 ⟨(of_decide_eq_true q).1, (of_decide_eq_true q).2.1⟩)) | exact ih (k + 1) _ _ (by omega) (by omega) (anyS_f c15 (fun q => c35 (of_decide_eq_true q).2.2.1)) | exact ih (k + 1) _ _ (by omega) (by omega) (anyS_f c15 (fun q => c46 (of_decide_eq_true q).2.2.2)) | (exfalso; omega)
        · refine Wp.aload_n rfl dX12_leads_18 ?_
          refine Wp.iload rfl dX12_leads_19 ?_
          refine Wp.callV (As := [_]) (ls0 := [_, _]) (bd := (0, 0)) (bd' := (0, 0)) dX12_leads_21 kmX12_isBook lkX12_168 (by decide) (by decide) (Nat.le_of_ble_eq_true rfl) (by first | rfl | exact kd_b0 _ | exact kd_b1 _ | exact kd_b2 _ | exact kd_b3 _ | exact kd_b4 _ | exact kd_b5 _ | exact kd_b6 _) (by omega) rfl rfl (Nat.le_of_ble_eq_true rfl) rfl ?_
          refine ct_X12_isBook hn hFx (by omega) (by omega) (by omega) ?_
          show Wp _ _ _ (_ :: _) _ _ _
          refine Wp.if_eqB (tgt := 53) dX12_leads_24 (by decide) (fun c24 => ?_) (fun c24 => ?_)
          · refine Wp.iconst dX12_leads_53 ?_
            refine Wp.istore_n (ls' := [_, _, _, _, _]) dX12_leads_54 (by decide) rfl ?_
            refine Wp.iinc (ls' := [_, _, _, _, _]) rfl dX12_leads_55 (by decide) rfl ?_
            refine Wp.goto (tgt := 5) dX12_leads_58 (by decide) ?_
            first | exact ih (k + 1) _ _ (by omega) (by omega) (anyS_t (Or.inl c15)) | exact ih (k + 1) _ _ (by omega) (by omega) (anyS_t (Or.inr (decide_eq_true ⟨c24.1, c24.2, c35, c46⟩))) | exact ih (k + 1) _ _ (by omega) (by omega) (anyS_f c15 (fun q => c24 ⟨(of_decide_eq_true q).1, (of_decide_eq_true q).2.1⟩)) | exact ih (k + 1) _ _ (by omega) (by omega) (anyS_f c15 (fun q => c35 (of_decide_eq_true q).2.2.1)) | exact ih (k + 1) _ _ (by omega) (by omega) (anyS_f c15 (fun q => c46 (of_decide_eq_true q).2.2.2)) | (exfalso; omega)
          · refine Wp.aload_n rfl dX12_leads_27 ?_
            refine Wp.gr (kz := 1) rfl dX12_leads_28 fkX12_7 (by first | rfl | exact kd_b0 _ | exact kd_b1 _ | exact kd_b2 _ | exact kd_b3 _ | exact kd_b4 _ | exact kd_b5 _ | exact kd_b6 _) (by omega) (by first | exact hFx _ 1 _ rfl | assumption | exact hBk.1 | exact hBk.2.1 | exact hBk.2.2.1 | exact hBk.2.2.2.1 | exact hBk.2.2.2.2.1 | exact hBk.2.2.2.2.2) ?_
            refine Wp.iload rfl dX12_leads_31 ?_
            refine Wp.iaload dX12_leads_33 (by first | rfl | exact kd_b0 _ | exact kd_b1 _ | exact kd_b2 _ | exact kd_b3 _ | exact kd_b4 _ | exact kd_b5 _ | exact kd_b6 _) (by omega) (by omega) (by omega) ?_
            refine Wp.iload_n rfl dX12_leads_34 ?_
            refine Wp.icmp_ne (tgt := 53) dX12_leads_35 (by decide) (by first | omega | exact bI_R _ | exact cmp_R _ _ | assumption) (by first | omega | exact bI_R _ | exact cmp_R _ _ | assumption) (fun c35 => ?_) (fun c35 => ?_)
            · refine Wp.iconst dX12_leads_53 ?_
              refine Wp.istore_n (ls' := [_, _, _, _, _]) dX12_leads_54 (by decide) rfl ?_
              refine Wp.iinc (ls' := [_, _, _, _, _]) rfl dX12_leads_55 (by decide) rfl ?_
              refine Wp.goto (tgt := 5) dX12_leads_58 (by decide) ?_
              first | exact ih (k + 1) _ _ (by omega) (by omega) (anyS_t (Or.inl c15)) | exact ih (k + 1) _ _ (by omega) (by omega) (anyS_t (Or.inr (decide_eq_true ⟨c24.1, c24.2, c35, c46⟩))) | exact ih (k + 1) _ _ (by omega) (by omega) (anyS_f c15 (fun q => c24 ⟨(of_decide_eq_true q).1, (of_decide_eq_true q).2.1⟩)) | exact ih (k + 1) _ _ (by omega) (by omega) (anyS_f c15 (fun q => c35 (of_decide_eq_true q).2.2.1)) | exact ih (k + 1) _ _ (by omega) (by omega) (anyS_f c15 (fun q => c46 (of_decide_eq_true q).2.2.2)) | (exfalso; omega)
            · refine Wp.aload_n rfl dX12_leads_38 ?_
              refine Wp.gr (kz := 2) rfl dX12_leads_39 fkX12_13 (by first | rfl | exact kd_b0 _ | exact kd_b1 _ | exact kd_b2 _ | exact kd_b3 _ | exact kd_b4 _ | exact kd_b5 _ | exact kd_b6 _) (by omega) (by first | exact hFx _ 2 _ rfl | assumption | exact hBk.1 | exact hBk.2.1 | exact hBk.2.2.1 | exact hBk.2.2.2.1 | exact hBk.2.2.2.2.1 | exact hBk.2.2.2.2.2) ?_
              refine Wp.iload rfl dX12_leads_42 ?_
              refine Wp.iaload dX12_leads_44 (by first | rfl | exact kd_b0 _ | exact kd_b1 _ | exact kd_b2 _ | exact kd_b3 _ | exact kd_b4 _ | exact kd_b5 _ | exact kd_b6 _) (by omega) (by omega) (by omega) ?_
              refine Wp.iload_n rfl dX12_leads_45 ?_
              refine Wp.icmp_ne (tgt := 53) dX12_leads_46 (by decide) (by first | omega | exact bI_R _ | exact cmp_R _ _ | assumption) (by first | omega | exact bI_R _ | exact cmp_R _ _ | assumption) (fun c46 => ?_) (fun c46 => ?_)
              · refine Wp.iconst dX12_leads_53 ?_
                refine Wp.istore_n (ls' := [_, _, _, _, _]) dX12_leads_54 (by decide) rfl ?_
                refine Wp.iinc (ls' := [_, _, _, _, _]) rfl dX12_leads_55 (by decide) rfl ?_
                refine Wp.goto (tgt := 5) dX12_leads_58 (by decide) ?_
                first | exact ih (k + 1) _ _ (by omega) (by omega) (anyS_t (Or.inl c15)) | exact ih (k + 1) _ _ (by omega) (by omega) (anyS_t (Or.inr (decide_eq_true ⟨c24.1, c24.2, c35, c46⟩))) | exact ih (k + 1) _ _ (by omega) (by omega) (anyS_f c15 (fun q => c24 ⟨(of_decide_eq_true q).1, (of_decide_eq_true q).2.1⟩)) | exact ih (k + 1) _ _ (by omega) (by omega) (anyS_f c15 (fun q => c35 (of_decide_eq_true q).2.2.1)) | exact ih (k + 1) _ _ (by omega) (by omega) (anyS_f c15 (fun q => c46 (of_decide_eq_true q).2.2.2)) | (exfalso; omega)
              · refine Wp.iconst dX12_leads_49 ?_
                refine Wp.goto (tgt := 54) dX12_leads_50 (by decide) ?_
                refine Wp.istore_n (ls' := [_, _, _, _, _]) dX12_leads_54 (by decide) rfl ?_
                refine Wp.iinc (ls' := [_, _, _, _, _]) rfl dX12_leads_55 (by decide) rfl ?_
                refine Wp.goto (tgt := 5) dX12_leads_58 (by decide) ?_
                first | exact ih (k + 1) _ _ (by omega) (by omega) (anyS_t (Or.inl c15)) | exact ih (k + 1) _ _ (by omega) (by omega) (anyS_t (Or.inr (decide_eq_true ⟨c24.1, c24.2, c35, c46⟩))) | exact ih (k + 1) _ _ (by omega) (by omega) (anyS_f c15 (fun q => c24 ⟨(of_decide_eq_true q).1, (of_decide_eq_true q).2.1⟩)) | exact ih (k + 1) _ _ (by omega) (by omega) (anyS_f c15 (fun q => c35 (of_decide_eq_true q).2.2.1)) | exact ih (k + 1) _ _ (by omega) (by omega) (anyS_f c15 (fun q => c46 (of_decide_eq_true q).2.2.2)) | (exfalso; omega)
  refine Wp.iconst dX12_leads_0 ?_
  refine Wp.istore_n (ls' := [_, _, _, _, _]) dX12_leads_1 (by decide) rfl ?_
  refine Wp.iconst dX12_leads_2 ?_
  refine Wp.istore (ls' := [_, _, _, _, _]) dX12_leads_3 (by decide) rfl ?_
  exact lp (I 32 0).toNat 0 _ _ (by omega) (by omega) rfl
theorem ct_X12_hasSome {a w : Int} (hn : 57 ≤ n) (hFx : Fx R) (hW : RW I) (ha : inR a) (hw0 : 0 ≤ w) (hw1 : w < 60) (hq : Q (some (vi (bI (hsB I (I 32 11) a w = true)))) (I, L, R, n)) : Wp mX12_hasSome 0 [some (vr (some 32)), some (vi a), some (vi w), none, none] [] (I, L, R, n) (0, 0) Q := by
  have hN0 := hW.1
  have hN1 := hW.2.1
  have hT0 := hW.2.2.1
  have hT1 := hW.2.2.2.1
  unfold hsB at hq
  have lp : ∀ (tt k : Nat) (z : Int) (x : Int), k + tt = (I 32 0).toNat → z = k → x = bI (anyB (fun j => decide (bitI (I 32 11) j ∧ I 35 j ≤ I 32 9 ∧ I 33 j = a ∧ 0 < I 36 (60 * j + w))) k = true) → Wp mX12_hasSome 5 [some (vr (some 32)), some (vi a), some (vi w), some (vi x), some (vi z)] [] (I, L, R, n) (0, 0) Q := by
    intro tt
    induction tt with
    | zero =>
      intro k z x hkt hz e0
      obtain rfl : k = (I 32 0).toNat := by omega
      refine Wp.iload rfl dX12_hasSome_5 ?_
      refine Wp.aload_n rfl dX12_hasSome_7 ?_
      refine Wp.gi (kz := 0) rfl dX12_hasSome_8 fkX12_153 (by first | rfl | exact kd_b0 _ | exact kd_b1 _ | exact kd_b2 _ | exact kd_b3 _ | exact kd_b4 _ | exact kd_b5 _ | exact kd_b6 _) (by omega) ?_
      refine Wp.icmp_ge (tgt := 65) dX12_hasSome_11 (by decide) (by first | omega | exact bI_R _ | exact cmp_R _ _ | assumption) (by first | omega | exact bI_R _ | exact cmp_R _ _ | assumption) (fun c11 => ?_) (fun c11 => ?_)
      · refine Wp.iload_n rfl dX12_hasSome_65 ?_
        refine Wp.zreturn dX12_hasSome_66 rfl (by rw [e0]; exact bI_01 _) ?_
        first | (exfalso; omega) | (exact qI hq e0)
      · exfalso; omega
    | succ tt ih =>
      intro k z x hkt hz e0
      subst hz
      subst e0
      have hzb := hW.b (show (0 : Int) ≤ k by omega) (by omega)
      have hze := hW.e (show (0 : Int) ≤ k by omega) (by omega) hw0 hw1
      refine Wp.iload rfl dX12_hasSome_5 ?_
      refine Wp.aload_n rfl dX12_hasSome_7 ?_
      refine Wp.gi (kz := 0) rfl dX12_hasSome_8 fkX12_153 (by first | rfl | exact kd_b0 _ | exact kd_b1 _ | exact kd_b2 _ | exact kd_b3 _ | exact kd_b4 _ | exact kd_b5 _ | exact kd_b6 _) (by omega) ?_
      refine Wp.icmp_ge (tgt := 65) dX12_hasSome_11 (by decide) (by first | omega | exact bI_R _ | exact cmp_R _ _ | assumption) (by first | omega | exact bI_R _ | exact cmp_R _ _ | assumption) (fun c11 => ?_) (fun c11 => ?_)
      · exfalso; omega
      · refine Wp.iload_n rfl dX12_hasSome_14 ?_
        refine Wp.if_neB (tgt := 53) dX12_hasSome_15 (by decide) (fun c15 => ?_) (fun c15 => ?_)
        · refine Wp.iconst dX12_hasSome_53 ?_
          refine Wp.goto (tgt := 58) dX12_hasSome_54 (by decide) ?_
          refine Wp.istore_n (ls' := [_, _, _, _, _]) dX12_hasSome_58 (by decide) rfl ?_
          refine Wp.iinc (ls' := [_, _, _, _, _]) rfl dX12_hasSome_59 (by decide) rfl ?_
          refine Wp.goto (tgt := 5) dX12_hasSome_62 (by decide) ?_
          first | exact ih (k + 1) _ _ (by omega) (by omega) (anyS_t (Or.inl c15)) | exact ih (k + 1) _ _ (by omega) (by omega) (anyS_t (Or.inr (decide_eq_true ⟨c24.1, c24.2, c35, by omega⟩))) | exact ih (k + 1) _ _ (by omega) (by omega) (anyS_f c15 (fun q => c24 ⟨(of_decide_eq_true q).1, (of_decide_eq_true q).2.1⟩)) | exact ih (k + 1) _ _ (by omega) (by omega) (anyS_f c15 (fun q => c35 (of_decide_eq_true q).2.2.1)) | exact ih (k + 1) _ _ (by omega) (by omega) (anyS_f c15 (fun q => absurd (of_decide_eq_true q).2.2.2 (by omega))) | (exfalso; omega)
        · refine Wp.aload_n rfl dX12_hasSome_18 ?_
          refine Wp.iload rfl dX12_hasSome_19 ?_
          refine Wp.callV (As := [_]) (ls0 := [_, _]) (bd := (0, 0)) (bd' := (0, 0)) dX12_hasSome_21 kmX12_isBook lkX12_168 (by decide) (by decide) (Nat.le_of_ble_eq_true rfl) (by first | rfl | exact kd_b0 _ | exact kd_b1 _ | exact kd_b2 _ | exact kd_b3 _ | exact kd_b4 _ | exact kd_b5 _ | exact kd_b6 _) (by omega) rfl rfl (Nat.le_of_ble_eq_true rfl) rfl ?_
          refine ct_X12_isBook hn hFx (by omega) (by omega) (by omega) ?_
          show Wp _ _ _ (_ :: _) _ _ _
          refine Wp.if_eqB (tgt := 57) dX12_hasSome_24 (by decide) (fun c24 => ?_) (fun c24 => ?_)
          · refine Wp.iconst dX12_hasSome_57 ?_
            refine Wp.istore_n (ls' := [_, _, _, _, _]) dX12_hasSome_58 (by decide) rfl ?_
            refine Wp.iinc (ls' := [_, _, _, _, _]) rfl dX12_hasSome_59 (by decide) rfl ?_
            refine Wp.goto (tgt := 5) dX12_hasSome_62 (by decide) ?_
            first | exact ih (k + 1) _ _ (by omega) (by omega) (anyS_t (Or.inl c15)) | exact ih (k + 1) _ _ (by omega) (by omega) (anyS_t (Or.inr (decide_eq_true ⟨c24.1, c24.2, c35, by omega⟩))) | exact ih (k + 1) _ _ (by omega) (by omega) (anyS_f c15 (fun q => c24 ⟨(of_decide_eq_true q).1, (of_decide_eq_true q).2.1⟩)) | exact ih (k + 1) _ _ (by omega) (by omega) (anyS_f c15 (fun q => c35 (of_decide_eq_true q).2.2.1)) | exact ih (k + 1) _ _ (by omega) (by omega) (anyS_f c15 (fun q => absurd (of_decide_eq_true q).2.2.2 (by omega))) | (exfalso; omega)
          · refine Wp.aload_n rfl dX12_hasSome_27 ?_
            refine Wp.gr (kz := 1) rfl dX12_hasSome_28 fkX12_7 (by first | rfl | exact kd_b0 _ | exact kd_b1 _ | exact kd_b2 _ | exact kd_b3 _ | exact kd_b4 _ | exact kd_b5 _ | exact kd_b6 _) (by omega) (by first | exact hFx _ 1 _ rfl | assumption | exact hBk.1 | exact hBk.2.1 | exact hBk.2.2.1 | exact hBk.2.2.2.1 | exact hBk.2.2.2.2.1 | exact hBk.2.2.2.2.2) ?_
            refine Wp.iload rfl dX12_hasSome_31 ?_
            refine Wp.iaload dX12_hasSome_33 (by first | rfl | exact kd_b0 _ | exact kd_b1 _ | exact kd_b2 _ | exact kd_b3 _ | exact kd_b4 _ | exact kd_b5 _ | exact kd_b6 _) (by omega) (by omega) (by omega) ?_
            refine Wp.iload_n rfl dX12_hasSome_34 ?_
            refine Wp.icmp_ne (tgt := 57) dX12_hasSome_35 (by decide) (by first | omega | exact bI_R _ | exact cmp_R _ _ | assumption) (by first | omega | exact bI_R _ | exact cmp_R _ _ | assumption) (fun c35 => ?_) (fun c35 => ?_)
            · refine Wp.iconst dX12_hasSome_57 ?_
              refine Wp.istore_n (ls' := [_, _, _, _, _]) dX12_hasSome_58 (by decide) rfl ?_
              refine Wp.iinc (ls' := [_, _, _, _, _]) rfl dX12_hasSome_59 (by decide) rfl ?_
              refine Wp.goto (tgt := 5) dX12_hasSome_62 (by decide) ?_
              first | exact ih (k + 1) _ _ (by omega) (by omega) (anyS_t (Or.inl c15)) | exact ih (k + 1) _ _ (by omega) (by omega) (anyS_t (Or.inr (decide_eq_true ⟨c24.1, c24.2, c35, by omega⟩))) | exact ih (k + 1) _ _ (by omega) (by omega) (anyS_f c15 (fun q => c24 ⟨(of_decide_eq_true q).1, (of_decide_eq_true q).2.1⟩)) | exact ih (k + 1) _ _ (by omega) (by omega) (anyS_f c15 (fun q => c35 (of_decide_eq_true q).2.2.1)) | exact ih (k + 1) _ _ (by omega) (by omega) (anyS_f c15 (fun q => absurd (of_decide_eq_true q).2.2.2 (by omega))) | (exfalso; omega)
            · refine Wp.aload_n rfl dX12_hasSome_38 ?_
              refine Wp.gr (kz := 4) rfl dX12_hasSome_39 fkX12_19 (by first | rfl | exact kd_b0 _ | exact kd_b1 _ | exact kd_b2 _ | exact kd_b3 _ | exact kd_b4 _ | exact kd_b5 _ | exact kd_b6 _) (by omega) (by first | exact hFx _ 4 _ rfl | assumption | exact hBk.1 | exact hBk.2.1 | exact hBk.2.2.1 | exact hBk.2.2.2.1 | exact hBk.2.2.2.2.1 | exact hBk.2.2.2.2.2) ?_
              refine Wp.bipush rfl dX12_hasSome_42 ?_
              refine Wp.iload rfl dX12_hasSome_44 ?_
              refine Wp.imul dX12_hasSome_46 ?_
              refine Wp.iload_n rfl dX12_hasSome_47 ?_
              refine Wp.iadd dX12_hasSome_48 ?_
              refine Wp.iaload dX12_hasSome_49 (by first | rfl | exact kd_b0 _ | exact kd_b1 _ | exact kd_b2 _ | exact kd_b3 _ | exact kd_b4 _ | exact kd_b5 _ | exact kd_b6 _) (by omega) (by omega) (by omega) ?_
              refine Wp.if_le (tgt := 57) dX12_hasSome_50 (by decide) (by first | omega | exact bI_R _ | exact cmp_R _ _ | assumption) (fun c50 => ?_) (fun c50 => ?_)
              · refine Wp.iconst dX12_hasSome_57 ?_
                refine Wp.istore_n (ls' := [_, _, _, _, _]) dX12_hasSome_58 (by decide) rfl ?_
                refine Wp.iinc (ls' := [_, _, _, _, _]) rfl dX12_hasSome_59 (by decide) rfl ?_
                refine Wp.goto (tgt := 5) dX12_hasSome_62 (by decide) ?_
                first | exact ih (k + 1) _ _ (by omega) (by omega) (anyS_t (Or.inl c15)) | exact ih (k + 1) _ _ (by omega) (by omega) (anyS_t (Or.inr (decide_eq_true ⟨c24.1, c24.2, c35, by omega⟩))) | exact ih (k + 1) _ _ (by omega) (by omega) (anyS_f c15 (fun q => c24 ⟨(of_decide_eq_true q).1, (of_decide_eq_true q).2.1⟩)) | exact ih (k + 1) _ _ (by omega) (by omega) (anyS_f c15 (fun q => c35 (of_decide_eq_true q).2.2.1)) | exact ih (k + 1) _ _ (by omega) (by omega) (anyS_f c15 (fun q => absurd (of_decide_eq_true q).2.2.2 (by omega))) | (exfalso; omega)
              · refine Wp.iconst dX12_hasSome_53 ?_
                refine Wp.goto (tgt := 58) dX12_hasSome_54 (by decide) ?_
                refine Wp.istore_n (ls' := [_, _, _, _, _]) dX12_hasSome_58 (by decide) rfl ?_
                refine Wp.iinc (ls' := [_, _, _, _, _]) rfl dX12_hasSome_59 (by decide) rfl ?_
                refine Wp.goto (tgt := 5) dX12_hasSome_62 (by decide) ?_
                first | exact ih (k + 1) _ _ (by omega) (by omega) (anyS_t (Or.inl c15)) | exact ih (k + 1) _ _ (by omega) (by omega) (anyS_t (Or.inr (decide_eq_true ⟨c24.1, c24.2, c35, by omega⟩))) | exact ih (k + 1) _ _ (by omega) (by omega) (anyS_f c15 (fun q => c24 ⟨(of_decide_eq_true q).1, (of_decide_eq_true q).2.1⟩)) | exact ih (k + 1) _ _ (by omega) (by omega) (anyS_f c15 (fun q => c35 (of_decide_eq_true q).2.2.1)) | exact ih (k + 1) _ _ (by omega) (by omega) (anyS_f c15 (fun q => absurd (of_decide_eq_true q).2.2.2 (by omega))) | (exfalso; omega)
  refine Wp.iconst dX12_hasSome_0 ?_
  refine Wp.istore_n (ls' := [_, _, _, _, _]) dX12_hasSome_1 (by decide) rfl ?_
  refine Wp.iconst dX12_hasSome_2 ?_
  refine Wp.istore (ls' := [_, _, _, _, _]) dX12_hasSome_3 (by decide) rfl ?_
  exact lp (I 32 0).toNat 0 _ _ (by omega) (by omega) rfl
/-- the memory's chain is s -/
def cSt (J : Nat → Int → Int) (a b : Int) (s : CS) : Prop := J 32 42 = s.1 ∧ (0 < s.1 → J 55 0 = a ∧ J 55 1 = s.2.1 ∧ J 55 2 = s.2.2 ∧ J 55 3 = b)
theorem cs_no {J : Nat → Int → Int} {a b : Int} {X y s : CS} {c : Prop} [Decidable c] (hs : X = if c then y else s) (h : ¬ c) (hb : cSt J a b s) : cSt J a b X := by rw [hs, if_neg h]; exact hb
theorem cs_yes {J : Nat → Int → Int} {a b : Int} {X y s : CS} {c : Prop} [Decidable c] (hs : X = if c then y else s) (h : c) (hb : cSt J a b y) : cSt J a b X := by rw [hs, if_pos h]; exact hb
set_option maxHeartbeats 2000000 in
theorem ct_X12_findChain {a b : Int} (hn : 57 ≤ n) (hFx : Fx R) (hW : RW I) (ha : tgP a) (hb : tgP b) (hq : ∀ J, Eqv I J → cSt J a b (chS (ldB I (I 32 11)) a b) → Q none (J, L, R, n)) : Wp mX12_findChain 0 [some (vr (some 32)), some (vi a), some (vi b), none, none, none, none, none, none] [] (I, L, R, n) (0, 0) Q := by
  have ly : ∀ (x : Nat) (hx : x < 4) (s0 : CS) (hs0 : csOk s0) (hc' : ∀ (J : Nat → Int → Int) (x4 x5 x6 x7 x8 : Option AV), Eqv I J → cSt J a b (fcY (ldB I (I 32 11)) a b s0 x 4) → Wp mX12_findChain 202 [some (vr (some 32)), some (vi a), some (vi b), some (vi x), x4, x5, x6, x7, x8] [] (J, L, R, n) (0, 0) Q) , ∀ (tt k : Nat) (z : Int) (J : Nat → Int → Int) (x5 : Option AV) (x6 : Option AV) (x7 : Option AV) (x8 : Option AV), k + tt = 4 → z = k → Eqv I J → cSt J a b (fcY (ldB I (I 32 11)) a b s0 x k) → Wp mX12_findChain 15 [some (vr (some 32)), some (vi a), some (vi b), some (vi x), some (vi z), x5, x6, x7, x8] [] (J, L, R, n) (0, 0) Q := by
    intro x hx s0 hs0 hc'
    intro tt
    induction tt with
    | zero =>
      intro k z J x5 x6 x7 x8 hkt hz e0 e1
      obtain rfl : k = 4 := by omega
      refine Wp.iload rfl dX12_findChain_15 ?_
      refine Wp.iconst dX12_findChain_17 ?_
      refine Wp.icmp_ge (tgt := 202) dX12_findChain_18 (by decide) (by first | omega | exact bI_R _ | exact cmp_R _ _ | assumption) (by first | omega | exact bI_R _ | exact cmp_R _ _ | assumption) (fun c18 => ?_) (fun c18 => ?_)
      · exact hc' J _ _ _ _ _ e0 e1
      · exfalso; omega
    | succ tt ih =>
      intro k z J x5 x6 x7 x8 hkt hz e0 e1
      subst hz
      have hWJ := RW_cg e0.se hW
      have hld : ∀ p q : Int, ldB J (J 32 11) p q = ldB I (I 32 11) p q := fun p q => by rw [e0.lk, ldB_cg e0.se]
      have hok := fcY_ok (ld := ldB I (I 32 11)) (a := a) hb ⟨by omega, by omega⟩ hs0 (x := x) k (by omega)
      have hstep : fcY (ldB I (I 32 11)) a b s0 x (k + 1) = fcS (ldB I (I 32 11)) a b (fcY (ldB I (I 32 11)) a b s0 x k) x k := rfl
      generalize fcY (ldB I (I 32 11)) a b s0 x k = s at e1 hok hstep
      obtain ⟨s1, s2, s3⟩ := s
      unfold csOk at hok
      unfold cSt at e1
      unfold fcS at hstep
      dsimp only at hok e1 hstep
      have h118 : ∀ (zz v5 v6 v7 : Int), zz = fcZ (ldB I (I 32 11)) a b x k → Wp mX12_findChain 118 [some (vr (some 32)), some (vi a), some (vi b), some (vi x), some (vi k), some (vi v5), some (vi v6), some (vi v7), x8] [vi zz] (J, L, R, n) (0, 0) Q := by
        intro zz v5 v6 v7 hzz
        have hzB := fcZ_B (ldB I (I 32 11)) a b x k
        rw [← hzz] at hstep hzB
        refine Wp.istore (ls' := [_, _, _, _, _, _, _, _, _]) dX12_findChain_118 (by decide) rfl ?_
        refine Wp.iload rfl dX12_findChain_120 ?_
        refine Wp.if_le (tgt := 196) dX12_findChain_122 (by decide) (by first | omega | exact bI_R _ | exact cmp_R _ _ | assumption) (fun c122 => ?_) (fun c122 => ?_)
        · refine Wp.iinc (ls' := [_, _, _, _, _, _, _, _, _]) rfl dX12_findChain_196 (by decide) rfl ?_
          refine Wp.goto (tgt := 15) dX12_findChain_199 (by decide) ?_
          first | exact ih (k + 1) _ J _ _ _ _ (by omega) (by omega) e0 (cs_no hstep (by omega) e1) | exact ih (k + 1) _ _ _ _ _ _ (by omega) (by omega) (((((e0.wr (by unfold scr; omega)).wr (by unfold scr; omega)).wr (by unfold scr; omega)).wr (by unfold scr; omega)).wr (by unfold scr; omega)) (cs_yes hstep (by omega) ⟨by simp (disch := omega) only [up_same, up_o, up_k], fun _ => ⟨by simp (disch := omega) only [up_same, up_o, up_k], by simp (disch := omega) only [up_same, up_o, up_k]; first | rw [if_pos (by omega)] | rw [if_neg (by omega)], by simp (disch := omega) only [up_same, up_o, up_k]; first | rw [if_pos (by omega)] | rw [if_neg (by omega)], by simp (disch := omega) only [up_same, up_o, up_k]⟩⟩) | (exfalso; omega)
        · refine Wp.aload_n rfl dX12_findChain_125 ?_
          refine Wp.gi (kz := 42) rfl dX12_findChain_126 fkX12_270 (by first | rfl | exact kd_b0 _ | exact kd_b1 _ | exact kd_b2 _ | exact kd_b3 _ | exact kd_b4 _ | exact kd_b5 _ | exact kd_b6 _) (by omega) ?_
          refine Wp.if_eq (tgt := 141) dX12_findChain_129 (by decide) (by first | omega | exact bI_R _ | exact cmp_R _ _ | assumption) (fun c129 => ?_) (fun c129 => ?_)
          · refine Wp.aload_n rfl dX12_findChain_141 ?_
            refine Wp.iload rfl dX12_findChain_142 ?_
            refine Wp.pi (kz := 42) rfl dX12_findChain_144 fkX12_270 (Or.inl rfl) (Or.inl rfl) (by first | rfl | exact kd_b0 _ | exact kd_b1 _ | exact kd_b2 _ | exact kd_b3 _ | exact kd_b4 _ | exact kd_b5 _ | exact kd_b6 _) (by omega) ?_
            refine Wp.aload_n rfl dX12_findChain_147 ?_
            refine Wp.gr (kz := 41) rfl dX12_findChain_148 fkX12_92 (by first | rfl | exact kd_b0 _ | exact kd_b1 _ | exact kd_b2 _ | exact kd_b3 _ | exact kd_b4 _ | exact kd_b5 _ | exact kd_b6 _) (by omega) (by first | exact hFx _ 41 _ rfl | assumption | exact hBk.1 | exact hBk.2.1 | exact hBk.2.2.1 | exact hBk.2.2.2.1 | exact hBk.2.2.2.2.1 | exact hBk.2.2.2.2.2) ?_
            try simp (disch := omega) only [up_same, up_o, up_k]
            refine Wp.iconst dX12_findChain_151 ?_
            refine Wp.iload_n rfl dX12_findChain_152 ?_
            refine Wp.iastore dX12_findChain_153 (by first | rfl | exact kd_b0 _ | exact kd_b1 _ | exact kd_b2 _ | exact kd_b3 _ | exact kd_b4 _ | exact kd_b5 _ | exact kd_b6 _) (by omega) (by omega) (by omega) ?_
            refine Wp.aload_n rfl dX12_findChain_154 ?_
            refine Wp.gr (kz := 41) rfl dX12_findChain_155 fkX12_92 (by first | rfl | exact kd_b0 _ | exact kd_b1 _ | exact kd_b2 _ | exact kd_b3 _ | exact kd_b4 _ | exact kd_b5 _ | exact kd_b6 _) (by omega) (by first | exact hFx _ 41 _ rfl | assumption | exact hBk.1 | exact hBk.2.1 | exact hBk.2.2.1 | exact hBk.2.2.2.1 | exact hBk.2.2.2.2.1 | exact hBk.2.2.2.2.2) ?_
            try simp (disch := omega) only [up_same, up_o, up_k]
            refine Wp.iconst dX12_findChain_158 ?_
            refine Wp.iload rfl dX12_findChain_159 ?_
            refine Wp.iconst dX12_findChain_161 ?_
            refine Wp.icmp_ne (tgt := 169) dX12_findChain_162 (by decide) (by first | omega | exact bI_R _ | exact cmp_R _ _ | assumption) (by first | omega | exact bI_R _ | exact cmp_R _ _ | assumption) (fun c162 => ?_) (fun c162 => ?_)
            · refine Wp.iload_n rfl dX12_findChain_169 ?_
              refine Wp.iastore dX12_findChain_170 (by first | rfl | exact kd_b0 _ | exact kd_b1 _ | exact kd_b2 _ | exact kd_b3 _ | exact kd_b4 _ | exact kd_b5 _ | exact kd_b6 _) (by omega) (by omega) (by omega) ?_
              refine Wp.aload_n rfl dX12_findChain_171 ?_
              refine Wp.gr (kz := 41) rfl dX12_findChain_172 fkX12_92 (by first | rfl | exact kd_b0 _ | exact kd_b1 _ | exact kd_b2 _ | exact kd_b3 _ | exact kd_b4 _ | exact kd_b5 _ | exact kd_b6 _) (by omega) (by first | exact hFx _ 41 _ rfl | assumption | exact hBk.1 | exact hBk.2.1 | exact hBk.2.2.1 | exact hBk.2.2.2.1 | exact hBk.2.2.2.2.1 | exact hBk.2.2.2.2.2) ?_
              try simp (disch := omega) only [up_same, up_o, up_k]
              refine Wp.iconst dX12_findChain_175 ?_
              refine Wp.iload rfl dX12_findChain_176 ?_
              refine Wp.iconst dX12_findChain_178 ?_
              refine Wp.icmp_ne (tgt := 186) dX12_findChain_179 (by decide) (by first | omega | exact bI_R _ | exact cmp_R _ _ | assumption) (by first | omega | exact bI_R _ | exact cmp_R _ _ | assumption) (fun c179 => ?_) (fun c179 => ?_)
              · refine Wp.iload rfl dX12_findChain_186 ?_
                refine Wp.iastore dX12_findChain_188 (by first | rfl | exact kd_b0 _ | exact kd_b1 _ | exact kd_b2 _ | exact kd_b3 _ | exact kd_b4 _ | exact kd_b5 _ | exact kd_b6 _) (by omega) (by omega) (by omega) ?_
                refine Wp.aload_n rfl dX12_findChain_189 ?_
                refine Wp.gr (kz := 41) rfl dX12_findChain_190 fkX12_92 (by first | rfl | exact kd_b0 _ | exact kd_b1 _ | exact kd_b2 _ | exact kd_b3 _ | exact kd_b4 _ | exact kd_b5 _ | exact kd_b6 _) (by omega) (by first | exact hFx _ 41 _ rfl | assumption | exact hBk.1 | exact hBk.2.1 | exact hBk.2.2.1 | exact hBk.2.2.2.1 | exact hBk.2.2.2.2.1 | exact hBk.2.2.2.2.2) ?_
                try simp (disch := omega) only [up_same, up_o, up_k]
                refine Wp.iconst dX12_findChain_193 ?_
                refine Wp.iload_n rfl dX12_findChain_194 ?_
                refine Wp.iastore dX12_findChain_195 (by first | rfl | exact kd_b0 _ | exact kd_b1 _ | exact kd_b2 _ | exact kd_b3 _ | exact kd_b4 _ | exact kd_b5 _ | exact kd_b6 _) (by omega) (by omega) (by omega) ?_
                refine Wp.iinc (ls' := [_, _, _, _, _, _, _, _, _]) rfl dX12_findChain_196 (by decide) rfl ?_
                refine Wp.goto (tgt := 15) dX12_findChain_199 (by decide) ?_
                first | exact ih (k + 1) _ J _ _ _ _ (by omega) (by omega) e0 (cs_no hstep (by omega) e1) | exact ih (k + 1) _ _ _ _ _ _ (by omega) (by omega) (((((e0.wr (by unfold scr; omega)).wr (by unfold scr; omega)).wr (by unfold scr; omega)).wr (by unfold scr; omega)).wr (by unfold scr; omega)) (cs_yes hstep (by omega) ⟨by simp (disch := omega) only [up_same, up_o, up_k], fun _ => ⟨by simp (disch := omega) only [up_same, up_o, up_k], by simp (disch := omega) only [up_same, up_o, up_k]; first | rw [if_pos (by omega)] | rw [if_neg (by omega)], by simp (disch := omega) only [up_same, up_o, up_k]; first | rw [if_pos (by omega)] | rw [if_neg (by omega)], by simp (disch := omega) only [up_same, up_o, up_k]⟩⟩) | (exfalso; omega)
              · refine Wp.iload_n rfl dX12_findChain_182 ?_
                refine Wp.goto (tgt := 188) dX12_findChain_183 (by decide) ?_
                refine Wp.iastore dX12_findChain_188 (by first | rfl | exact kd_b0 _ | exact kd_b1 _ | exact kd_b2 _ | exact kd_b3 _ | exact kd_b4 _ | exact kd_b5 _ | exact kd_b6 _) (by omega) (by omega) (by omega) ?_
                refine Wp.aload_n rfl dX12_findChain_189 ?_
                refine Wp.gr (kz := 41) rfl dX12_findChain_190 fkX12_92 (by first | rfl | exact kd_b0 _ | exact kd_b1 _ | exact kd_b2 _ | exact kd_b3 _ | exact kd_b4 _ | exact kd_b5 _ | exact kd_b6 _) (by omega) (by first | exact hFx _ 41 _ rfl | assumption | exact hBk.1 | exact hBk.2.1 | exact hBk.2.2.1 | exact hBk.2.2.2.1 | exact hBk.2.2.2.2.1 | exact hBk.2.2.2.2.2) ?_
                try simp (disch := omega) only [up_same, up_o, up_k]
                refine Wp.iconst dX12_findChain_193 ?_
                refine Wp.iload_n rfl dX12_findChain_194 ?_
                refine Wp.iastore dX12_findChain_195 (by first | rfl | exact kd_b0 _ | exact kd_b1 _ | exact kd_b2 _ | exact kd_b3 _ | exact kd_b4 _ | exact kd_b5 _ | exact kd_b6 _) (by omega) (by omega) (by omega) ?_
                refine Wp.iinc (ls' := [_, _, _, _, _, _, _, _, _]) rfl dX12_findChain_196 (by decide) rfl ?_
                refine Wp.goto (tgt := 15) dX12_findChain_199 (by decide) ?_
                first | exact ih (k + 1) _ J _ _ _ _ (by omega) (by omega) e0 (cs_no hstep (by omega) e1) | exact ih (k + 1) _ _ _ _ _ _ (by omega) (by omega) (((((e0.wr (by unfold scr; omega)).wr (by unfold scr; omega)).wr (by unfold scr; omega)).wr (by unfold scr; omega)).wr (by unfold scr; omega)) (cs_yes hstep (by omega) ⟨by simp (disch := omega) only [up_same, up_o, up_k], fun _ => ⟨by simp (disch := omega) only [up_same, up_o, up_k], by simp (disch := omega) only [up_same, up_o, up_k]; first | rw [if_pos (by omega)] | rw [if_neg (by omega)], by simp (disch := omega) only [up_same, up_o, up_k]; first | rw [if_pos (by omega)] | rw [if_neg (by omega)], by simp (disch := omega) only [up_same, up_o, up_k]⟩⟩) | (exfalso; omega)
            · refine Wp.iload_n rfl dX12_findChain_165 ?_
              refine Wp.goto (tgt := 170) dX12_findChain_166 (by decide) ?_
              refine Wp.iastore dX12_findChain_170 (by first | rfl | exact kd_b0 _ | exact kd_b1 _ | exact kd_b2 _ | exact kd_b3 _ | exact kd_b4 _ | exact kd_b5 _ | exact kd_b6 _) (by omega) (by omega) (by omega) ?_
              refine Wp.aload_n rfl dX12_findChain_171 ?_
              refine Wp.gr (kz := 41) rfl dX12_findChain_172 fkX12_92 (by first | rfl | exact kd_b0 _ | exact kd_b1 _ | exact kd_b2 _ | exact kd_b3 _ | exact kd_b4 _ | exact kd_b5 _ | exact kd_b6 _) (by omega) (by first | exact hFx _ 41 _ rfl | assumption | exact hBk.1 | exact hBk.2.1 | exact hBk.2.2.1 | exact hBk.2.2.2.1 | exact hBk.2.2.2.2.1 | exact hBk.2.2.2.2.2) ?_
              try simp (disch := omega) only [up_same, up_o, up_k]
              refine Wp.iconst dX12_findChain_175 ?_
              refine Wp.iload rfl dX12_findChain_176 ?_
              refine Wp.iconst dX12_findChain_178 ?_
              refine Wp.icmp_ne (tgt := 186) dX12_findChain_179 (by decide) (by first | omega | exact bI_R _ | exact cmp_R _ _ | assumption) (by first | omega | exact bI_R _ | exact cmp_R _ _ | assumption) (fun c179 => ?_) (fun c179 => ?_)
              · refine Wp.iload rfl dX12_findChain_186 ?_
                refine Wp.iastore dX12_findChain_188 (by first | rfl | exact kd_b0 _ | exact kd_b1 _ | exact kd_b2 _ | exact kd_b3 _ | exact kd_b4 _ | exact kd_b5 _ | exact kd_b6 _) (by omega) (by omega) (by omega) ?_
                refine Wp.aload_n rfl dX12_findChain_189 ?_
                refine Wp.gr (kz := 41) rfl dX12_findChain_190 fkX12_92 (by first | rfl | exact kd_b0 _ | exact kd_b1 _ | exact kd_b2 _ | exact kd_b3 _ | exact kd_b4 _ | exact kd_b5 _ | exact kd_b6 _) (by omega) (by first | exact hFx _ 41 _ rfl | assumption | exact hBk.1 | exact hBk.2.1 | exact hBk.2.2.1 | exact hBk.2.2.2.1 | exact hBk.2.2.2.2.1 | exact hBk.2.2.2.2.2) ?_
                try simp (disch := omega) only [up_same, up_o, up_k]
                refine Wp.iconst dX12_findChain_193 ?_
                refine Wp.iload_n rfl dX12_findChain_194 ?_
                refine Wp.iastore dX12_findChain_195 (by first | rfl | exact kd_b0 _ | exact kd_b1 _ | exact kd_b2 _ | exact kd_b3 _ | exact kd_b4 _ | exact kd_b5 _ | exact kd_b6 _) (by omega) (by omega) (by omega) ?_
                refine Wp.iinc (ls' := [_, _, _, _, _, _, _, _, _]) rfl dX12_findChain_196 (by decide) rfl ?_
                refine Wp.goto (tgt := 15) dX12_findChain_199 (by decide) ?_
                first | exact ih (k + 1) _ J _ _ _ _ (by omega) (by omega) e0 (cs_no hstep (by omega) e1) | exact ih (k + 1) _ _ _ _ _ _ (by omega) (by omega) (((((e0.wr (by unfold scr; omega)).wr (by unfold scr; omega)).wr (by unfold scr; omega)).wr (by unfold scr; omega)).wr (by unfold scr; omega)) (cs_yes hstep (by omega) ⟨by simp (disch := omega) only [up_same, up_o, up_k], fun _ => ⟨by simp (disch := omega) only [up_same, up_o, up_k], by simp (disch := omega) only [up_same, up_o, up_k]; first | rw [if_pos (by omega)] | rw [if_neg (by omega)], by simp (disch := omega) only [up_same, up_o, up_k]; first | rw [if_pos (by omega)] | rw [if_neg (by omega)], by simp (disch := omega) only [up_same, up_o, up_k]⟩⟩) | (exfalso; omega)
              · refine Wp.iload_n rfl dX12_findChain_182 ?_
                refine Wp.goto (tgt := 188) dX12_findChain_183 (by decide) ?_
                refine Wp.iastore dX12_findChain_188 (by first | rfl | exact kd_b0 _ | exact kd_b1 _ | exact kd_b2 _ | exact kd_b3 _ | exact kd_b4 _ | exact kd_b5 _ | exact kd_b6 _) (by omega) (by omega) (by omega) ?_
                refine Wp.aload_n rfl dX12_findChain_189 ?_
                refine Wp.gr (kz := 41) rfl dX12_findChain_190 fkX12_92 (by first | rfl | exact kd_b0 _ | exact kd_b1 _ | exact kd_b2 _ | exact kd_b3 _ | exact kd_b4 _ | exact kd_b5 _ | exact kd_b6 _) (by omega) (by first | exact hFx _ 41 _ rfl | assumption | exact hBk.1 | exact hBk.2.1 | exact hBk.2.2.1 | exact hBk.2.2.2.1 | exact hBk.2.2.2.2.1 | exact hBk.2.2.2.2.2) ?_
                try simp (disch := omega) only [up_same, up_o, up_k]
                refine Wp.iconst dX12_findChain_193 ?_
                refine Wp.iload_n rfl dX12_findChain_194 ?_
                refine Wp.iastore dX12_findChain_195 (by first | rfl | exact kd_b0 _ | exact kd_b1 _ | exact kd_b2 _ | exact kd_b3 _ | exact kd_b4 _ | exact kd_b5 _ | exact kd_b6 _) (by omega) (by omega) (by omega) ?_
                refine Wp.iinc (ls' := [_, _, _, _, _, _, _, _, _]) rfl dX12_findChain_196 (by decide) rfl ?_
                refine Wp.goto (tgt := 15) dX12_findChain_199 (by decide) ?_
                first | exact ih (k + 1) _ J _ _ _ _ (by omega) (by omega) e0 (cs_no hstep (by omega) e1) | exact ih (k + 1) _ _ _ _ _ _ (by omega) (by omega) (((((e0.wr (by unfold scr; omega)).wr (by unfold scr; omega)).wr (by unfold scr; omega)).wr (by unfold scr; omega)).wr (by unfold scr; omega)) (cs_yes hstep (by omega) ⟨by simp (disch := omega) only [up_same, up_o, up_k], fun _ => ⟨by simp (disch := omega) only [up_same, up_o, up_k], by simp (disch := omega) only [up_same, up_o, up_k]; first | rw [if_pos (by omega)] | rw [if_neg (by omega)], by simp (disch := omega) only [up_same, up_o, up_k]; first | rw [if_pos (by omega)] | rw [if_neg (by omega)], by simp (disch := omega) only [up_same, up_o, up_k]⟩⟩) | (exfalso; omega)
          · refine Wp.iload rfl dX12_findChain_132 ?_
            refine Wp.aload_n rfl dX12_findChain_134 ?_
            refine Wp.gi (kz := 42) rfl dX12_findChain_135 fkX12_270 (by first | rfl | exact kd_b0 _ | exact kd_b1 _ | exact kd_b2 _ | exact kd_b3 _ | exact kd_b4 _ | exact kd_b5 _ | exact kd_b6 _) (by omega) ?_
            refine Wp.icmp_ge (tgt := 196) dX12_findChain_138 (by decide) (by first | omega | exact bI_R _ | exact cmp_R _ _ | assumption) (by first | omega | exact bI_R _ | exact cmp_R _ _ | assumption) (fun c138 => ?_) (fun c138 => ?_)
            · refine Wp.iinc (ls' := [_, _, _, _, _, _, _, _, _]) rfl dX12_findChain_196 (by decide) rfl ?_
              refine Wp.goto (tgt := 15) dX12_findChain_199 (by decide) ?_
              first | exact ih (k + 1) _ J _ _ _ _ (by omega) (by omega) e0 (cs_no hstep (by omega) e1) | exact ih (k + 1) _ _ _ _ _ _ (by omega) (by omega) (((((e0.wr (by unfold scr; omega)).wr (by unfold scr; omega)).wr (by unfold scr; omega)).wr (by unfold scr; omega)).wr (by unfold scr; omega)) (cs_yes hstep (by omega) ⟨by simp (disch := omega) only [up_same, up_o, up_k], fun _ => ⟨by simp (disch := omega) only [up_same, up_o, up_k], by simp (disch := omega) only [up_same, up_o, up_k]; first | rw [if_pos (by omega)] | rw [if_neg (by omega)], by simp (disch := omega) only [up_same, up_o, up_k]; first | rw [if_pos (by omega)] | rw [if_neg (by omega)], by simp (disch := omega) only [up_same, up_o, up_k]⟩⟩) | (exfalso; omega)
            · refine Wp.aload_n rfl dX12_findChain_141 ?_
              refine Wp.iload rfl dX12_findChain_142 ?_
              refine Wp.pi (kz := 42) rfl dX12_findChain_144 fkX12_270 (Or.inl rfl) (Or.inl rfl) (by first | rfl | exact kd_b0 _ | exact kd_b1 _ | exact kd_b2 _ | exact kd_b3 _ | exact kd_b4 _ | exact kd_b5 _ | exact kd_b6 _) (by omega) ?_
              refine Wp.aload_n rfl dX12_findChain_147 ?_
              refine Wp.gr (kz := 41) rfl dX12_findChain_148 fkX12_92 (by first | rfl | exact kd_b0 _ | exact kd_b1 _ | exact kd_b2 _ | exact kd_b3 _ | exact kd_b4 _ | exact kd_b5 _ | exact kd_b6 _) (by omega) (by first | exact hFx _ 41 _ rfl | assumption | exact hBk.1 | exact hBk.2.1 | exact hBk.2.2.1 | exact hBk.2.2.2.1 | exact hBk.2.2.2.2.1 | exact hBk.2.2.2.2.2) ?_
              try simp (disch := omega) only [up_same, up_o, up_k]
              refine Wp.iconst dX12_findChain_151 ?_
              refine Wp.iload_n rfl dX12_findChain_152 ?_
              refine Wp.iastore dX12_findChain_153 (by first | rfl | exact kd_b0 _ | exact kd_b1 _ | exact kd_b2 _ | exact kd_b3 _ | exact kd_b4 _ | exact kd_b5 _ | exact kd_b6 _) (by omega) (by omega) (by omega) ?_
              refine Wp.aload_n rfl dX12_findChain_154 ?_
              refine Wp.gr (kz := 41) rfl dX12_findChain_155 fkX12_92 (by first | rfl | exact kd_b0 _ | exact kd_b1 _ | exact kd_b2 _ | exact kd_b3 _ | exact kd_b4 _ | exact kd_b5 _ | exact kd_b6 _) (by omega) (by first | exact hFx _ 41 _ rfl | assumption | exact hBk.1 | exact hBk.2.1 | exact hBk.2.2.1 | exact hBk.2.2.2.1 | exact hBk.2.2.2.2.1 | exact hBk.2.2.2.2.2) ?_
              try simp (disch := omega) only [up_same, up_o, up_k]
              refine Wp.iconst dX12_findChain_158 ?_
              refine Wp.iload rfl dX12_findChain_159 ?_
              refine Wp.iconst dX12_findChain_161 ?_
              refine Wp.icmp_ne (tgt := 169) dX12_findChain_162 (by decide) (by first | omega | exact bI_R _ | exact cmp_R _ _ | assumption) (by first | omega | exact bI_R _ | exact cmp_R _ _ | assumption) (fun c162 => ?_) (fun c162 => ?_)
              · refine Wp.iload_n rfl dX12_findChain_169 ?_
                refine Wp.iastore dX12_findChain_170 (by first | rfl | exact kd_b0 _ | exact kd_b1 _ | exact kd_b2 _ | exact kd_b3 _ | exact kd_b4 _ | exact kd_b5 _ | exact kd_b6 _) (by omega) (by omega) (by omega) ?_
                refine Wp.aload_n rfl dX12_findChain_171 ?_
                refine Wp.gr (kz := 41) rfl dX12_findChain_172 fkX12_92 (by first | rfl | exact kd_b0 _ | exact kd_b1 _ | exact kd_b2 _ | exact kd_b3 _ | exact kd_b4 _ | exact kd_b5 _ | exact kd_b6 _) (by omega) (by first | exact hFx _ 41 _ rfl | assumption | exact hBk.1 | exact hBk.2.1 | exact hBk.2.2.1 | exact hBk.2.2.2.1 | exact hBk.2.2.2.2.1 | exact hBk.2.2.2.2.2) ?_
                try simp (disch := omega) only [up_same, up_o, up_k]
                refine Wp.iconst dX12_findChain_175 ?_
                refine Wp.iload rfl dX12_findChain_176 ?_
                refine Wp.iconst dX12_findChain_178 ?_
                refine Wp.icmp_ne (tgt := 186) dX12_findChain_179 (by decide) (by first | omega | exact bI_R _ | exact cmp_R _ _ | assumption) (by first | omega | exact bI_R _ | exact cmp_R _ _ | assumption) (fun c179 => ?_) (fun c179 => ?_)
                · refine Wp.iload rfl dX12_findChain_186 ?_
                  refine Wp.iastore dX12_findChain_188 (by first | rfl | exact kd_b0 _ | exact kd_b1 _ | exact kd_b2 _ | exact kd_b3 _ | exact kd_b4 _ | exact kd_b5 _ | exact kd_b6 _) (by omega) (by omega) (by omega) ?_
                  refine Wp.aload_n rfl dX12_findChain_189 ?_
                  refine Wp.gr (kz := 41) rfl dX12_findChain_190 fkX12_92 (by first | rfl | exact kd_b0 _ | exact kd_b1 _ | exact kd_b2 _ | exact kd_b3 _ | exact kd_b4 _ | exact kd_b5 _ | exact kd_b6 _) (by omega) (by first | exact hFx _ 41 _ rfl | assumption | exact hBk.1 | exact hBk.2.1 | exact hBk.2.2.1 | exact hBk.2.2.2.1 | exact hBk.2.2.2.2.1 | exact hBk.2.2.2.2.2) ?_
                  try simp (disch := omega) only [up_same, up_o, up_k]
                  refine Wp.iconst dX12_findChain_193 ?_
                  refine Wp.iload_n rfl dX12_findChain_194 ?_
                  refine Wp.iastore dX12_findChain_195 (by first | rfl | exact kd_b0 _ | exact kd_b1 _ | exact kd_b2 _ | exact kd_b3 _ | exact kd_b4 _ | exact kd_b5 _ | exact kd_b6 _) (by omega) (by omega) (by omega) ?_
                  refine Wp.iinc (ls' := [_, _, _, _, _, _, _, _, _]) rfl dX12_findChain_196 (by decide) rfl ?_
                  refine Wp.goto (tgt := 15) dX12_findChain_199 (by decide) ?_
                  first | exact ih (k + 1) _ J _ _ _ _ (by omega) (by omega) e0 (cs_no hstep (by omega) e1) | exact ih (k + 1) _ _ _ _ _ _ (by omega) (by omega) (((((e0.wr (by unfold scr; omega)).wr (by unfold scr; omega)).wr (by unfold scr; omega)).wr (by unfold scr; omega)).wr (by unfold scr; omega)) (cs_yes hstep (by omega) ⟨by simp (disch := omega) only [up_same, up_o, up_k], fun _ => ⟨by simp (disch := omega) only [up_same, up_o, up_k], by simp (disch := omega) only [up_same, up_o, up_k]; first | rw [if_pos (by omega)] | rw [if_neg (by omega)], by simp (disch := omega) only [up_same, up_o, up_k]; first | rw [if_pos (by omega)] | rw [if_neg (by omega)], by simp (disch := omega) only [up_same, up_o, up_k]⟩⟩) | (exfalso; omega)
                · refine Wp.iload_n rfl dX12_findChain_182 ?_
                  refine Wp.goto (tgt := 188) dX12_findChain_183 (by decide) ?_
                  refine Wp.iastore dX12_findChain_188 (by first | rfl | exact kd_b0 _ | exact kd_b1 _ | exact kd_b2 _ | exact kd_b3 _ | exact kd_b4 _ | exact kd_b5 _ | exact kd_b6 _) (by omega) (by omega) (by omega) ?_
                  refine Wp.aload_n rfl dX12_findChain_189 ?_
                  refine Wp.gr (kz := 41) rfl dX12_findChain_190 fkX12_92 (by first | rfl | exact kd_b0 _ | exact kd_b1 _ | exact kd_b2 _ | exact kd_b3 _ | exact kd_b4 _ | exact kd_b5 _ | exact kd_b6 _) (by omega) (by first | exact hFx _ 41 _ rfl | assumption | exact hBk.1 | exact hBk.2.1 | exact hBk.2.2.1 | exact hBk.2.2.2.1 | exact hBk.2.2.2.2.1 | exact hBk.2.2.2.2.2) ?_
                  try simp (disch := omega) only [up_same, up_o, up_k]
                  refine Wp.iconst dX12_findChain_193 ?_
                  refine Wp.iload_n rfl dX12_findChain_194 ?_
                  refine Wp.iastore dX12_findChain_195 (by first | rfl | exact kd_b0 _ | exact kd_b1 _ | exact kd_b2 _ | exact kd_b3 _ | exact kd_b4 _ | exact kd_b5 _ | exact kd_b6 _) (by omega) (by omega) (by omega) ?_
                  refine Wp.iinc (ls' := [_, _, _, _, _, _, _, _, _]) rfl dX12_findChain_196 (by decide) rfl ?_
                  refine Wp.goto (tgt := 15) dX12_findChain_199 (by decide) ?_
                  first | exact ih (k + 1) _ J _ _ _ _ (by omega) (by omega) e0 (cs_no hstep (by omega) e1) | exact ih (k + 1) _ _ _ _ _ _ (by omega) (by omega) (((((e0.wr (by unfold scr; omega)).wr (by unfold scr; omega)).wr (by unfold scr; omega)).wr (by unfold scr; omega)).wr (by unfold scr; omega)) (cs_yes hstep (by omega) ⟨by simp (disch := omega) only [up_same, up_o, up_k], fun _ => ⟨by simp (disch := omega) only [up_same, up_o, up_k], by simp (disch := omega) only [up_same, up_o, up_k]; first | rw [if_pos (by omega)] | rw [if_neg (by omega)], by simp (disch := omega) only [up_same, up_o, up_k]; first | rw [if_pos (by omega)] | rw [if_neg (by omega)], by simp (disch := omega) only [up_same, up_o, up_k]⟩⟩) | (exfalso; omega)
              · refine Wp.iload_n rfl dX12_findChain_165 ?_
                refine Wp.goto (tgt := 170) dX12_findChain_166 (by decide) ?_
                refine Wp.iastore dX12_findChain_170 (by first | rfl | exact kd_b0 _ | exact kd_b1 _ | exact kd_b2 _ | exact kd_b3 _ | exact kd_b4 _ | exact kd_b5 _ | exact kd_b6 _) (by omega) (by omega) (by omega) ?_
                refine Wp.aload_n rfl dX12_findChain_171 ?_
                refine Wp.gr (kz := 41) rfl dX12_findChain_172 fkX12_92 (by first | rfl | exact kd_b0 _ | exact kd_b1 _ | exact kd_b2 _ | exact kd_b3 _ | exact kd_b4 _ | exact kd_b5 _ | exact kd_b6 _) (by omega) (by first | exact hFx _ 41 _ rfl | assumption | exact hBk.1 | exact hBk.2.1 | exact hBk.2.2.1 | exact hBk.2.2.2.1 | exact hBk.2.2.2.2.1 | exact hBk.2.2.2.2.2) ?_
                try simp (disch := omega) only [up_same, up_o, up_k]
                refine Wp.iconst dX12_findChain_175 ?_
                refine Wp.iload rfl dX12_findChain_176 ?_
                refine Wp.iconst dX12_findChain_178 ?_
                refine Wp.icmp_ne (tgt := 186) dX12_findChain_179 (by decide) (by first | omega | exact bI_R _ | exact cmp_R _ _ | assumption) (by first | omega | exact bI_R _ | exact cmp_R _ _ | assumption) (fun c179 => ?_) (fun c179 => ?_)
                · refine Wp.iload rfl dX12_findChain_186 ?_
                  refine Wp.iastore dX12_findChain_188 (by first | rfl | exact kd_b0 _ | exact kd_b1 _ | exact kd_b2 _ | exact kd_b3 _ | exact kd_b4 _ | exact kd_b5 _ | exact kd_b6 _) (by omega) (by omega) (by omega) ?_
                  refine Wp.aload_n rfl dX12_findChain_189 ?_
                  refine Wp.gr (kz := 41) rfl dX12_findChain_190 fkX12_92 (by first | rfl | exact kd_b0 _ | exact kd_b1 _ | exact kd_b2 _ | exact kd_b3 _ | exact kd_b4 _ | exact kd_b5 _ | exact kd_b6 _) (by omega) (by first | exact hFx _ 41 _ rfl | assumption | exact hBk.1 | exact hBk.2.1 | exact hBk.2.2.1 | exact hBk.2.2.2.1 | exact hBk.2.2.2.2.1 | exact hBk.2.2.2.2.2) ?_
                  try simp (disch := omega) only [up_same, up_o, up_k]
                  refine Wp.iconst dX12_findChain_193 ?_
                  refine Wp.iload_n rfl dX12_findChain_194 ?_
                  refine Wp.iastore dX12_findChain_195 (by first | rfl | exact kd_b0 _ | exact kd_b1 _ | exact kd_b2 _ | exact kd_b3 _ | exact kd_b4 _ | exact kd_b5 _ | exact kd_b6 _) (by omega) (by omega) (by omega) ?_
                  refine Wp.iinc (ls' := [_, _, _, _, _, _, _, _, _]) rfl dX12_findChain_196 (by decide) rfl ?_
                  refine Wp.goto (tgt := 15) dX12_findChain_199 (by decide) ?_
                  first | exact ih (k + 1) _ J _ _ _ _ (by omega) (by omega) e0 (cs_no hstep (by omega) e1) | exact ih (k + 1) _ _ _ _ _ _ (by omega) (by omega) (((((e0.wr (by unfold scr; omega)).wr (by unfold scr; omega)).wr (by unfold scr; omega)).wr (by unfold scr; omega)).wr (by unfold scr; omega)) (cs_yes hstep (by omega) ⟨by simp (disch := omega) only [up_same, up_o, up_k], fun _ => ⟨by simp (disch := omega) only [up_same, up_o, up_k], by simp (disch := omega) only [up_same, up_o, up_k]; first | rw [if_pos (by omega)] | rw [if_neg (by omega)], by simp (disch := omega) only [up_same, up_o, up_k]; first | rw [if_pos (by omega)] | rw [if_neg (by omega)], by simp (disch := omega) only [up_same, up_o, up_k]⟩⟩) | (exfalso; omega)
                · refine Wp.iload_n rfl dX12_findChain_182 ?_
                  refine Wp.goto (tgt := 188) dX12_findChain_183 (by decide) ?_
                  refine Wp.iastore dX12_findChain_188 (by first | rfl | exact kd_b0 _ | exact kd_b1 _ | exact kd_b2 _ | exact kd_b3 _ | exact kd_b4 _ | exact kd_b5 _ | exact kd_b6 _) (by omega) (by omega) (by omega) ?_
                  refine Wp.aload_n rfl dX12_findChain_189 ?_
                  refine Wp.gr (kz := 41) rfl dX12_findChain_190 fkX12_92 (by first | rfl | exact kd_b0 _ | exact kd_b1 _ | exact kd_b2 _ | exact kd_b3 _ | exact kd_b4 _ | exact kd_b5 _ | exact kd_b6 _) (by omega) (by first | exact hFx _ 41 _ rfl | assumption | exact hBk.1 | exact hBk.2.1 | exact hBk.2.2.1 | exact hBk.2.2.2.1 | exact hBk.2.2.2.2.1 | exact hBk.2.2.2.2.2) ?_
                  try simp (disch := omega) only [up_same, up_o, up_k]
                  refine Wp.iconst dX12_findChain_193 ?_
                  refine Wp.iload_n rfl dX12_findChain_194 ?_
                  refine Wp.iastore dX12_findChain_195 (by first | rfl | exact kd_b0 _ | exact kd_b1 _ | exact kd_b2 _ | exact kd_b3 _ | exact kd_b4 _ | exact kd_b5 _ | exact kd_b6 _) (by omega) (by omega) (by omega) ?_
                  refine Wp.iinc (ls' := [_, _, _, _, _, _, _, _, _]) rfl dX12_findChain_196 (by decide) rfl ?_
                  refine Wp.goto (tgt := 15) dX12_findChain_199 (by decide) ?_
                  first | exact ih (k + 1) _ J _ _ _ _ (by omega) (by omega) e0 (cs_no hstep (by omega) e1) | exact ih (k + 1) _ _ _ _ _ _ (by omega) (by omega) (((((e0.wr (by unfold scr; omega)).wr (by unfold scr; omega)).wr (by unfold scr; omega)).wr (by unfold scr; omega)).wr (by unfold scr; omega)) (cs_yes hstep (by omega) ⟨by simp (disch := omega) only [up_same, up_o, up_k], fun _ => ⟨by simp (disch := omega) only [up_same, up_o, up_k], by simp (disch := omega) only [up_same, up_o, up_k]; first | rw [if_pos (by omega)] | rw [if_neg (by omega)], by simp (disch := omega) only [up_same, up_o, up_k]; first | rw [if_pos (by omega)] | rw [if_neg (by omega)], by simp (disch := omega) only [up_same, up_o, up_k]⟩⟩) | (exfalso; omega)
      refine Wp.iload rfl dX12_findChain_15 ?_
      refine Wp.iconst dX12_findChain_17 ?_
      refine Wp.icmp_ge (tgt := 202) dX12_findChain_18 (by decide) (by first | omega | exact bI_R _ | exact cmp_R _ _ | assumption) (by first | omega | exact bI_R _ | exact cmp_R _ _ | assumption) (fun c18 => ?_) (fun c18 => ?_)
      · exfalso; omega
      · refine Wp.aload_n rfl dX12_findChain_21 ?_
        refine Wp.iload_n rfl dX12_findChain_22 ?_
        refine Wp.iload_n rfl dX12_findChain_23 ?_
        refine Wp.callV (As := [_, _]) (ls0 := [_, _, _, _, _]) (bd := (0, 0)) (bd' := (0, 0)) dX12_findChain_24 kmX12_leads lkX12_273 (by decide) (by decide) (Nat.le_of_ble_eq_true rfl) (by first | rfl | exact kd_b0 _ | exact kd_b1 _ | exact kd_b2 _ | exact kd_b3 _ | exact kd_b4 _ | exact kd_b5 _ | exact kd_b6 _) (by omega) rfl rfl (Nat.le_of_ble_eq_true rfl) rfl ?_
        refine ct_X12_leads hn hFx hWJ (by omega) (by omega) ?_
        rw [hld]
        show Wp _ _ _ (_ :: _) _ _ _
        refine Wp.istore (ls' := [_, _, _, _, _, _, _, _, _]) dX12_findChain_27 (by decide) rfl ?_
        refine Wp.aload_n rfl dX12_findChain_29 ?_
        refine Wp.iload_n rfl dX12_findChain_30 ?_
        refine Wp.iload_n rfl dX12_findChain_31 ?_
        refine Wp.callV (As := [_, _]) (ls0 := [_, _, _, _, _]) (bd := (0, 0)) (bd' := (0, 0)) dX12_findChain_32 kmX12_leads lkX12_273 (by decide) (by decide) (Nat.le_of_ble_eq_true rfl) (by first | rfl | exact kd_b0 _ | exact kd_b1 _ | exact kd_b2 _ | exact kd_b3 _ | exact kd_b4 _ | exact kd_b5 _ | exact kd_b6 _) (by omega) rfl rfl (Nat.le_of_ble_eq_true rfl) rfl ?_
        refine ct_X12_leads hn hFx hWJ (by omega) (by omega) ?_
        rw [hld]
        show Wp _ _ _ (_ :: _) _ _ _
        refine Wp.if_eqB (tgt := 51) dX12_findChain_35 (by decide) (fun c35 => ?_) (fun c35 => ?_)
        · refine Wp.iconst dX12_findChain_51 ?_
          refine Wp.istore (ls' := [_, _, _, _, _, _, _, _, _]) dX12_findChain_52 (by decide) rfl ?_
          refine Wp.aload_n rfl dX12_findChain_54 ?_
          refine Wp.iload_n rfl dX12_findChain_55 ?_
          refine Wp.iload_n rfl dX12_findChain_56 ?_
          refine Wp.callV (As := [_, _]) (ls0 := [_, _, _, _, _]) (bd := (0, 0)) (bd' := (0, 0)) dX12_findChain_57 kmX12_leads lkX12_273 (by decide) (by decide) (Nat.le_of_ble_eq_true rfl) (by first | rfl | exact kd_b0 _ | exact kd_b1 _ | exact kd_b2 _ | exact kd_b3 _ | exact kd_b4 _ | exact kd_b5 _ | exact kd_b6 _) (by omega) rfl rfl (Nat.le_of_ble_eq_true rfl) rfl ?_
          refine ct_X12_leads hn hFx hWJ (by omega) (by omega) ?_
          rw [hld]
          show Wp _ _ _ (_ :: _) _ _ _
          refine Wp.if_eqB (tgt := 87) dX12_findChain_60 (by decide) (fun c60 => ?_) (fun c60 => ?_)
          · refine Wp.iconst dX12_findChain_87 ?_
            refine Wp.istore (ls' := [_, _, _, _, _, _, _, _, _]) dX12_findChain_88 (by decide) rfl ?_
            refine Wp.iload rfl dX12_findChain_90 ?_
            refine Wp.if_eqB (tgt := 99) dX12_findChain_92 (by decide) (fun c92 => ?_) (fun c92 => ?_)
            · refine Wp.iload rfl dX12_findChain_99 ?_
              refine Wp.if_eq (tgt := 108) dX12_findChain_101 (by decide) (by first | omega | exact bI_R _ | exact cmp_R _ _ | assumption) (fun c101 => ?_) (fun c101 => ?_)
              · refine Wp.iload rfl dX12_findChain_108 ?_
                refine Wp.if_eq (tgt := 117) dX12_findChain_110 (by decide) (by first | omega | exact bI_R _ | exact cmp_R _ _ | assumption) (fun c110 => ?_) (fun c110 => ?_)
                · refine Wp.iconst dX12_findChain_117 ?_
                  exact h118 _ _ _ _ (by unfold fcZ; simp_all)
                · refine Wp.iconst dX12_findChain_113 ?_
                  refine Wp.goto (tgt := 118) dX12_findChain_114 (by decide) ?_
                  exact h118 _ _ _ _ (by unfold fcZ; simp_all)
              · refine Wp.iconst dX12_findChain_104 ?_
                refine Wp.goto (tgt := 118) dX12_findChain_105 (by decide) ?_
                exact h118 _ _ _ _ (by unfold fcZ; simp_all)
            · refine Wp.iconst dX12_findChain_95 ?_
              refine Wp.goto (tgt := 118) dX12_findChain_96 (by decide) ?_
              exact h118 _ _ _ _ (by unfold fcZ; simp_all)
          · refine Wp.aload_n rfl dX12_findChain_63 ?_
            refine Wp.iload_n rfl dX12_findChain_64 ?_
            refine Wp.iload rfl dX12_findChain_65 ?_
            refine Wp.callV (As := [_, _]) (ls0 := [_, _, _, _, _]) (bd := (0, 0)) (bd' := (0, 0)) dX12_findChain_67 kmX12_leads lkX12_273 (by decide) (by decide) (Nat.le_of_ble_eq_true rfl) (by first | rfl | exact kd_b0 _ | exact kd_b1 _ | exact kd_b2 _ | exact kd_b3 _ | exact kd_b4 _ | exact kd_b5 _ | exact kd_b6 _) (by omega) rfl rfl (Nat.le_of_ble_eq_true rfl) rfl ?_
            refine ct_X12_leads hn hFx hWJ (by omega) (by omega) ?_
            rw [hld]
            show Wp _ _ _ (_ :: _) _ _ _
            refine Wp.if_eqB (tgt := 87) dX12_findChain_70 (by decide) (fun c70 => ?_) (fun c70 => ?_)
            · refine Wp.iconst dX12_findChain_87 ?_
              refine Wp.istore (ls' := [_, _, _, _, _, _, _, _, _]) dX12_findChain_88 (by decide) rfl ?_
              refine Wp.iload rfl dX12_findChain_90 ?_
              refine Wp.if_eqB (tgt := 99) dX12_findChain_92 (by decide) (fun c92 => ?_) (fun c92 => ?_)
              · refine Wp.iload rfl dX12_findChain_99 ?_
                refine Wp.if_eq (tgt := 108) dX12_findChain_101 (by decide) (by first | omega | exact bI_R _ | exact cmp_R _ _ | assumption) (fun c101 => ?_) (fun c101 => ?_)
                · refine Wp.iload rfl dX12_findChain_108 ?_
                  refine Wp.if_eq (tgt := 117) dX12_findChain_110 (by decide) (by first | omega | exact bI_R _ | exact cmp_R _ _ | assumption) (fun c110 => ?_) (fun c110 => ?_)
                  · refine Wp.iconst dX12_findChain_117 ?_
                    exact h118 _ _ _ _ (by unfold fcZ; simp_all)
                  · refine Wp.iconst dX12_findChain_113 ?_
                    refine Wp.goto (tgt := 118) dX12_findChain_114 (by decide) ?_
                    exact h118 _ _ _ _ (by unfold fcZ; simp_all)
                · refine Wp.iconst dX12_findChain_104 ?_
                  refine Wp.goto (tgt := 118) dX12_findChain_105 (by decide) ?_
                  exact h118 _ _ _ _ (by unfold fcZ; simp_all)
              · refine Wp.iconst dX12_findChain_95 ?_
                refine Wp.goto (tgt := 118) dX12_findChain_96 (by decide) ?_
                exact h118 _ _ _ _ (by unfold fcZ; simp_all)
            · refine Wp.aload_n rfl dX12_findChain_73 ?_
              refine Wp.iload rfl dX12_findChain_74 ?_
              refine Wp.iload_n rfl dX12_findChain_76 ?_
              refine Wp.callV (As := [_, _]) (ls0 := [_, _, _, _, _]) (bd := (0, 0)) (bd' := (0, 0)) dX12_findChain_77 kmX12_leads lkX12_273 (by decide) (by decide) (Nat.le_of_ble_eq_true rfl) (by first | rfl | exact kd_b0 _ | exact kd_b1 _ | exact kd_b2 _ | exact kd_b3 _ | exact kd_b4 _ | exact kd_b5 _ | exact kd_b6 _) (by omega) rfl rfl (Nat.le_of_ble_eq_true rfl) rfl ?_
              refine ct_X12_leads hn hFx hWJ (by omega) (by omega) ?_
              rw [hld]
              show Wp _ _ _ (_ :: _) _ _ _
              refine Wp.if_eqB (tgt := 87) dX12_findChain_80 (by decide) (fun c80 => ?_) (fun c80 => ?_)
              · refine Wp.iconst dX12_findChain_87 ?_
                refine Wp.istore (ls' := [_, _, _, _, _, _, _, _, _]) dX12_findChain_88 (by decide) rfl ?_
                refine Wp.iload rfl dX12_findChain_90 ?_
                refine Wp.if_eqB (tgt := 99) dX12_findChain_92 (by decide) (fun c92 => ?_) (fun c92 => ?_)
                · refine Wp.iload rfl dX12_findChain_99 ?_
                  refine Wp.if_eq (tgt := 108) dX12_findChain_101 (by decide) (by first | omega | exact bI_R _ | exact cmp_R _ _ | assumption) (fun c101 => ?_) (fun c101 => ?_)
                  · refine Wp.iload rfl dX12_findChain_108 ?_
                    refine Wp.if_eq (tgt := 117) dX12_findChain_110 (by decide) (by first | omega | exact bI_R _ | exact cmp_R _ _ | assumption) (fun c110 => ?_) (fun c110 => ?_)
                    · refine Wp.iconst dX12_findChain_117 ?_
                      exact h118 _ _ _ _ (by unfold fcZ; simp_all)
                    · refine Wp.iconst dX12_findChain_113 ?_
                      refine Wp.goto (tgt := 118) dX12_findChain_114 (by decide) ?_
                      exact h118 _ _ _ _ (by unfold fcZ; simp_all)
                  · refine Wp.iconst dX12_findChain_104 ?_
                    refine Wp.goto (tgt := 118) dX12_findChain_105 (by decide) ?_
                    exact h118 _ _ _ _ (by unfold fcZ; simp_all)
                · refine Wp.iconst dX12_findChain_95 ?_
                  refine Wp.goto (tgt := 118) dX12_findChain_96 (by decide) ?_
                  exact h118 _ _ _ _ (by unfold fcZ; simp_all)
              · refine Wp.iconst dX12_findChain_83 ?_
                refine Wp.goto (tgt := 88) dX12_findChain_84 (by decide) ?_
                refine Wp.istore (ls' := [_, _, _, _, _, _, _, _, _]) dX12_findChain_88 (by decide) rfl ?_
                refine Wp.iload rfl dX12_findChain_90 ?_
                refine Wp.if_eqB (tgt := 99) dX12_findChain_92 (by decide) (fun c92 => ?_) (fun c92 => ?_)
                · refine Wp.iload rfl dX12_findChain_99 ?_
                  refine Wp.if_eq (tgt := 108) dX12_findChain_101 (by decide) (by first | omega | exact bI_R _ | exact cmp_R _ _ | assumption) (fun c101 => ?_) (fun c101 => ?_)
                  · refine Wp.iload rfl dX12_findChain_108 ?_
                    refine Wp.if_eq (tgt := 117) dX12_findChain_110 (by decide) (by first | omega | exact bI_R _ | exact cmp_R _ _ | assumption) (fun c110 => ?_) (fun c110 => ?_)
                    · refine Wp.iconst dX12_findChain_117 ?_
                      exact h118 _ _ _ _ (by unfold fcZ; simp_all)
                    · refine Wp.iconst dX12_findChain_113 ?_
                      refine Wp.goto (tgt := 118) dX12_findChain_114 (by decide) ?_
                      exact h118 _ _ _ _ (by unfold fcZ; simp_all)
                  · refine Wp.iconst dX12_findChain_104 ?_
                    refine Wp.goto (tgt := 118) dX12_findChain_105 (by decide) ?_
                    exact h118 _ _ _ _ (by unfold fcZ; simp_all)
                · refine Wp.iconst dX12_findChain_95 ?_
                  refine Wp.goto (tgt := 118) dX12_findChain_96 (by decide) ?_
                  exact h118 _ _ _ _ (by unfold fcZ; simp_all)
        · refine Wp.aload_n rfl dX12_findChain_38 ?_
          refine Wp.iload_n rfl dX12_findChain_39 ?_
          refine Wp.iload_n rfl dX12_findChain_40 ?_
          refine Wp.callV (As := [_, _]) (ls0 := [_, _, _, _, _]) (bd := (0, 0)) (bd' := (0, 0)) dX12_findChain_41 kmX12_leads lkX12_273 (by decide) (by decide) (Nat.le_of_ble_eq_true rfl) (by first | rfl | exact kd_b0 _ | exact kd_b1 _ | exact kd_b2 _ | exact kd_b3 _ | exact kd_b4 _ | exact kd_b5 _ | exact kd_b6 _) (by omega) rfl rfl (Nat.le_of_ble_eq_true rfl) rfl ?_
          refine ct_X12_leads hn hFx hWJ (by omega) (by omega) ?_
          rw [hld]
          show Wp _ _ _ (_ :: _) _ _ _
          refine Wp.if_eqB (tgt := 51) dX12_findChain_44 (by decide) (fun c44 => ?_) (fun c44 => ?_)
          · refine Wp.iconst dX12_findChain_51 ?_
            refine Wp.istore (ls' := [_, _, _, _, _, _, _, _, _]) dX12_findChain_52 (by decide) rfl ?_
            refine Wp.aload_n rfl dX12_findChain_54 ?_
            refine Wp.iload_n rfl dX12_findChain_55 ?_
            refine Wp.iload_n rfl dX12_findChain_56 ?_
            refine Wp.callV (As := [_, _]) (ls0 := [_, _, _, _, _]) (bd := (0, 0)) (bd' := (0, 0)) dX12_findChain_57 kmX12_leads lkX12_273 (by decide) (by decide) (Nat.le_of_ble_eq_true rfl) (by first | rfl | exact kd_b0 _ | exact kd_b1 _ | exact kd_b2 _ | exact kd_b3 _ | exact kd_b4 _ | exact kd_b5 _ | exact kd_b6 _) (by omega) rfl rfl (Nat.le_of_ble_eq_true rfl) rfl ?_
            refine ct_X12_leads hn hFx hWJ (by omega) (by omega) ?_
            rw [hld]
            show Wp _ _ _ (_ :: _) _ _ _
            refine Wp.if_eqB (tgt := 87) dX12_findChain_60 (by decide) (fun c60 => ?_) (fun c60 => ?_)
            · refine Wp.iconst dX12_findChain_87 ?_
              refine Wp.istore (ls' := [_, _, _, _, _, _, _, _, _]) dX12_findChain_88 (by decide) rfl ?_
              refine Wp.iload rfl dX12_findChain_90 ?_
              refine Wp.if_eqB (tgt := 99) dX12_findChain_92 (by decide) (fun c92 => ?_) (fun c92 => ?_)
              · refine Wp.iload rfl dX12_findChain_99 ?_
                refine Wp.if_eq (tgt := 108) dX12_findChain_101 (by decide) (by first | omega | exact bI_R _ | exact cmp_R _ _ | assumption) (fun c101 => ?_) (fun c101 => ?_)
                · refine Wp.iload rfl dX12_findChain_108 ?_
                  refine Wp.if_eq (tgt := 117) dX12_findChain_110 (by decide) (by first | omega | exact bI_R _ | exact cmp_R _ _ | assumption) (fun c110 => ?_) (fun c110 => ?_)
                  · refine Wp.iconst dX12_findChain_117 ?_
                    exact h118 _ _ _ _ (by unfold fcZ; simp_all)
                  · refine Wp.iconst dX12_findChain_113 ?_
                    refine Wp.goto (tgt := 118) dX12_findChain_114 (by decide) ?_
                    exact h118 _ _ _ _ (by unfold fcZ; simp_all)
                · refine Wp.iconst dX12_findChain_104 ?_
                  refine Wp.goto (tgt := 118) dX12_findChain_105 (by decide) ?_
                  exact h118 _ _ _ _ (by unfold fcZ; simp_all)
              · refine Wp.iconst dX12_findChain_95 ?_
                refine Wp.goto (tgt := 118) dX12_findChain_96 (by decide) ?_
                exact h118 _ _ _ _ (by unfold fcZ; simp_all)
            · refine Wp.aload_n rfl dX12_findChain_63 ?_
              refine Wp.iload_n rfl dX12_findChain_64 ?_
              refine Wp.iload rfl dX12_findChain_65 ?_
              refine Wp.callV (As := [_, _]) (ls0 := [_, _, _, _, _]) (bd := (0, 0)) (bd' := (0, 0)) dX12_findChain_67 kmX12_leads lkX12_273 (by decide) (by decide) (Nat.le_of_ble_eq_true rfl) (by first | rfl | exact kd_b0 _ | exact kd_b1 _ | exact kd_b2 _ | exact kd_b3 _ | exact kd_b4 _ | exact kd_b5 _ | exact kd_b6 _) (by omega) rfl rfl (Nat.le_of_ble_eq_true rfl) rfl ?_
              refine ct_X12_leads hn hFx hWJ (by omega) (by omega) ?_
              rw [hld]
              show Wp _ _ _ (_ :: _) _ _ _
              refine Wp.if_eqB (tgt := 87) dX12_findChain_70 (by decide) (fun c70 => ?_) (fun c70 => ?_)
              · refine Wp.iconst dX12_findChain_87 ?_
                refine Wp.istore (ls' := [_, _, _, _, _, _, _, _, _]) dX12_findChain_88 (by decide) rfl ?_
                refine Wp.iload rfl dX12_findChain_90 ?_
                refine Wp.if_eqB (tgt := 99) dX12_findChain_92 (by decide) (fun c92 => ?_) (fun c92 => ?_)
                · refine Wp.iload rfl dX12_findChain_99 ?_
                  refine Wp.if_eq (tgt := 108) dX12_findChain_101 (by decide) (by first | omega | exact bI_R _ | exact cmp_R _ _ | assumption) (fun c101 => ?_) (fun c101 => ?_)
                  · refine Wp.iload rfl dX12_findChain_108 ?_
                    refine Wp.if_eq (tgt := 117) dX12_findChain_110 (by decide) (by first | omega | exact bI_R _ | exact cmp_R _ _ | assumption) (fun c110 => ?_) (fun c110 => ?_)
                    · refine Wp.iconst dX12_findChain_117 ?_
                      exact h118 _ _ _ _ (by unfold fcZ; simp_all)
                    · refine Wp.iconst dX12_findChain_113 ?_
                      refine Wp.goto (tgt := 118) dX12_findChain_114 (by decide) ?_
                      exact h118 _ _ _ _ (by unfold fcZ; simp_all)
                  · refine Wp.iconst dX12_findChain_104 ?_
                    refine Wp.goto (tgt := 118) dX12_findChain_105 (by decide) ?_
                    exact h118 _ _ _ _ (by unfold fcZ; simp_all)
                · refine Wp.iconst dX12_findChain_95 ?_
                  refine Wp.goto (tgt := 118) dX12_findChain_96 (by decide) ?_
                  exact h118 _ _ _ _ (by unfold fcZ; simp_all)
              · refine Wp.aload_n rfl dX12_findChain_73 ?_
                refine Wp.iload rfl dX12_findChain_74 ?_
                refine Wp.iload_n rfl dX12_findChain_76 ?_
                refine Wp.callV (As := [_, _]) (ls0 := [_, _, _, _, _]) (bd := (0, 0)) (bd' := (0, 0)) dX12_findChain_77 kmX12_leads lkX12_273 (by decide) (by decide) (Nat.le_of_ble_eq_true rfl) (by first | rfl | exact kd_b0 _ | exact kd_b1 _ | exact kd_b2 _ | exact kd_b3 _ | exact kd_b4 _ | exact kd_b5 _ | exact kd_b6 _) (by omega) rfl rfl (Nat.le_of_ble_eq_true rfl) rfl ?_
                refine ct_X12_leads hn hFx hWJ (by omega) (by omega) ?_
                rw [hld]
                show Wp _ _ _ (_ :: _) _ _ _
                refine Wp.if_eqB (tgt := 87) dX12_findChain_80 (by decide) (fun c80 => ?_) (fun c80 => ?_)
                · refine Wp.iconst dX12_findChain_87 ?_
                  refine Wp.istore (ls' := [_, _, _, _, _, _, _, _, _]) dX12_findChain_88 (by decide) rfl ?_
                  refine Wp.iload rfl dX12_findChain_90 ?_
                  refine Wp.if_eqB (tgt := 99) dX12_findChain_92 (by decide) (fun c92 => ?_) (fun c92 => ?_)
                  · refine Wp.iload rfl dX12_findChain_99 ?_
                    refine Wp.if_eq (tgt := 108) dX12_findChain_101 (by decide) (by first | omega | exact bI_R _ | exact cmp_R _ _ | assumption) (fun c101 => ?_) (fun c101 => ?_)
                    · refine Wp.iload rfl dX12_findChain_108 ?_
                      refine Wp.if_eq (tgt := 117) dX12_findChain_110 (by decide) (by first | omega | exact bI_R _ | exact cmp_R _ _ | assumption) (fun c110 => ?_) (fun c110 => ?_)
                      · refine Wp.iconst dX12_findChain_117 ?_
                        exact h118 _ _ _ _ (by unfold fcZ; simp_all)
                      · refine Wp.iconst dX12_findChain_113 ?_
                        refine Wp.goto (tgt := 118) dX12_findChain_114 (by decide) ?_
                        exact h118 _ _ _ _ (by unfold fcZ; simp_all)
                    · refine Wp.iconst dX12_findChain_104 ?_
                      refine Wp.goto (tgt := 118) dX12_findChain_105 (by decide) ?_
                      exact h118 _ _ _ _ (by unfold fcZ; simp_all)
                  · refine Wp.iconst dX12_findChain_95 ?_
                    refine Wp.goto (tgt := 118) dX12_findChain_96 (by decide) ?_
                    exact h118 _ _ _ _ (by unfold fcZ; simp_all)
                · refine Wp.iconst dX12_findChain_83 ?_
                  refine Wp.goto (tgt := 88) dX12_findChain_84 (by decide) ?_
                  refine Wp.istore (ls' := [_, _, _, _, _, _, _, _, _]) dX12_findChain_88 (by decide) rfl ?_
                  refine Wp.iload rfl dX12_findChain_90 ?_
                  refine Wp.if_eqB (tgt := 99) dX12_findChain_92 (by decide) (fun c92 => ?_) (fun c92 => ?_)
                  · refine Wp.iload rfl dX12_findChain_99 ?_
                    refine Wp.if_eq (tgt := 108) dX12_findChain_101 (by decide) (by first | omega | exact bI_R _ | exact cmp_R _ _ | assumption) (fun c101 => ?_) (fun c101 => ?_)
                    · refine Wp.iload rfl dX12_findChain_108 ?_
                      refine Wp.if_eq (tgt := 117) dX12_findChain_110 (by decide) (by first | omega | exact bI_R _ | exact cmp_R _ _ | assumption) (fun c110 => ?_) (fun c110 => ?_)
                      · refine Wp.iconst dX12_findChain_117 ?_
                        exact h118 _ _ _ _ (by unfold fcZ; simp_all)
                      · refine Wp.iconst dX12_findChain_113 ?_
                        refine Wp.goto (tgt := 118) dX12_findChain_114 (by decide) ?_
                        exact h118 _ _ _ _ (by unfold fcZ; simp_all)
                    · refine Wp.iconst dX12_findChain_104 ?_
                      refine Wp.goto (tgt := 118) dX12_findChain_105 (by decide) ?_
                      exact h118 _ _ _ _ (by unfold fcZ; simp_all)
                  · refine Wp.iconst dX12_findChain_95 ?_
                    refine Wp.goto (tgt := 118) dX12_findChain_96 (by decide) ?_
                    exact h118 _ _ _ _ (by unfold fcZ; simp_all)
          · refine Wp.iconst dX12_findChain_47 ?_
            refine Wp.goto (tgt := 52) dX12_findChain_48 (by decide) ?_
            refine Wp.istore (ls' := [_, _, _, _, _, _, _, _, _]) dX12_findChain_52 (by decide) rfl ?_
            refine Wp.aload_n rfl dX12_findChain_54 ?_
            refine Wp.iload_n rfl dX12_findChain_55 ?_
            refine Wp.iload_n rfl dX12_findChain_56 ?_
            refine Wp.callV (As := [_, _]) (ls0 := [_, _, _, _, _]) (bd := (0, 0)) (bd' := (0, 0)) dX12_findChain_57 kmX12_leads lkX12_273 (by decide) (by decide) (Nat.le_of_ble_eq_true rfl) (by first | rfl | exact kd_b0 _ | exact kd_b1 _ | exact kd_b2 _ | exact kd_b3 _ | exact kd_b4 _ | exact kd_b5 _ | exact kd_b6 _) (by omega) rfl rfl (Nat.le_of_ble_eq_true rfl) rfl ?_
            refine ct_X12_leads hn hFx hWJ (by omega) (by omega) ?_
            rw [hld]
            show Wp _ _ _ (_ :: _) _ _ _
            refine Wp.if_eqB (tgt := 87) dX12_findChain_60 (by decide) (fun c60 => ?_) (fun c60 => ?_)
            · refine Wp.iconst dX12_findChain_87 ?_
              refine Wp.istore (ls' := [_, _, _, _, _, _, _, _, _]) dX12_findChain_88 (by decide) rfl ?_
              refine Wp.iload rfl dX12_findChain_90 ?_
              refine Wp.if_eqB (tgt := 99) dX12_findChain_92 (by decide) (fun c92 => ?_) (fun c92 => ?_)
              · refine Wp.iload rfl dX12_findChain_99 ?_
                refine Wp.if_eq (tgt := 108) dX12_findChain_101 (by decide) (by first | omega | exact bI_R _ | exact cmp_R _ _ | assumption) (fun c101 => ?_) (fun c101 => ?_)
                · refine Wp.iload rfl dX12_findChain_108 ?_
                  refine Wp.if_eq (tgt := 117) dX12_findChain_110 (by decide) (by first | omega | exact bI_R _ | exact cmp_R _ _ | assumption) (fun c110 => ?_) (fun c110 => ?_)
                  · refine Wp.iconst dX12_findChain_117 ?_
                    exact h118 _ _ _ _ (by unfold fcZ; simp_all)
                  · refine Wp.iconst dX12_findChain_113 ?_
                    refine Wp.goto (tgt := 118) dX12_findChain_114 (by decide) ?_
                    exact h118 _ _ _ _ (by unfold fcZ; simp_all)
                · refine Wp.iconst dX12_findChain_104 ?_
                  refine Wp.goto (tgt := 118) dX12_findChain_105 (by decide) ?_
                  exact h118 _ _ _ _ (by unfold fcZ; simp_all)
              · refine Wp.iconst dX12_findChain_95 ?_
                refine Wp.goto (tgt := 118) dX12_findChain_96 (by decide) ?_
                exact h118 _ _ _ _ (by unfold fcZ; simp_all)
            · refine Wp.aload_n rfl dX12_findChain_63 ?_
              refine Wp.iload_n rfl dX12_findChain_64 ?_
              refine Wp.iload rfl dX12_findChain_65 ?_
              refine Wp.callV (As := [_, _]) (ls0 := [_, _, _, _, _]) (bd := (0, 0)) (bd' := (0, 0)) dX12_findChain_67 kmX12_leads lkX12_273 (by decide) (by decide) (Nat.le_of_ble_eq_true rfl) (by first | rfl | exact kd_b0 _ | exact kd_b1 _ | exact kd_b2 _ | exact kd_b3 _ | exact kd_b4 _ | exact kd_b5 _ | exact kd_b6 _) (by omega) rfl rfl (Nat.le_of_ble_eq_true rfl) rfl ?_
              refine ct_X12_leads hn hFx hWJ (by omega) (by omega) ?_
              rw [hld]
              show Wp _ _ _ (_ :: _) _ _ _
              refine Wp.if_eqB (tgt := 87) dX12_findChain_70 (by decide) (fun c70 => ?_) (fun c70 => ?_)
              · refine Wp.iconst dX12_findChain_87 ?_
                refine Wp.istore (ls' := [_, _, _, _, _, _, _, _, _]) dX12_findChain_88 (by decide) rfl ?_
                refine Wp.iload rfl dX12_findChain_90 ?_
                refine Wp.if_eqB (tgt := 99) dX12_findChain_92 (by decide) (fun c92 => ?_) (fun c92 => ?_)
                · refine Wp.iload rfl dX12_findChain_99 ?_
                  refine Wp.if_eq (tgt := 108) dX12_findChain_101 (by decide) (by first | omega | exact bI_R _ | exact cmp_R _ _ | assumption) (fun c101 => ?_) (fun c101 => ?_)
                  · refine Wp.iload rfl dX12_findChain_108 ?_
                    refine Wp.if_eq (tgt := 117) dX12_findChain_110 (by decide) (by first | omega | exact bI_R _ | exact cmp_R _ _ | assumption) (fun c110 => ?_) (fun c110 => ?_)
                    · refine Wp.iconst dX12_findChain_117 ?_
                      exact h118 _ _ _ _ (by unfold fcZ; simp_all)
                    · refine Wp.iconst dX12_findChain_113 ?_
                      refine Wp.goto (tgt := 118) dX12_findChain_114 (by decide) ?_
                      exact h118 _ _ _ _ (by unfold fcZ; simp_all)
                  · refine Wp.iconst dX12_findChain_104 ?_
                    refine Wp.goto (tgt := 118) dX12_findChain_105 (by decide) ?_
                    exact h118 _ _ _ _ (by unfold fcZ; simp_all)
                · refine Wp.iconst dX12_findChain_95 ?_
                  refine Wp.goto (tgt := 118) dX12_findChain_96 (by decide) ?_
                  exact h118 _ _ _ _ (by unfold fcZ; simp_all)
              · refine Wp.aload_n rfl dX12_findChain_73 ?_
                refine Wp.iload rfl dX12_findChain_74 ?_
                refine Wp.iload_n rfl dX12_findChain_76 ?_
                refine Wp.callV (As := [_, _]) (ls0 := [_, _, _, _, _]) (bd := (0, 0)) (bd' := (0, 0)) dX12_findChain_77 kmX12_leads lkX12_273 (by decide) (by decide) (Nat.le_of_ble_eq_true rfl) (by first | rfl | exact kd_b0 _ | exact kd_b1 _ | exact kd_b2 _ | exact kd_b3 _ | exact kd_b4 _ | exact kd_b5 _ | exact kd_b6 _) (by omega) rfl rfl (Nat.le_of_ble_eq_true rfl) rfl ?_
                refine ct_X12_leads hn hFx hWJ (by omega) (by omega) ?_
                rw [hld]
                show Wp _ _ _ (_ :: _) _ _ _
                refine Wp.if_eqB (tgt := 87) dX12_findChain_80 (by decide) (fun c80 => ?_) (fun c80 => ?_)
                · refine Wp.iconst dX12_findChain_87 ?_
                  refine Wp.istore (ls' := [_, _, _, _, _, _, _, _, _]) dX12_findChain_88 (by decide) rfl ?_
                  refine Wp.iload rfl dX12_findChain_90 ?_
                  refine Wp.if_eqB (tgt := 99) dX12_findChain_92 (by decide) (fun c92 => ?_) (fun c92 => ?_)
                  · refine Wp.iload rfl dX12_findChain_99 ?_
                    refine Wp.if_eq (tgt := 108) dX12_findChain_101 (by decide) (by first | omega | exact bI_R _ | exact cmp_R _ _ | assumption) (fun c101 => ?_) (fun c101 => ?_)
                    · refine Wp.iload rfl dX12_findChain_108 ?_
                      refine Wp.if_eq (tgt := 117) dX12_findChain_110 (by decide) (by first | omega | exact bI_R _ | exact cmp_R _ _ | assumption) (fun c110 => ?_) (fun c110 => ?_)
                      · refine Wp.iconst dX12_findChain_117 ?_
                        exact h118 _ _ _ _ (by unfold fcZ; simp_all)
                      · refine Wp.iconst dX12_findChain_113 ?_
                        refine Wp.goto (tgt := 118) dX12_findChain_114 (by decide) ?_
                        exact h118 _ _ _ _ (by unfold fcZ; simp_all)
                    · refine Wp.iconst dX12_findChain_104 ?_
                      refine Wp.goto (tgt := 118) dX12_findChain_105 (by decide) ?_
                      exact h118 _ _ _ _ (by unfold fcZ; simp_all)
                  · refine Wp.iconst dX12_findChain_95 ?_
                    refine Wp.goto (tgt := 118) dX12_findChain_96 (by decide) ?_
                    exact h118 _ _ _ _ (by unfold fcZ; simp_all)
                · refine Wp.iconst dX12_findChain_83 ?_
                  refine Wp.goto (tgt := 88) dX12_findChain_84 (by decide) ?_
                  refine Wp.istore (ls' := [_, _, _, _, _, _, _, _, _]) dX12_findChain_88 (by decide) rfl ?_
                  refine Wp.iload rfl dX12_findChain_90 ?_
                  refine Wp.if_eqB (tgt := 99) dX12_findChain_92 (by decide) (fun c92 => ?_) (fun c92 => ?_)
                  · refine Wp.iload rfl dX12_findChain_99 ?_
                    refine Wp.if_eq (tgt := 108) dX12_findChain_101 (by decide) (by first | omega | exact bI_R _ | exact cmp_R _ _ | assumption) (fun c101 => ?_) (fun c101 => ?_)
                    · refine Wp.iload rfl dX12_findChain_108 ?_
                      refine Wp.if_eq (tgt := 117) dX12_findChain_110 (by decide) (by first | omega | exact bI_R _ | exact cmp_R _ _ | assumption) (fun c110 => ?_) (fun c110 => ?_)
                      · refine Wp.iconst dX12_findChain_117 ?_
                        exact h118 _ _ _ _ (by unfold fcZ; simp_all)
                      · refine Wp.iconst dX12_findChain_113 ?_
                        refine Wp.goto (tgt := 118) dX12_findChain_114 (by decide) ?_
                        exact h118 _ _ _ _ (by unfold fcZ; simp_all)
                    · refine Wp.iconst dX12_findChain_104 ?_
                      refine Wp.goto (tgt := 118) dX12_findChain_105 (by decide) ?_
                      exact h118 _ _ _ _ (by unfold fcZ; simp_all)
                  · refine Wp.iconst dX12_findChain_95 ?_
                    refine Wp.goto (tgt := 118) dX12_findChain_96 (by decide) ?_
                    exact h118 _ _ _ _ (by unfold fcZ; simp_all)
  have lx : ∀ (tt k : Nat) (z : Int) (J : Nat → Int → Int) (x4 : Option AV) (x5 : Option AV) (x6 : Option AV) (x7 : Option AV) (x8 : Option AV), k + tt = 4 → z = k → Eqv I J → cSt J a b (fcX (ldB I (I 32 11)) a b k) → Wp mX12_findChain 7 [some (vr (some 32)), some (vi a), some (vi b), some (vi z), x4, x5, x6, x7, x8] [] (J, L, R, n) (0, 0) Q := by
    intro tt
    induction tt with
    | zero =>
      intro k z J x4 x5 x6 x7 x8 hkt hz e0 e1
      obtain rfl : k = 4 := by omega
      refine Wp.iload_n rfl dX12_findChain_7 ?_
      refine Wp.iconst dX12_findChain_8 ?_
      refine Wp.icmp_ge (tgt := 208) dX12_findChain_9 (by decide) (by first | omega | exact bI_R _ | exact cmp_R _ _ | assumption) (by first | omega | exact bI_R _ | exact cmp_R _ _ | assumption) (fun c9 => ?_) (fun c9 => ?_)
      · refine Wp.vreturn dX12_findChain_208 rfl ?_
        first | (exfalso; omega) | (exact hq _ e0 e1)
      · exfalso; omega
    | succ tt ih =>
      intro k z J x4 x5 x6 x7 x8 hkt hz e0 e1
      subst hz
      have h202 : ∀ (J : Nat → Int → Int) (x4 x5 x6 x7 x8 : Option AV), Eqv I J → cSt J a b (fcX (ldB I (I 32 11)) a b (k + 1)) → Wp mX12_findChain 202 [some (vr (some 32)), some (vi a), some (vi b), some (vi k), x4, x5, x6, x7, x8] [] (J, L, R, n) (0, 0) Q := by
        intro J x4 x5 x6 x7 x8 f0 f1
        refine Wp.iinc (ls' := [_, _, _, _, _, _, _, _, _]) rfl dX12_findChain_202 (by decide) rfl ?_
        refine Wp.goto (tgt := 7) dX12_findChain_205 (by decide) ?_
        exact ih (k + 1) _ J _ _ _ _ _ (by omega) (by omega) f0 f1
      refine Wp.iload_n rfl dX12_findChain_7 ?_
      refine Wp.iconst dX12_findChain_8 ?_
      refine Wp.icmp_ge (tgt := 208) dX12_findChain_9 (by decide) (by first | omega | exact bI_R _ | exact cmp_R _ _ | assumption) (by first | omega | exact bI_R _ | exact cmp_R _ _ | assumption) (fun c9 => ?_) (fun c9 => ?_)
      · exfalso; omega
      · refine Wp.iconst dX12_findChain_12 ?_
        refine Wp.istore (ls' := [_, _, _, _, _, _, _, _, _]) dX12_findChain_13 (by decide) rfl ?_
        exact ly k (by omega) _ (fcX_ok hb k (by omega)) h202 4 0 _ J _ _ _ _ (by omega) (by omega) e0 e1
  refine Wp.aload_n rfl dX12_findChain_0 ?_
  refine Wp.iconst dX12_findChain_1 ?_
  refine Wp.pi (kz := 42) rfl dX12_findChain_2 fkX12_270 (Or.inl rfl) (Or.inl rfl) (by first | rfl | exact kd_b0 _ | exact kd_b1 _ | exact kd_b2 _ | exact kd_b3 _ | exact kd_b4 _ | exact kd_b5 _ | exact kd_b6 _) (by omega) ?_
  refine Wp.iconst dX12_findChain_5 ?_
  refine Wp.istore_n (ls' := [_, _, _, _, _, _, _, _, _]) dX12_findChain_6 (by decide) rfl ?_
  exact lx 4 0 _ _ _ _ _ _ _ (by omega) (by omega) ((Eqv.rf I).wr (by unfold scr; omega)) ⟨by rw [up_same]; rfl, fun h => absurd (show (0 : Int) < 0 from h) (by decide)⟩
theorem cSt_at {J : Nat → Int → Int} {a b : Int} {s : CS} (h : cSt J a b s) (h4 : s.1 ≤ 4) {i : Int} (h0 : 0 ≤ i) (h1 : i < s.1) : J 55 i = chAt a b s i := by
  have h2 := h.2 (by omega)
  unfold chAt
  rcases (show i = 0 ∨ i = 1 ∨ i = 2 ∨ i = 3 by omega) with rfl | rfl | rfl | rfl
  · exact h2.1
  · exact h2.2.1
  · exact h2.2.2.1
  · exact h2.2.2.2
theorem ct_X12_chain {a b i : Int} (hn : 57 ≤ n) (hFx : Fx R) (hW : RW I) (ha : inR a) (hb : inR b) (hi : inR i) (hq : ∀ J, Eqv I J → Q (some (vi (aChain (ldB I (I 32 11)) a b i))) (J, L, R, n)) : Wp mX12_chain 0 [some (vr (some 32)), some (vi a), some (vi b), some (vi i)] [] (I, L, R, n) (0, 0) Q := by
  have hcok : tgP b → csOk (chS (ldB I (I 32 11)) a b) := fun h => fcX_ok h 4 (by omega)
  have hQ : ∀ J v, Eqv I J → v = aChain (ldB I (I 32 11)) a b i → Q (some (vi v)) (J, L, R, n) := fun J v h e => e ▸ hq J h
  unfold aChain at hQ
  refine Wp.iload_n rfl dX12_chain_0 ?_
  refine Wp.callS (As := [_]) (ls0 := [_]) (bd := (0, 0)) (bd' := (0, 0)) dX12_chain_1 kmX12_isTongue lkX12_147 (by decide) (by decide) (Nat.le_of_ble_eq_true rfl) rfl rfl (Nat.le_of_ble_eq_true rfl) rfl ?_
  refine ct_X12_isTongue (by omega) ?_
  show Wp _ _ _ (_ :: _) _ _ _
  refine Wp.if_eqB (tgt := 14) dX12_chain_4 (by decide) (fun c4 => ?_) (fun c4 => ?_)
  · refine Wp.sipush rfl dX12_chain_14 ?_
    refine Wp.ireturn dX12_chain_17 rfl ?_
    first | (exfalso; omega) | (exact hQ _ _ (Eqv.rf I) (by (repeat' split) <;> first | (exfalso; omega) | rfl))
  · refine Wp.iload_n rfl dX12_chain_7 ?_
    refine Wp.callS (As := [_]) (ls0 := [_]) (bd := (0, 0)) (bd' := (0, 0)) dX12_chain_8 kmX12_isTongue lkX12_147 (by decide) (by decide) (Nat.le_of_ble_eq_true rfl) rfl rfl (Nat.le_of_ble_eq_true rfl) rfl ?_
    refine ct_X12_isTongue (by omega) ?_
    show Wp _ _ _ (_ :: _) _ _ _
    refine Wp.if_neB (tgt := 18) dX12_chain_11 (by decide) (fun c11 => ?_) (fun c11 => ?_)
    · refine Wp.iload_n rfl dX12_chain_18 ?_
      refine Wp.iload_n rfl dX12_chain_19 ?_
      refine Wp.icmp_ne (tgt := 27) dX12_chain_20 (by decide) (by first | omega | exact bI_R _ | exact cmp_R _ _ | assumption) (by first | omega | exact bI_R _ | exact cmp_R _ _ | assumption) (fun c20 => ?_) (fun c20 => ?_)
      · refine Wp.aload_n rfl dX12_chain_27 ?_
        refine Wp.iload_n rfl dX12_chain_28 ?_
        refine Wp.iload_n rfl dX12_chain_29 ?_
        refine Wp.callV (As := [_, _]) (ls0 := [_, _, _, _, _, _, _, _, _]) (bd := (0, 0)) (bd' := (0, 0)) dX12_chain_30 kmX12_findChain lkX12_277 (by decide) (by decide) (Nat.le_of_ble_eq_true rfl) (by first | rfl | exact kd_b0 _ | exact kd_b1 _ | exact kd_b2 _ | exact kd_b3 _ | exact kd_b4 _ | exact kd_b5 _ | exact kd_b6 _) (by omega) rfl rfl (Nat.le_of_ble_eq_true rfl) rfl ?_
        refine ct_X12_findChain hn hFx hW (by omega) (by omega) (fun J hJ hs => ?_)
        have hc := hcok (by omega)
        have hat := fun (i : Int) => cSt_at hs hc.2.1 (i := i)
        generalize chS (ldB I (I 32 11)) a b = s at hs hc hQ hat
        have hs1 := hs.1
        have hc1 := hc.1
        have hc2 := hc.2.1
        show Wp _ _ _ _ _ _ _
        refine Wp.iload_n rfl dX12_chain_33 ?_
        refine Wp.iconst dX12_chain_34 ?_
        refine Wp.icmp_ne (tgt := 54) dX12_chain_35 (by decide) (by first | omega | exact bI_R _ | exact cmp_R _ _ | assumption) (by first | omega | exact bI_R _ | exact cmp_R _ _ | assumption) (fun c35 => ?_) (fun c35 => ?_)
        · refine Wp.iload_n rfl dX12_chain_54 ?_
          refine Wp.i2l (by first | omega | exact bI_R _ | exact cmp_R _ _ | assumption) dX12_chain_55 ?_
          refine Wp.lconst0 dX12_chain_56 ?_
          refine Wp.aload_n rfl dX12_chain_57 ?_
          refine Wp.gi (kz := 42) rfl dX12_chain_58 fkX12_270 (by first | rfl | exact kd_b0 _ | exact kd_b1 _ | exact kd_b2 _ | exact kd_b3 _ | exact kd_b4 _ | exact kd_b5 _ | exact kd_b6 _) (by omega) ?_
          refine Wp.iconst dX12_chain_61 ?_
          refine Wp.isub dX12_chain_62 ?_
          refine Wp.i2l (by first | omega | exact bI_R _ | exact cmp_R _ _ | assumption) dX12_chain_63 ?_
          refine Wp.callS (As := [_, _, _]) (ls0 := [_, _, _, _, _, _]) (bd := (0, 0)) (bd' := (0, 0)) dX12_chain_64 kmX12_in lkX12_100 (by decide) (by decide) (Nat.le_of_ble_eq_true rfl) rfl rfl (Nat.le_of_ble_eq_true rfl) rfl ?_
          refine ct_X12_in (a := 0) (b := J 32 42 - 1) (ofI_toInt hi) rfl (ofI_toInt (by omega)) ?_
          show Wp _ _ _ (_ :: _) _ _ _
          refine Wp.if_eqB (tgt := 79) dX12_chain_67 (by decide) (fun c67 => ?_) (fun c67 => ?_)
          · refine Wp.iconst dX12_chain_79 ?_
            refine Wp.ireturn dX12_chain_80 rfl ?_
            first | (exfalso; omega) | (exact hQ _ _ hJ (by (repeat' split) <;> first | (exfalso; omega) | rfl | exact hat i (by omega) (by omega)))
          · refine Wp.aload_n rfl dX12_chain_70 ?_
            refine Wp.gr (kz := 41) rfl dX12_chain_71 fkX12_92 (by first | rfl | exact kd_b0 _ | exact kd_b1 _ | exact kd_b2 _ | exact kd_b3 _ | exact kd_b4 _ | exact kd_b5 _ | exact kd_b6 _) (by omega) (by first | exact hFx _ 41 _ rfl | assumption | exact hBk.1 | exact hBk.2.1 | exact hBk.2.2.1 | exact hBk.2.2.2.1 | exact hBk.2.2.2.2.1 | exact hBk.2.2.2.2.2) ?_
            refine Wp.iload_n rfl dX12_chain_74 ?_
            refine Wp.iaload dX12_chain_75 (by first | rfl | exact kd_b0 _ | exact kd_b1 _ | exact kd_b2 _ | exact kd_b3 _ | exact kd_b4 _ | exact kd_b5 _ | exact kd_b6 _) (by omega) (by omega) (by omega) ?_
            refine Wp.goto (tgt := 80) dX12_chain_76 (by decide) ?_
            refine Wp.ireturn dX12_chain_80 rfl ?_
            first | (exfalso; omega) | (exact hQ _ _ hJ (by (repeat' split) <;> first | (exfalso; omega) | rfl | exact hat i (by omega) (by omega)))
        · refine Wp.aload_n rfl dX12_chain_38 ?_
          refine Wp.gi (kz := 42) rfl dX12_chain_39 fkX12_270 (by first | rfl | exact kd_b0 _ | exact kd_b1 _ | exact kd_b2 _ | exact kd_b3 _ | exact kd_b4 _ | exact kd_b5 _ | exact kd_b6 _) (by omega) ?_
          refine Wp.if_ne (tgt := 49) dX12_chain_42 (by decide) (by first | omega | exact bI_R _ | exact cmp_R _ _ | assumption) (fun c42 => ?_) (fun c42 => ?_)
          · refine Wp.aload_n rfl dX12_chain_49 ?_
            refine Wp.gi (kz := 42) rfl dX12_chain_50 fkX12_270 (by first | rfl | exact kd_b0 _ | exact kd_b1 _ | exact kd_b2 _ | exact kd_b3 _ | exact kd_b4 _ | exact kd_b5 _ | exact kd_b6 _) (by omega) ?_
            refine Wp.ireturn dX12_chain_53 rfl ?_
            first | (exfalso; omega) | (exact hQ _ _ hJ (by (repeat' split) <;> first | (exfalso; omega) | omega))
          · refine Wp.iconst dX12_chain_45 ?_
            refine Wp.goto (tgt := 53) dX12_chain_46 (by decide) ?_
            refine Wp.ireturn dX12_chain_53 rfl ?_
            first | (exfalso; omega) | (exact hQ _ _ hJ (by (repeat' split) <;> first | (exfalso; omega) | omega))
      · refine Wp.sipush rfl dX12_chain_23 ?_
        refine Wp.ireturn dX12_chain_26 rfl ?_
        first | (exfalso; omega) | (exact hQ _ _ (Eqv.rf I) (by (repeat' split) <;> first | (exfalso; omega) | rfl))
    · refine Wp.sipush rfl dX12_chain_14 ?_
      refine Wp.ireturn dX12_chain_17 rfl ?_
      first | (exfalso; omega) | (exact hQ _ _ (Eqv.rf I) (by (repeat' split) <;> first | (exfalso; omega) | rfl))
end

