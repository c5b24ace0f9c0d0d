/-! ===== the reference: promises 21, 25: choices, what they bring ===== -/
/-- a place of a word in the reference's arrays -/
def PlO (I : Nat → Int → Int) (p : Int) : Prop := 0 ≤ p ∧ p < 8640 ∧ 0 ≤ I 39 p ∧ I 39 p < 60 ∧ 0 ≤ p.tdiv 6 ∧ p.tdiv 6 < 1440 ∧ -1 ≤ I 37 (p.tdiv 6) ∧ I 37 (p.tdiv 6) ≤ 5
/-- memory holds the list l of word i -/
def stL (J : Nat → Int → Int) (i : Nat) (l : List Int) : Prop := J 52 i = l.length ∧ ∀ c : Nat, c < l.length → J 53 (18 * i + c) = l.getD c 0
def chA (J : Nat → Int → Int) (C : Nat → List Int) (i : Nat) : Prop := ∀ q : Nat, q < i → stL J q (C q)
theorem stL_push {J : Nat → Int → Int} {i : Nat} {l : List Int} {v : Int} (h : stL J i l) : stL (up (up J 53 (18 * i + J 52 i) v) 52 i (J 52 i + 1)) i (l ++ [v]) := by
  refine ⟨by rw [up_same, h.1]; simp, fun c hc => ?_⟩
  rw [up_o _ _ _ _ (by decide)]
  rw [List.length_append, List.length_singleton] at hc
  unfold up
  by_cases hcl : c = l.length
  · rw [if_pos ⟨rfl, by rw [h.1, hcl]⟩, hcl, List.getD_eq_getElem?_getD, List.getElem?_append_right (Nat.le_refl _)]; simp
  · rw [if_neg (fun q => hcl (by have := q.2; rw [h.1] at this; omega)), h.2 c (by omega), List.getD_eq_getElem?_getD, List.getD_eq_getElem?_getD, List.getElem?_append_left (by omega)]
theorem chA_push {J : Nat → Int → Int} {i : Nat} {C : Nat → List Int} {v w x : Int} (hC : ∀ q : Nat, q < i → (C q).length ≤ 18) (h : chA J C i) (hw : 0 ≤ w) : chA (up (up J 53 (18 * i + w) v) 52 i x) C i := by
  intro q hq
  have h1 := h q hq
  have h2 := hC q hq
  refine ⟨?_, fun c hc => ?_⟩
  · rw [up_k _ _ _ _ (by omega), up_o _ _ _ _ (by decide)]; exact h1.1
  · rw [up_o _ _ _ _ (by decide), up_k _ _ _ _ (by omega)]; exact h1.2 c hc
theorem chA_new {J : Nat → Int → Int} {i : Nat} {C : Nat → List Int} (h : chA J C i) : chA (up J 52 i 0) C i := by
  intro q hq
  have h1 := h q hq
  refine ⟨?_, fun c hc => ?_⟩
  · rw [up_k _ _ _ _ (by omega)]; exact h1.1
  · rw [up_o _ _ _ _ (by decide)]; exact h1.2 c hc
theorem stL_new {J : Nat → Int → Int} {i : Nat} : stL (up J 52 i 0) i [] := ⟨by rw [up_same]; rfl, fun c hc => absurd hc (Nat.not_lt_zero c)⟩
theorem chA_s {J : Nat → Int → Int} {i : Nat} {C : Nat → List Int} (h : chA J C i) (h2 : stL J i (C i)) : chA J C (i + 1) := by
  intro q hq
  rcases Nat.lt_or_ge q i with h3 | h3
  · exact h q h3
  · obtain rfl : q = i := by omega
    exact h2
theorem stN_t {A X Y B : Int → Int} {b x y : Int} {k : Nat} (h1 : A k = b) (h2 : X k = x) (h3 : Y k = y) : B k = stN A X Y B b x y (k + 1) := by simp only [stN]; rw [if_pos ⟨h1, h2, h3⟩]
theorem stN_f {A X Y B : Int → Int} {b x y : Int} {k : Nat} (h : ¬ (A k = b ∧ X k = x ∧ Y k = y)) : stN A X Y B b x y k = stN A X Y B b x y (k + 1) := by simp only [stN]; rw [if_neg h]
section
variable {I : Nat → Int → Int} {L : Nat → Int → BitVec 64} {R : Nat → Int → Option Nat} {n : Nat} {m : Mm} {Q : Option AV → Mm → Prop}
theorem PlO_of {s p : Int} (hs : SOk I s) (h0 : 0 ≤ p) (h1 : p < I 38 s) : PlO I (6 * s + p) := by
  have h2 := hs.1
  have h3 := hs.2 p h0 h1
  have h4 : (6 * s + p).tdiv 6 = s := by rw [Int.tdiv_eq_ediv_of_nonneg (by omega)]; omega
  unfold PlO
  rw [h4]
  omega
theorem cpN_ok {s : Int} (hs : SOk I s) (ag : Int) : ∀ j : Nat, (j : Int) ≤ I 38 s → ∀ q ∈ cpN I ag s j, PlO I q
  | 0, _ => by intro q hq; simp [cpN] at hq
  | j + 1, hj => by
    intro q hq
    simp only [cpN, List.mem_append] at hq
    rcases hq with hq | hq
    · exact cpN_ok hs ag j (by omega) q hq
    · split at hq
      · rw [List.mem_singleton] at hq
        subst hq
        exact PlO_of hs (by omega) (by omega)
      · simp at hq
theorem csN_ok {e : Int} (he : EOk I e) (ag : Int) : ∀ j : Nat, (j : Int) ≤ I 36 e → ∀ q ∈ csN I ag e j, PlO I q
  | 0, _ => by intro q hq; simp [csN] at hq
  | j + 1, hj => by
    intro q hq
    simp only [csN, List.mem_append] at hq
    rcases hq with hq | hq
    · exact csN_ok he ag j (by omega) q hq
    · have hs := he.2 j (by omega) (by omega)
      have := hs.1
      exact cpN_ok hs ag _ (by omega) q hq
theorem chL_ok (hW : RW I) (lk b : Int) {i : Nat} (hw : wdP (I 51 i)) : (chL I lk b i).length ≤ 18 ∧ ∀ q ∈ chL I lk b i, PlO I q := by
  have h := hW.entOk (lk := lk) (a := I 32 36) (b := b) (w := I 51 i) (by omega) (by omega)
  unfold chL
  rcases h with h | h
  · rw [h]
    have : cntE I (-1) = 0 := rfl
    rw [this]
    simp [csN]
  · have h1 := h.1
    have h2 : cntE I (ent I lk (I 32 36) (I 51 i) b) = (I 36 (ent I lk (I 32 36) (I 51 i) b)).toNat := by unfold cntE; rw [if_neg (by omega)]
    rw [h2]
    refine ⟨?_, csN_ok h _ _ (by omega)⟩
    have := csN_len h (I 32 10) _ (Nat.le_refl _)
    omega
theorem ct_X12_strength {b x y : Int} (hn : 57 ≤ n) (hFx : Fx R) (hP : PrW (I 47) (I 48) (I 49) (I 50) (I 32 30)) (hb : inR b) (hx : inR x) (hy : inR y) (hq : Q (some (vi (stN (I 47) (I 48) (I 49) (I 50) b x y (I 32 30).toNat))) (I, L, R, n)) : Wp mX12_strength 0 [some (vr (some 32)), some (vi b), some (vi x), some (vi y), none, none] [] (I, L, R, n) (0, 0) Q := by
  have hP0 := hP.1
  have hP1 := hP.2.1
  have lp : ∀ (tt k : Nat) (z : Int) (acc : Int), k + tt = (I 32 30).toNat → z = k → acc = stN (I 47) (I 48) (I 49) (I 50) b x y k → Wp mX12_strength 6 [some (vr (some 32)), some (vi b), some (vi x), some (vi y), some (vi acc), some (vi z)] [] (I, L, R, n) (0, 0) Q := by
    intro tt
    induction tt with
    | zero =>
      intro k z acc hkt hz e0
      obtain rfl : k = (I 32 30).toNat := by omega
      refine Wp.iload rfl dX12_strength_6 ?_
      refine Wp.aload_n rfl dX12_strength_8 ?_
      refine Wp.gi (kz := 30) rfl dX12_strength_9 fkX12_162 (by first | rfl | exact kd_b0 _ | exact kd_b1 _ | exact kd_b2 _ | exact kd_b3 _ | exact kd_b4 _ | exact kd_b5 _ | exact kd_b6 _) (by omega) ?_
      refine Wp.icmp_ge (tgt := 68) dX12_strength_12 (by decide) (by first | omega | exact bI_R _ | exact cmp_R _ _ | assumption) (by first | omega | exact bI_R _ | exact cmp_R _ _ | assumption) (fun c12 => ?_) (fun c12 => ?_)
      · refine Wp.iload rfl dX12_strength_68 ?_
        refine Wp.ireturn dX12_strength_70 rfl ?_
        first | (exfalso; omega) | (exact qI hq e0)
      · exfalso; omega
    | succ tt ih =>
      intro k z acc hkt hz e0
      subst hz
      subst e0
      have hk := hP.2.2 k (by omega)
      refine Wp.iload rfl dX12_strength_6 ?_
      refine Wp.aload_n rfl dX12_strength_8 ?_
      refine Wp.gi (kz := 30) rfl dX12_strength_9 fkX12_162 (by first | rfl | exact kd_b0 _ | exact kd_b1 _ | exact kd_b2 _ | exact kd_b3 _ | exact kd_b4 _ | exact kd_b5 _ | exact kd_b6 _) (by omega) ?_
      refine Wp.icmp_ge (tgt := 68) dX12_strength_12 (by decide) (by first | omega | exact bI_R _ | exact cmp_R _ _ | assumption) (by first | omega | exact bI_R _ | exact cmp_R _ _ | assumption) (fun c12 => ?_) (fun c12 => ?_)
      · exfalso; omega
      · refine Wp.aload_n rfl dX12_strength_15 ?_
        refine Wp.gr (kz := 31) rfl dX12_strength_16 fkX12_68 (by first | rfl | exact kd_b0 _ | exact kd_b1 _ | exact kd_b2 _ | exact kd_b3 _ | exact kd_b4 _ | exact kd_b5 _ | exact kd_b6 _) (by omega) (by first | exact hFx _ 31 _ rfl | assumption | exact hBk.1 | exact hBk.2.1 | exact hBk.2.2.1 | exact hBk.2.2.2.1 | exact hBk.2.2.2.2.1 | exact hBk.2.2.2.2.2) ?_
        refine Wp.iload rfl dX12_strength_19 ?_
        refine Wp.iaload dX12_strength_21 (by first | rfl | exact kd_b0 _ | exact kd_b1 _ | exact kd_b2 _ | exact kd_b3 _ | exact kd_b4 _ | exact kd_b5 _ | exact kd_b6 _) (by omega) (by omega) (by omega) ?_
        refine Wp.iload_n rfl dX12_strength_22 ?_
        refine Wp.icmp_ne (tgt := 58) dX12_strength_23 (by decide) (by first | omega | exact bI_R _ | exact cmp_R _ _ | assumption) (by first | omega | exact bI_R _ | exact cmp_R _ _ | assumption) (fun c23 => ?_) (fun c23 => ?_)
        · refine Wp.iload rfl dX12_strength_58 ?_
          refine Wp.istore (ls' := [_, _, _, _, _, _]) dX12_strength_60 (by decide) rfl ?_
          refine Wp.iinc (ls' := [_, _, _, _, _, _]) rfl dX12_strength_62 (by decide) rfl ?_
          refine Wp.goto (tgt := 6) dX12_strength_65 (by decide) ?_
          first | exact ih (k + 1) _ _ (by omega) (by omega) (stN_t c23 c34 c45) | exact ih (k + 1) _ _ (by omega) (by omega) (stN_f (fun q => c23 q.1)) | exact ih (k + 1) _ _ (by omega) (by omega) (stN_f (fun q => c34 q.2.1)) | exact ih (k + 1) _ _ (by omega) (by omega) (stN_f (fun q => c45 q.2.2)) | (exfalso; omega)
        · refine Wp.aload_n rfl dX12_strength_26 ?_
          refine Wp.gr (kz := 32) rfl dX12_strength_27 fkX12_71 (by first | rfl | exact kd_b0 _ | exact kd_b1 _ | exact kd_b2 _ | exact kd_b3 _ | exact kd_b4 _ | exact kd_b5 _ | exact kd_b6 _) (by omega) (by first | exact hFx _ 32 _ rfl | assumption | exact hBk.1 | exact hBk.2.1 | exact hBk.2.2.1 | exact hBk.2.2.2.1 | exact hBk.2.2.2.2.1 | exact hBk.2.2.2.2.2) ?_
          refine Wp.iload rfl dX12_strength_30 ?_
          refine Wp.iaload dX12_strength_32 (by first | rfl | exact kd_b0 _ | exact kd_b1 _ | exact kd_b2 _ | exact kd_b3 _ | exact kd_b4 _ | exact kd_b5 _ | exact kd_b6 _) (by omega) (by omega) (by omega) ?_
          refine Wp.iload_n rfl dX12_strength_33 ?_
          refine Wp.icmp_ne (tgt := 58) dX12_strength_34 (by decide) (by first | omega | exact bI_R _ | exact cmp_R _ _ | assumption) (by first | omega | exact bI_R _ | exact cmp_R _ _ | assumption) (fun c34 => ?_) (fun c34 => ?_)
          · refine Wp.iload rfl dX12_strength_58 ?_
            refine Wp.istore (ls' := [_, _, _, _, _, _]) dX12_strength_60 (by decide) rfl ?_
            refine Wp.iinc (ls' := [_, _, _, _, _, _]) rfl dX12_strength_62 (by decide) rfl ?_
            refine Wp.goto (tgt := 6) dX12_strength_65 (by decide) ?_
            first | exact ih (k + 1) _ _ (by omega) (by omega) (stN_t c23 c34 c45) | exact ih (k + 1) _ _ (by omega) (by omega) (stN_f (fun q => c23 q.1)) | exact ih (k + 1) _ _ (by omega) (by omega) (stN_f (fun q => c34 q.2.1)) | exact ih (k + 1) _ _ (by omega) (by omega) (stN_f (fun q => c45 q.2.2)) | (exfalso; omega)
          · refine Wp.aload_n rfl dX12_strength_37 ?_
            refine Wp.gr (kz := 33) rfl dX12_strength_38 fkX12_74 (by first | rfl | exact kd_b0 _ | exact kd_b1 _ | exact kd_b2 _ | exact kd_b3 _ | exact kd_b4 _ | exact kd_b5 _ | exact kd_b6 _) (by omega) (by first | exact hFx _ 33 _ rfl | assumption | exact hBk.1 | exact hBk.2.1 | exact hBk.2.2.1 | exact hBk.2.2.2.1 | exact hBk.2.2.2.2.1 | exact hBk.2.2.2.2.2) ?_
            refine Wp.iload rfl dX12_strength_41 ?_
            refine Wp.iaload dX12_strength_43 (by first | rfl | exact kd_b0 _ | exact kd_b1 _ | exact kd_b2 _ | exact kd_b3 _ | exact kd_b4 _ | exact kd_b5 _ | exact kd_b6 _) (by omega) (by omega) (by omega) ?_
            refine Wp.iload_n rfl dX12_strength_44 ?_
            refine Wp.icmp_ne (tgt := 58) dX12_strength_45 (by decide) (by first | omega | exact bI_R _ | exact cmp_R _ _ | assumption) (by first | omega | exact bI_R _ | exact cmp_R _ _ | assumption) (fun c45 => ?_) (fun c45 => ?_)
            · refine Wp.iload rfl dX12_strength_58 ?_
              refine Wp.istore (ls' := [_, _, _, _, _, _]) dX12_strength_60 (by decide) rfl ?_
              refine Wp.iinc (ls' := [_, _, _, _, _, _]) rfl dX12_strength_62 (by decide) rfl ?_
              refine Wp.goto (tgt := 6) dX12_strength_65 (by decide) ?_
              first | exact ih (k + 1) _ _ (by omega) (by omega) (stN_t c23 c34 c45) | exact ih (k + 1) _ _ (by omega) (by omega) (stN_f (fun q => c23 q.1)) | exact ih (k + 1) _ _ (by omega) (by omega) (stN_f (fun q => c34 q.2.1)) | exact ih (k + 1) _ _ (by omega) (by omega) (stN_f (fun q => c45 q.2.2)) | (exfalso; omega)
            · refine Wp.aload_n rfl dX12_strength_48 ?_
              refine Wp.gr (kz := 34) rfl dX12_strength_49 fkX12_77 (by first | rfl | exact kd_b0 _ | exact kd_b1 _ | exact kd_b2 _ | exact kd_b3 _ | exact kd_b4 _ | exact kd_b5 _ | exact kd_b6 _) (by omega) (by first | exact hFx _ 34 _ rfl | assumption | exact hBk.1 | exact hBk.2.1 | exact hBk.2.2.1 | exact hBk.2.2.2.1 | exact hBk.2.2.2.2.1 | exact hBk.2.2.2.2.2) ?_
              refine Wp.iload rfl dX12_strength_52 ?_
              refine Wp.iaload dX12_strength_54 (by first | rfl | exact kd_b0 _ | exact kd_b1 _ | exact kd_b2 _ | exact kd_b3 _ | exact kd_b4 _ | exact kd_b5 _ | exact kd_b6 _) (by omega) (by omega) (by omega) ?_
              refine Wp.goto (tgt := 60) dX12_strength_55 (by decide) ?_
              refine Wp.istore (ls' := [_, _, _, _, _, _]) dX12_strength_60 (by decide) rfl ?_
              refine Wp.iinc (ls' := [_, _, _, _, _, _]) rfl dX12_strength_62 (by decide) rfl ?_
              refine Wp.goto (tgt := 6) dX12_strength_65 (by decide) ?_
              first | exact ih (k + 1) _ _ (by omega) (by omega) (stN_t c23 c34 c45) | exact ih (k + 1) _ _ (by omega) (by omega) (stN_f (fun q => c23 q.1)) | exact ih (k + 1) _ _ (by omega) (by omega) (stN_f (fun q => c34 q.2.1)) | exact ih (k + 1) _ _ (by omega) (by omega) (stN_f (fun q => c45 q.2.2)) | (exfalso; omega)
  refine Wp.iconst dX12_strength_0 ?_
  refine Wp.istore (ls' := [_, _, _, _, _, _]) dX12_strength_1 (by decide) rfl ?_
  refine Wp.iconst dX12_strength_3 ?_
  refine Wp.istore (ls' := [_, _, _, _, _, _]) dX12_strength_4 (by decide) rfl ?_
  exact lp (I 32 30).toNat 0 _ _ (by omega) (by omega) rfl
theorem tieP_t {b p q a : Int} (h : a = stN (I 47) (I 48) (I 49) (I 50) b (I 39 p) (I 39 q) (I 32 30).toNat) (h0 : 0 ≤ I 37 (p.tdiv 6)) (h1 : I 37 (p.tdiv 6) = I 37 (q.tdiv 6)) : a + 10 = tieP I b p q := by unfold tieP; rw [if_pos ⟨h0, h1⟩, h]
theorem tieP_f {b p q a : Int} (h : a = stN (I 47) (I 48) (I 49) (I 50) b (I 39 p) (I 39 q) (I 32 30).toNat) (h0 : ¬ (0 ≤ I 37 (p.tdiv 6) ∧ I 37 (p.tdiv 6) = I 37 (q.tdiv 6))) : a + 0 = tieP I b p q := by unfold tieP; rw [if_neg h0, h]
theorem ct_X12_bring {b p q : Int} (hn : 57 ≤ n) (hFx : Fx R) (hP : PrW (I 47) (I 48) (I 49) (I 50) (I 32 30)) (hb : inR b) (hp : PlO I p) (hpq : PlO I q) (hq : Q (some (vi (tieP I b p q))) (I, L, R, n)) : Wp mX12_bring 0 [some (vr (some 32)), some (vi b), some (vi p), some (vi q), none, none] [] (I, L, R, n) (0, 0) Q := by
  unfold PlO at hp hpq
  refine Wp.aload_n rfl dX12_bring_0 ?_
  refine Wp.gr (kz := 5) rfl dX12_bring_1 fkX12_22 (by first | rfl | exact kd_b0 _ | exact kd_b1 _ | exact kd_b2 _ | exact kd_b3 _ | exact kd_b4 _ | exact kd_b5 _ | exact kd_b6 _) (by omega) (by first | exact hFx _ 5 _ rfl | assumption | exact hBk.1 | exact hBk.2.1 | exact hBk.2.2.1 | exact hBk.2.2.2.1 | exact hBk.2.2.2.2.1 | exact hBk.2.2.2.2.2) ?_
  refine Wp.iload_n rfl dX12_bring_4 ?_
  refine Wp.bipush rfl dX12_bring_5 ?_
  refine Wp.idiv (by omega) (by omega) (by omega) dX12_bring_7 ?_
  refine Wp.iaload dX12_bring_8 (by first | rfl | exact kd_b0 _ | exact kd_b1 _ | exact kd_b2 _ | exact kd_b3 _ | exact kd_b4 _ | exact kd_b5 _ | exact kd_b6 _) (by omega) (by omega) (by omega) ?_
  refine Wp.istore (ls' := [_, _, _, _, _, _]) dX12_bring_9 (by decide) rfl ?_
  refine Wp.aload_n rfl dX12_bring_11 ?_
  refine Wp.gr (kz := 5) rfl dX12_bring_12 fkX12_22 (by first | rfl | exact kd_b0 _ | exact kd_b1 _ | exact kd_b2 _ | exact kd_b3 _ | exact kd_b4 _ | exact kd_b5 _ | exact kd_b6 _) (by omega) (by first | exact hFx _ 5 _ rfl | assumption | exact hBk.1 | exact hBk.2.1 | exact hBk.2.2.1 | exact hBk.2.2.2.1 | exact hBk.2.2.2.2.1 | exact hBk.2.2.2.2.2) ?_
  refine Wp.iload_n rfl dX12_bring_15 ?_
  refine Wp.bipush rfl dX12_bring_16 ?_
  refine Wp.idiv (by omega) (by omega) (by omega) dX12_bring_18 ?_
  refine Wp.iaload dX12_bring_19 (by first | rfl | exact kd_b0 _ | exact kd_b1 _ | exact kd_b2 _ | exact kd_b3 _ | exact kd_b4 _ | exact kd_b5 _ | exact kd_b6 _) (by omega) (by omega) (by omega) ?_
  refine Wp.istore (ls' := [_, _, _, _, _, _]) dX12_bring_20 (by decide) rfl ?_
  refine Wp.aload_n rfl dX12_bring_22 ?_
  refine Wp.iload_n rfl dX12_bring_23 ?_
  refine Wp.aload_n rfl dX12_bring_24 ?_
  refine Wp.gr (kz := 7) rfl dX12_bring_25 fkX12_28 (by first | rfl | exact kd_b0 _ | exact kd_b1 _ | exact kd_b2 _ | exact kd_b3 _ | exact kd_b4 _ | exact kd_b5 _ | exact kd_b6 _) (by omega) (by first | exact hFx _ 7 _ rfl | assumption | exact hBk.1 | exact hBk.2.1 | exact hBk.2.2.1 | exact hBk.2.2.2.1 | exact hBk.2.2.2.2.1 | exact hBk.2.2.2.2.2) ?_
  refine Wp.iload_n rfl dX12_bring_28 ?_
  refine Wp.iaload dX12_bring_29 (by first | rfl | exact kd_b0 _ | exact kd_b1 _ | exact kd_b2 _ | exact kd_b3 _ | exact kd_b4 _ | exact kd_b5 _ | exact kd_b6 _) (by omega) (by omega) (by omega) ?_
  refine Wp.aload_n rfl dX12_bring_30 ?_
  refine Wp.gr (kz := 7) rfl dX12_bring_31 fkX12_28 (by first | rfl | exact kd_b0 _ | exact kd_b1 _ | exact kd_b2 _ | exact kd_b3 _ | exact kd_b4 _ | exact kd_b5 _ | exact kd_b6 _) (by omega) (by first | exact hFx _ 7 _ rfl | assumption | exact hBk.1 | exact hBk.2.1 | exact hBk.2.2.1 | exact hBk.2.2.2.1 | exact hBk.2.2.2.2.1 | exact hBk.2.2.2.2.2) ?_
  refine Wp.iload_n rfl dX12_bring_34 ?_
  refine Wp.iaload dX12_bring_35 (by first | rfl | exact kd_b0 _ | exact kd_b1 _ | exact kd_b2 _ | exact kd_b3 _ | exact kd_b4 _ | exact kd_b5 _ | exact kd_b6 _) (by omega) (by omega) (by omega) ?_
  refine Wp.callV (As := [_, _, _]) (ls0 := [_, _, _, _, _, _]) (bd := (0, 0)) (bd' := (0, 0)) dX12_bring_36 kmX12_strength lkX12_257 (by decide) (by decide) (Nat.le_of_ble_eq_true rfl) (by first | rfl | exact kd_b0 _ | exact kd_b1 _ | exact kd_b2 _ | exact kd_b3 _ | exact kd_b4 _ | exact kd_b5 _ | exact kd_b6 _) (by omega) rfl rfl (Nat.le_of_ble_eq_true rfl) rfl ?_
  refine ct_X12_strength hn hFx hP (by omega) (by omega) (by omega) ?_
  show Wp _ _ _ (_ :: _) _ _ _
  refine Wp.iload rfl dX12_bring_39 ?_
  refine Wp.if_lt (tgt := 56) dX12_bring_41 (by decide) (by first | omega | exact bI_R _ | exact cmp_R _ _ | assumption) (fun c41 => ?_) (fun c41 => ?_)
  · refine Wp.iconst dX12_bring_56 ?_
    refine Wp.iadd dX12_bring_57 ?_
    refine Wp.ireturn dX12_bring_58 rfl ?_
    first | (exfalso; omega) | (first | exact qI hq (tieP_t rfl (by omega) (by omega)) | exact qI hq (tieP_f rfl (by omega)))
  · refine Wp.iload rfl dX12_bring_44 ?_
    refine Wp.iload rfl dX12_bring_46 ?_
    refine Wp.icmp_ne (tgt := 56) dX12_bring_48 (by decide) (by first | omega | exact bI_R _ | exact cmp_R _ _ | assumption) (by first | omega | exact bI_R _ | exact cmp_R _ _ | assumption) (fun c48 => ?_) (fun c48 => ?_)
    · refine Wp.iconst dX12_bring_56 ?_
      refine Wp.iadd dX12_bring_57 ?_
      refine Wp.ireturn dX12_bring_58 rfl ?_
      first | (exfalso; omega) | (first | exact qI hq (tieP_t rfl (by omega) (by omega)) | exact qI hq (tieP_f rfl (by omega)))
    · refine Wp.bipush rfl dX12_bring_51 ?_
      refine Wp.goto (tgt := 57) dX12_bring_53 (by decide) ?_
      refine Wp.iadd dX12_bring_57 ?_
      refine Wp.ireturn dX12_bring_58 rfl ?_
      first | (exfalso; omega) | (first | exact qI hq (tieP_t rfl (by omega) (by omega)) | exact qI hq (tieP_f rfl (by omega)))
theorem ch_t {J : Nat → Int → Int} {i k : Nat} {l0 : List Int} {ag s w : Int} (h : stL J i (l0 ++ cpN I ag s k)) (hc : ag ≠ 0 ∨ I 40 (6 * s + k) = 0) : stL (up (up J 53 (18 * i + J 52 i) (6 * s + k)) 52 i (J 52 i + 1)) i (l0 ++ cpN I ag s (k + 1)) := by
  have := stL_push (v := 6 * s + k) h
  simp only [cpN]
  rw [if_pos hc, ← List.append_assoc]
  exact this
theorem ch_f {J : Nat → Int → Int} {i k : Nat} {l0 : List Int} {ag s : Int} (h : stL J i (l0 ++ cpN I ag s k)) (hc : ¬ (ag ≠ 0 ∨ I 40 (6 * s + k) = 0)) : stL J i (l0 ++ cpN I ag s (k + 1)) := by
  simp only [cpN]
  rw [if_neg hc, List.append_nil]
  exact h
set_option maxHeartbeats 2000000 in
theorem ct_X12_findChoices {b : Int} (hn : 57 ≤ n) (hFx : Fx R) (hW : RW I) (hb : inR b) (hS0 : 0 ≤ I 32 35) (hS1 : I 32 35 ≤ 10) (hT : inR (I 32 36)) (hw : ∀ j : Nat, (j : Int) < I 32 35 → wdP (I 51 j)) (hq : ∀ J, Eqv I J → chA J (chL I (I 32 11) b) (I 32 35).toNat → Q none (J, L, R, n)) : Wp mX12_findChoices 0 [some (vr (some 32)), some (vi b), none, none, none, none] [] (I, L, R, n) (0, 0) Q := by
  have hA := hW.2.2.2.2.1
  have hCL : ∀ q : Nat, q < (I 32 35).toNat → (chL I (I 32 11) b q).length ≤ 18 := fun q hq => (chL_ok hW _ b (hw q (by omega))).1
  have lp : ∀ (i : Nat) (hi : i < (I 32 35).toNat) (e : Int) (s : Int) (hs : SOk I s) (l0 : List Int) (hl0 : l0.length ≤ 12) (hc' : ∀ (J : Nat → Int → Int) (x5 : Option AV), Eqv I J → chA J (chL I (I 32 11) b) i → stL J i (l0 ++ cpN I (I 32 10) s (I 38 s).toNat) → Wp mX12_findChoices 125 [some (vr (some 32)), some (vi b), some (vi i), some (vi e), some (vi s), x5] [] (J, L, R, n) (0, 0) Q) , ∀ (tt k : Nat) (z : Int) (J : Nat → Int → Int), k + tt = (I 38 s).toNat → z = 6 * s + k → Eqv I J → chA J (chL I (I 32 11) b) i → stL J i (l0 ++ cpN I (I 32 10) s k) → Wp mX12_findChoices 64 [some (vr (some 32)), some (vi b), some (vi i), some (vi e), some (vi s), some (vi z)] [] (J, L, R, n) (0, 0) Q := by
    intro i hi e s hs l0 hl0 hc'
    intro tt
    induction tt with
    | zero =>
      intro k z J hkt hz e0 e1 e2
      obtain rfl : k = (I 38 s).toNat := by omega
      have hs1 := hs.1
      have h38 := e0.se.1 38 (by omega) (by omega) s
      refine Wp.iload rfl dX12_findChoices_64 ?_
      refine Wp.bipush rfl dX12_findChoices_66 ?_
      refine Wp.iload rfl dX12_findChoices_68 ?_
      refine Wp.imul dX12_findChoices_70 ?_
      refine Wp.aload_n rfl dX12_findChoices_71 ?_
      refine Wp.gr (kz := 6) rfl dX12_findChoices_72 fkX12_25 (by first | rfl | exact kd_b0 _ | exact kd_b1 _ | exact kd_b2 _ | exact kd_b3 _ | exact kd_b4 _ | exact kd_b5 _ | exact kd_b6 _) (by omega) (by first | exact hFx _ 6 _ rfl | assumption | exact hBk.1 | exact hBk.2.1 | exact hBk.2.2.1 | exact hBk.2.2.2.1 | exact hBk.2.2.2.2.1 | exact hBk.2.2.2.2.2) ?_
      refine Wp.iload rfl dX12_findChoices_75 ?_
      refine Wp.iaload dX12_findChoices_77 (by first | rfl | exact kd_b0 _ | exact kd_b1 _ | exact kd_b2 _ | exact kd_b3 _ | exact kd_b4 _ | exact kd_b5 _ | exact kd_b6 _) (by omega) (by omega) (by omega) ?_
      refine Wp.iadd dX12_findChoices_78 ?_
      refine Wp.icmp_ge (tgt := 125) dX12_findChoices_79 (by decide) (by first | omega | exact bI_R _ | exact cmp_R _ _ | assumption) (by first | omega | exact bI_R _ | exact cmp_R _ _ | assumption) (fun c79 => ?_) (fun c79 => ?_)
      · exact hc' J _ e0 e1 e2
      · exfalso; omega
    | succ tt ih =>
      intro k z J hkt hz e0 e1 e2
      subst hz
      have hs1 := hs.1
      have h38 := e0.se.1 38 (by omega) (by omega) s
      have hp := hs.2 k (by omega) (by omega)
      have h40 := e0.se.1 40 (by omega) (by omega) (6 * s + k)
      have h10 := e0.se.2.2.2
      have hlen : J 52 i = l0.length + (cpN I (I 32 10) s k).length := by rw [e2.1, List.length_append]; omega
      have hcl := cpN_len (I := I) (I 32 10) s k
      refine Wp.iload rfl dX12_findChoices_64 ?_
      refine Wp.bipush rfl dX12_findChoices_66 ?_
      refine Wp.iload rfl dX12_findChoices_68 ?_
      refine Wp.imul dX12_findChoices_70 ?_
      refine Wp.aload_n rfl dX12_findChoices_71 ?_
      refine Wp.gr (kz := 6) rfl dX12_findChoices_72 fkX12_25 (by first | rfl | exact kd_b0 _ | exact kd_b1 _ | exact kd_b2 _ | exact kd_b3 _ | exact kd_b4 _ | exact kd_b5 _ | exact kd_b6 _) (by omega) (by first | exact hFx _ 6 _ rfl | assumption | exact hBk.1 | exact hBk.2.1 | exact hBk.2.2.1 | exact hBk.2.2.2.1 | exact hBk.2.2.2.2.1 | exact hBk.2.2.2.2.2) ?_
      refine Wp.iload rfl dX12_findChoices_75 ?_
      refine Wp.iaload dX12_findChoices_77 (by first | rfl | exact kd_b0 _ | exact kd_b1 _ | exact kd_b2 _ | exact kd_b3 _ | exact kd_b4 _ | exact kd_b5 _ | exact kd_b6 _) (by omega) (by omega) (by omega) ?_
      refine Wp.iadd dX12_findChoices_78 ?_
      refine Wp.icmp_ge (tgt := 125) dX12_findChoices_79 (by decide) (by first | omega | exact bI_R _ | exact cmp_R _ _ | assumption) (by first | omega | exact bI_R _ | exact cmp_R _ _ | assumption) (fun c79 => ?_) (fun c79 => ?_)
      · exfalso; omega
      · refine Wp.aload_n rfl dX12_findChoices_82 ?_
        refine Wp.iload rfl dX12_findChoices_83 ?_
        refine Wp.callV (As := [_]) (ls0 := [_, _]) (bd := (0, 0)) (bd' := (0, 0)) dX12_findChoices_85 kmX12_counts lkX12_171 (by decide) (by decide) (Nat.le_of_ble_eq_true rfl) (by first | rfl | exact kd_b0 _ | exact kd_b1 _ | exact kd_b2 _ | exact kd_b3 _ | exact kd_b4 _ | exact kd_b5 _ | exact kd_b6 _) (by omega) rfl rfl (Nat.le_of_ble_eq_true rfl) rfl ?_
        refine ct_X12_counts hn hFx (by omega) (by omega) (by omega) ?_
        rw [h10, h40]
        show Wp _ _ _ (_ :: _) _ _ _
        refine Wp.if_eqB (tgt := 119) dX12_findChoices_88 (by decide) (fun c88 => ?_) (fun c88 => ?_)
        · refine Wp.iinc (ls' := [_, _, _, _, _, _]) rfl dX12_findChoices_119 (by decide) rfl ?_
          refine Wp.goto (tgt := 64) dX12_findChoices_122 (by decide) ?_
          first | exact ih (k + 1) _ _ (by omega) (by omega) ((e0.wr (by unfold scr; omega)).wr (by unfold scr; omega)) (chA_push (fun q hq => hCL q (by omega)) e1 (by omega)) (ch_t (w := 0) e2 c88) | exact ih (k + 1) _ J (by omega) (by omega) e0 e1 (ch_f e2 c88)
        · refine Wp.aload_n rfl dX12_findChoices_91 ?_
          refine Wp.gr (kz := 39) rfl dX12_findChoices_92 fkX12_86 (by first | rfl | exact kd_b0 _ | exact kd_b1 _ | exact kd_b2 _ | exact kd_b3 _ | exact kd_b4 _ | exact kd_b5 _ | exact kd_b6 _) (by omega) (by first | exact hFx _ 39 _ rfl | assumption | exact hBk.1 | exact hBk.2.1 | exact hBk.2.2.1 | exact hBk.2.2.2.1 | exact hBk.2.2.2.2.1 | exact hBk.2.2.2.2.2) ?_
          refine Wp.bipush rfl dX12_findChoices_95 ?_
          refine Wp.iload_n rfl dX12_findChoices_97 ?_
          refine Wp.imul dX12_findChoices_98 ?_
          refine Wp.aload_n rfl dX12_findChoices_99 ?_
          refine Wp.gr (kz := 38) rfl dX12_findChoices_100 fkX12_83 (by first | rfl | exact kd_b0 _ | exact kd_b1 _ | exact kd_b2 _ | exact kd_b3 _ | exact kd_b4 _ | exact kd_b5 _ | exact kd_b6 _) (by omega) (by first | exact hFx _ 38 _ rfl | assumption | exact hBk.1 | exact hBk.2.1 | exact hBk.2.2.1 | exact hBk.2.2.2.1 | exact hBk.2.2.2.2.1 | exact hBk.2.2.2.2.2) ?_
          refine Wp.iload_n rfl dX12_findChoices_103 ?_
          refine Wp.iaload dX12_findChoices_104 (by first | rfl | exact kd_b0 _ | exact kd_b1 _ | exact kd_b2 _ | exact kd_b3 _ | exact kd_b4 _ | exact kd_b5 _ | exact kd_b6 _) (by omega) (by omega) (by omega) ?_
          refine Wp.iadd dX12_findChoices_105 ?_
          refine Wp.iload rfl dX12_findChoices_106 ?_
          refine Wp.iastore dX12_findChoices_108 (by first | rfl | exact kd_b0 _ | exact kd_b1 _ | exact kd_b2 _ | exact kd_b3 _ | exact kd_b4 _ | exact kd_b5 _ | exact kd_b6 _) (by omega) (by omega) (by omega) ?_
          refine Wp.aload_n rfl dX12_findChoices_109 ?_
          refine Wp.gr (kz := 38) rfl dX12_findChoices_110 fkX12_83 (by first | rfl | exact kd_b0 _ | exact kd_b1 _ | exact kd_b2 _ | exact kd_b3 _ | exact kd_b4 _ | exact kd_b5 _ | exact kd_b6 _) (by omega) (by first | exact hFx _ 38 _ rfl | assumption | exact hBk.1 | exact hBk.2.1 | exact hBk.2.2.1 | exact hBk.2.2.2.1 | exact hBk.2.2.2.2.1 | exact hBk.2.2.2.2.2) ?_
          try simp (disch := omega) only [up_same, up_o, up_k]
          refine Wp.iload_n rfl dX12_findChoices_113 ?_
          first | refine Wp.dup2IR dX12_findChoices_114 ?_ | refine Wp.dup2II dX12_findChoices_114 ?_
          refine Wp.iaload dX12_findChoices_115 (by first | rfl | exact kd_b0 _ | exact kd_b1 _ | exact kd_b2 _ | exact kd_b3 _ | exact kd_b4 _ | exact kd_b5 _ | exact kd_b6 _) (by omega) (by omega) (by omega) ?_
          try simp (disch := omega) only [up_same, up_o, up_k]
          refine Wp.iconst dX12_findChoices_116 ?_
          refine Wp.iadd dX12_findChoices_117 ?_
          refine Wp.iastore dX12_findChoices_118 (by first | rfl | exact kd_b0 _ | exact kd_b1 _ | exact kd_b2 _ | exact kd_b3 _ | exact kd_b4 _ | exact kd_b5 _ | exact kd_b6 _) (by omega) (by omega) (by omega) ?_
          refine Wp.iinc (ls' := [_, _, _, _, _, _]) rfl dX12_findChoices_119 (by decide) rfl ?_
          refine Wp.goto (tgt := 64) dX12_findChoices_122 (by decide) ?_
          first | exact ih (k + 1) _ _ (by omega) (by omega) ((e0.wr (by unfold scr; omega)).wr (by unfold scr; omega)) (chA_push (fun q hq => hCL q (by omega)) e1 (by omega)) (ch_t (w := 0) e2 c88) | exact ih (k + 1) _ J (by omega) (by omega) e0 e1 (ch_f e2 c88)
  have ls : ∀ (i : Nat) (hi : i < (I 32 35).toNat) (e : Int) (hE : EOk I e) (hc' : ∀ (J : Nat → Int → Int) (x4 x5 : Option AV), Eqv I J → chA J (chL I (I 32 11) b) i → stL J i (csN I (I 32 10) e (I 36 e).toNat) → Wp mX12_findChoices 131 [some (vr (some 32)), some (vi b), some (vi i), some (vi e), x4, x5] [] (J, L, R, n) (0, 0) Q) , ∀ (tt k : Nat) (z : Int) (J : Nat → Int → Int) (x5 : Option AV), k + tt = (I 36 e).toNat → z = 3 * e + k → Eqv I J → chA J (chL I (I 32 11) b) i → stL J i (csN I (I 32 10) e k) → Wp mX12_findChoices 38 [some (vr (some 32)), some (vi b), some (vi i), some (vi e), some (vi z), x5] [] (J, L, R, n) (0, 0) Q := by
    intro i hi e hE hc'
    intro tt
    induction tt with
    | zero =>
      intro k z J x5 hkt hz e0 e1 e2
      obtain rfl : k = (I 36 e).toNat := by omega
      have hE1 := hE.1
      have h36 := e0.se.1 36 (by omega) (by omega) e
      refine Wp.iload_n rfl dX12_findChoices_38 ?_
      refine Wp.if_lt (tgt := 131) dX12_findChoices_39 (by decide) (by first | omega | exact bI_R _ | exact cmp_R _ _ | assumption) (fun c39 => ?_) (fun c39 => ?_)
      · exact hc' J _ _ e0 e1 e2
      · refine Wp.iload rfl dX12_findChoices_42 ?_
        refine Wp.iconst dX12_findChoices_44 ?_
        refine Wp.iload_n rfl dX12_findChoices_45 ?_
        refine Wp.imul dX12_findChoices_46 ?_
        refine Wp.aload_n rfl dX12_findChoices_47 ?_
        refine Wp.gr (kz := 4) rfl dX12_findChoices_48 fkX12_19 (by first | rfl | exact kd_b0 _ | exact kd_b1 _ | exact kd_b2 _ | exact kd_b3 _ | exact kd_b4 _ | exact kd_b5 _ | exact kd_b6 _) (by omega) (by first | exact hFx _ 4 _ rfl | assumption | exact hBk.1 | exact hBk.2.1 | exact hBk.2.2.1 | exact hBk.2.2.2.1 | exact hBk.2.2.2.2.1 | exact hBk.2.2.2.2.2) ?_
        refine Wp.iload_n rfl dX12_findChoices_51 ?_
        refine Wp.iaload dX12_findChoices_52 (by first | rfl | exact kd_b0 _ | exact kd_b1 _ | exact kd_b2 _ | exact kd_b3 _ | exact kd_b4 _ | exact kd_b5 _ | exact kd_b6 _) (by omega) (by omega) (by omega) ?_
        refine Wp.iadd dX12_findChoices_53 ?_
        refine Wp.icmp_ge (tgt := 131) dX12_findChoices_54 (by decide) (by first | omega | exact bI_R _ | exact cmp_R _ _ | assumption) (by first | omega | exact bI_R _ | exact cmp_R _ _ | assumption) (fun c54 => ?_) (fun c54 => ?_)
        · exact hc' J _ _ e0 e1 e2
        · exfalso; omega
    | succ tt ih =>
      intro k z J x5 hkt hz e0 e1 e2
      subst hz
      have hE1 := hE.1
      have h36 := e0.se.1 36 (by omega) (by omega) e
      have hs := hE.2 k (by omega) (by omega)
      have hs1 := hs.1
      have hcl := csN_len hE (I 32 10) k (by omega)
      have h125 : ∀ (J : Nat → Int → Int) (x5 : Option AV), Eqv I J → chA J (chL I (I 32 11) b) i → stL J i (csN I (I 32 10) e k ++ cpN I (I 32 10) (3 * e + k) (I 38 (3 * e + k)).toNat) → Wp mX12_findChoices 125 [some (vr (some 32)), some (vi b), some (vi i), some (vi e), some (vi (3 * e + k)), x5] [] (J, L, R, n) (0, 0) Q := by
        intro J x5 f0 f1 f2
        refine Wp.iinc (ls' := [_, _, _, _, _, _]) rfl dX12_findChoices_125 (by decide) rfl ?_
        refine Wp.goto (tgt := 38) dX12_findChoices_128 (by decide) ?_
        exact ih (k + 1) _ J _ (by omega) (by omega) f0 f1 f2
      refine Wp.iload_n rfl dX12_findChoices_38 ?_
      refine Wp.if_lt (tgt := 131) dX12_findChoices_39 (by decide) (by first | omega | exact bI_R _ | exact cmp_R _ _ | assumption) (fun c39 => ?_) (fun c39 => ?_)
      · exfalso; omega
      · refine Wp.iload rfl dX12_findChoices_42 ?_
        refine Wp.iconst dX12_findChoices_44 ?_
        refine Wp.iload_n rfl dX12_findChoices_45 ?_
        refine Wp.imul dX12_findChoices_46 ?_
        refine Wp.aload_n rfl dX12_findChoices_47 ?_
        refine Wp.gr (kz := 4) rfl dX12_findChoices_48 fkX12_19 (by first | rfl | exact kd_b0 _ | exact kd_b1 _ | exact kd_b2 _ | exact kd_b3 _ | exact kd_b4 _ | exact kd_b5 _ | exact kd_b6 _) (by omega) (by first | exact hFx _ 4 _ rfl | assumption | exact hBk.1 | exact hBk.2.1 | exact hBk.2.2.1 | exact hBk.2.2.2.1 | exact hBk.2.2.2.2.1 | exact hBk.2.2.2.2.2) ?_
        refine Wp.iload_n rfl dX12_findChoices_51 ?_
        refine Wp.iaload dX12_findChoices_52 (by first | rfl | exact kd_b0 _ | exact kd_b1 _ | exact kd_b2 _ | exact kd_b3 _ | exact kd_b4 _ | exact kd_b5 _ | exact kd_b6 _) (by omega) (by omega) (by omega) ?_
        refine Wp.iadd dX12_findChoices_53 ?_
        refine Wp.icmp_ge (tgt := 131) dX12_findChoices_54 (by decide) (by first | omega | exact bI_R _ | exact cmp_R _ _ | assumption) (by first | omega | exact bI_R _ | exact cmp_R _ _ | assumption) (fun c54 => ?_) (fun c54 => ?_)
        · exfalso; omega
        · refine Wp.bipush rfl dX12_findChoices_57 ?_
          refine Wp.iload rfl dX12_findChoices_59 ?_
          refine Wp.imul dX12_findChoices_61 ?_
          refine Wp.istore (ls' := [_, _, _, _, _, _]) dX12_findChoices_62 (by decide) rfl ?_
          exact lp i hi e (3 * e + k) hs _ (by omega) h125 (I 38 (3 * e + k)).toNat 0 _ J (by omega) (by omega) e0 e1 (by simp only [cpN, List.append_nil]; exact e2)
  have lo : ∀ (tt k : Nat) (z : Int) (J : Nat → Int → Int) (x3 : Option AV) (x4 : Option AV) (x5 : Option AV), k + tt = (I 32 35).toNat → z = k → Eqv I J → chA J (chL I (I 32 11) b) k → Wp mX12_findChoices 2 [some (vr (some 32)), some (vi b), some (vi z), x3, x4, x5] [] (J, L, R, n) (0, 0) Q := by
    intro tt
    induction tt with
    | zero =>
      intro k z J x3 x4 x5 hkt hz e0 e1
      obtain rfl : k = (I 32 35).toNat := by omega
      have h35 := e0 32 35 (by unfold scr; omega)
      refine Wp.iload_n rfl dX12_findChoices_2 ?_
      refine Wp.aload_n rfl dX12_findChoices_3 ?_
      refine Wp.gi (kz := 35) rfl dX12_findChoices_4 fkX12_165 (by first | rfl | exact kd_b0 _ | exact kd_b1 _ | exact kd_b2 _ | exact kd_b3 _ | exact kd_b4 _ | exact kd_b5 _ | exact kd_b6 _) (by omega) ?_
      refine Wp.icmp_ge (tgt := 137) dX12_findChoices_7 (by decide) (by first | omega | exact bI_R _ | exact cmp_R _ _ | assumption) (by first | omega | exact bI_R _ | exact cmp_R _ _ | assumption) (fun c7 => ?_) (fun c7 => ?_)
      · refine Wp.vreturn dX12_findChoices_137 rfl ?_
        first | (exfalso; omega) | (exact hq J e0 e1)
      · exfalso; omega
    | succ tt ih =>
      intro k z J x3 x4 x5 hkt hz e0 e1
      subst hz
      have h35 := e0 32 35 (by unfold scr; omega)
      have h36 := e0 32 36 (by unfold scr; omega)
      have hwk := hw k (by omega)
      have h51 := e0 51 k (by unfold scr; omega)
      have f0 : Eqv I (up J 52 k 0) := e0.wr (by unfold scr; omega)
      have hWJ := RW_cg f0.se hW
      have hEn := hW.entOk (lk := I 32 11) (a := I 32 36) (b := b) (w := I 51 k) (by omega) (by omega)
      have h131 : ∀ (J : Nat → Int → Int) (x4 x5 : Option AV), Eqv I J → chA J (chL I (I 32 11) b) k → stL J k (chL I (I 32 11) b k) → Wp mX12_findChoices 131 [some (vr (some 32)), some (vi b), some (vi k), some (vi (ent I (I 32 11) (I 32 36) (I 51 k) b)), x4, x5] [] (J, L, R, n) (0, 0) Q := by
        intro J x4 x5 f0 f1 f2
        refine Wp.iinc (ls' := [_, _, _, _, _, _]) rfl dX12_findChoices_131 (by decide) rfl ?_
        refine Wp.goto (tgt := 2) dX12_findChoices_134 (by decide) ?_
        exact ih (k + 1) _ J _ _ _ (by omega) (by omega) f0 (chA_s f1 f2)
      refine Wp.iload_n rfl dX12_findChoices_2 ?_
      refine Wp.aload_n rfl dX12_findChoices_3 ?_
      refine Wp.gi (kz := 35) rfl dX12_findChoices_4 fkX12_165 (by first | rfl | exact kd_b0 _ | exact kd_b1 _ | exact kd_b2 _ | exact kd_b3 _ | exact kd_b4 _ | exact kd_b5 _ | exact kd_b6 _) (by omega) ?_
      refine Wp.icmp_ge (tgt := 137) dX12_findChoices_7 (by decide) (by first | omega | exact bI_R _ | exact cmp_R _ _ | assumption) (by first | omega | exact bI_R _ | exact cmp_R _ _ | assumption) (fun c7 => ?_) (fun c7 => ?_)
      · exfalso; omega
      · refine Wp.aload_n rfl dX12_findChoices_10 ?_
        refine Wp.gr (kz := 38) rfl dX12_findChoices_11 fkX12_83 (by first | rfl | exact kd_b0 _ | exact kd_b1 _ | exact kd_b2 _ | exact kd_b3 _ | exact kd_b4 _ | exact kd_b5 _ | exact kd_b6 _) (by omega) (by first | exact hFx _ 38 _ rfl | assumption | exact hBk.1 | exact hBk.2.1 | exact hBk.2.2.1 | exact hBk.2.2.2.1 | exact hBk.2.2.2.2.1 | exact hBk.2.2.2.2.2) ?_
        refine Wp.iload_n rfl dX12_findChoices_14 ?_
        refine Wp.iconst dX12_findChoices_15 ?_
        refine Wp.iastore dX12_findChoices_16 (by first | rfl | exact kd_b0 _ | exact kd_b1 _ | exact kd_b2 _ | exact kd_b3 _ | exact kd_b4 _ | exact kd_b5 _ | exact kd_b6 _) (by omega) (by omega) (by omega) ?_
        refine Wp.aload_n rfl dX12_findChoices_17 ?_
        refine Wp.aload_n rfl dX12_findChoices_18 ?_
        refine Wp.gi (kz := 36) rfl dX12_findChoices_19 fkX12_254 (by first | rfl | exact kd_b0 _ | exact kd_b1 _ | exact kd_b2 _ | exact kd_b3 _ | exact kd_b4 _ | exact kd_b5 _ | exact kd_b6 _) (by omega) ?_
        try simp (disch := omega) only [up_same, up_o, up_k]
        refine Wp.aload_n rfl dX12_findChoices_22 ?_
        refine Wp.gr (kz := 37) rfl dX12_findChoices_23 fkX12_80 (by first | rfl | exact kd_b0 _ | exact kd_b1 _ | exact kd_b2 _ | exact kd_b3 _ | exact kd_b4 _ | exact kd_b5 _ | exact kd_b6 _) (by omega) (by first | exact hFx _ 37 _ rfl | assumption | exact hBk.1 | exact hBk.2.1 | exact hBk.2.2.1 | exact hBk.2.2.2.1 | exact hBk.2.2.2.2.1 | exact hBk.2.2.2.2.2) ?_
        try simp (disch := omega) only [up_same, up_o, up_k]
        refine Wp.iload_n rfl dX12_findChoices_26 ?_
        refine Wp.iaload dX12_findChoices_27 (by first | rfl | exact kd_b0 _ | exact kd_b1 _ | exact kd_b2 _ | exact kd_b3 _ | exact kd_b4 _ | exact kd_b5 _ | exact kd_b6 _) (by omega) (by omega) (by omega) ?_
        try simp (disch := omega) only [up_same, up_o, up_k]
        refine Wp.iload_n rfl dX12_findChoices_28 ?_
        refine Wp.callV (As := [_, _, _]) (ls0 := [_, _, _, _, _, _, _]) (bd := (0, 0)) (bd' := (0, 0)) dX12_findChoices_29 kmX12_entryOf lkX12_174 (by decide) (by decide) (Nat.le_of_ble_eq_true rfl) (by first | rfl | exact kd_b0 _ | exact kd_b1 _ | exact kd_b2 _ | exact kd_b3 _ | exact kd_b4 _ | exact kd_b5 _ | exact kd_b6 _) (by omega) rfl rfl (Nat.le_of_ble_eq_true rfl) rfl ?_
        refine ct_X12_entryOf hn hFx hWJ (by omega) (by omega) (by omega) (by omega) ?_
        rw [f0.lk, ent_cg f0.se, h51, h36]
        show Wp _ _ _ (_ :: _) _ _ _
        refine Wp.istore_n (ls' := [_, _, _, _, _, _]) dX12_findChoices_32 (by decide) rfl ?_
        refine Wp.iconst dX12_findChoices_33 ?_
        refine Wp.iload_n rfl dX12_findChoices_34 ?_
        refine Wp.imul dX12_findChoices_35 ?_
        refine Wp.istore (ls' := [_, _, _, _, _, _]) dX12_findChoices_36 (by decide) rfl ?_
        rcases hEn with hE | hE
        · rw [hE] at h131 ⊢
          exact Wp.iload_n rfl dX12_findChoices_38 (Wp.if_lt (tgt := 131) dX12_findChoices_39 (by decide) (by omega) (fun _ => h131 _ _ _ f0 (chA_new e1) (by unfold chL; rw [hE]; exact stL_new)) (fun c => absurd c (by omega)))
        · have hE1 := hE.1
          exact ls k (by omega) _ hE (fun J x4 x5 g0 g1 g2 => h131 J x4 x5 g0 g1 (by unfold chL cntE; rw [if_neg (by omega)]; exact g2)) (I 36 (ent I (I 32 11) (I 32 36) (I 51 k) b)).toNat 0 _ _ _ (by omega) (by omega) f0 (chA_new e1) stL_new
  refine Wp.iconst dX12_findChoices_0 ?_
  refine Wp.istore_n (ls' := [_, _, _, _, _, _]) dX12_findChoices_1 (by decide) rfl ?_
  exact lo (I 32 35).toNat 0 _ _ _ _ _ (by omega) (by omega) (Eqv.rf I) (fun q hq => by omega)
end

