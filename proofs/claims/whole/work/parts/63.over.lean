/-! ===== the class: sentences put over: slots ===== -/
section
variable {I J : Nat → Int → Int} {L K : Nat → Int → BitVec 64} {R : Nat → Int → Option Nat} {n k : Nat} {m : Mm} {Q : Option AV → Mm → Prop}
/-- choice c of an entry is there -/
abbrev vlP (I : Nat → Int → Int) (e : Int) (c : Nat) : Prop := 0 ≤ e ∧ ((c / 6 : Nat) : Int) < I 36 e ∧ ((c % 6 : Nat) : Int) < I 38 (3 * e + (c / 6 : Nat)) ∧ (I 32 10 ≠ 0 ∨ I 40 (18 * e + c) = 0)
def csF (I : Nat → Int → Int) (e : Int) : Nat → List Int
  | 0 => []
  | c + 1 => csF I e c ++ (if vlP I e c then [18 * e + (c : Int)] else [])
theorem csF_6 {e : Int} {s : Nat} (he : 0 ≤ e) (hs : (s : Int) < I 36 e) : ∀ p : Nat, p ≤ 6 → csF I e (6 * s + p) = csF I e (6 * s) ++ cpN I (I 32 10) (3 * e + s) (min p (I 38 (3 * e + s)).toNat)
  | 0, _ => by simp [cpN]
  | p + 1, hp => by
    have ih := csF_6 he hs p (by omega)
    show csF I e ((6 * s + p) + 1) = _
    simp only [csF]
    rw [ih, List.append_assoc]
    congr 1
    have e1 : (6 * s + p) / 6 = s := by omega
    have e2 : (6 * s + p) % 6 = p := by omega
    by_cases hpp : (p : Int) < I 38 (3 * e + s)
    · rw [show min p (I 38 (3 * e + s)).toNat = p by omega, show min (p + 1) (I 38 (3 * e + s)).toNat = p + 1 by omega]
      simp only [cpN]
      congr 1
      have e3 : (18 * e + ((6 * s + p : Nat) : Int)) = 6 * (3 * e + s) + p := by omega
      by_cases hc : I 32 10 ≠ 0 ∨ I 40 (6 * (3 * e + s) + p) = 0
      · rw [if_pos hc, if_pos, e3]
        exact ⟨he, by rw [e1]; exact hs, by rw [e1, e2]; exact hpp, by rw [e3]; exact hc⟩
      · rw [if_neg hc, if_neg]
        rintro ⟨_, _, _, h4⟩
        rw [e3] at h4; exact hc h4
    · rw [show min p (I 38 (3 * e + s)).toNat = min (p + 1) (I 38 (3 * e + s)).toNat by omega, if_neg, List.append_nil]
      rintro ⟨_, _, h3, _⟩
      rw [e1, e2] at h3; exact hpp h3
theorem csF_n {e : Int} {N : Nat} : ∀ d : Nat, (∀ c : Nat, N ≤ c → c < N + d → ¬ vlP I e c) → csF I e (N + d) = csF I e N
  | 0, _ => rfl
  | d + 1, h => by
    show csF I e ((N + d) + 1) = _
    simp only [csF]
    rw [csF_n d (fun c h1 h2 => h c h1 (by omega)), if_neg (h (N + d) (by omega) (by omega)), List.append_nil]
theorem csF_s {e : Int} (hE : EOk I e) : ∀ s : Nat, (s : Int) ≤ I 36 e → csF I e (6 * s) = csN I (I 32 10) e s
  | 0, _ => rfl
  | s + 1, hs => by
    have hso := (hE.2 s (by omega) (by omega)).1
    have h6 := csF_6 (I := I) (e := e) (s := s) (by have := hE.1; omega) (by omega) 6 (by omega)
    rw [show 6 * (s + 1) = 6 * s + 6 by omega, h6, csF_s hE s (by omega), show min 6 (I 38 (3 * e + s)).toNat = (I 38 (3 * e + s)).toNat by omega]
    rfl
theorem csF_18 {e : Int} (hE : e = -1 ∨ EOk I e) : csN I (I 32 10) e (cntE I e) = csF I e 18 := by
  rcases hE with rfl | hE
  · have := csF_n (I := I) (e := -1) (N := 0) 18 (fun c _ _ q => absurd q.1 (by decide))
    rw [show 0 + 18 = 18 from rfl] at this
    rw [this]; rfl
  · have h1 := hE.1
    have hc : cntE I e = (I 36 e).toNat := if_neg (by omega)
    have h2 := csF_s hE (I 36 e).toNat (by omega)
    rw [hc, ← h2]
    have h3 := csF_n (I := I) (e := e) (N := 6 * (I 36 e).toNat) (18 - 6 * (I 36 e).toNat) (fun c h4 h5 q => by have := q.2.1; omega)
    rw [← h3, show 6 * (I 36 e).toNat + (18 - 6 * (I 36 e).toNat) = 18 by omega]
/-- the greatest over the choices that are there; -1 -/
def tpN (I : Nat → Int → Int) (e : Int) (f : Int → Int) : Nat → Int
  | 0 => -1
  | c + 1 => if vlP I e c then max (tpN I e f c) (f (18 * e + c)) else tpN I e f c
theorem mxT_ap {f : Int → Int} {l r : List Int} : ∀ d : Nat, d ≤ l.length → mxT f (l ++ r) d = mxT f l d
  | 0, _ => rfl
  | d + 1, h => by
    simp only [mxT]
    rw [mxT_ap d (by omega), List.getD_eq_getElem?_getD, List.getElem?_append_left (by omega), ← List.getD_eq_getElem?_getD]
theorem tp_mx {e : Int} {f : Int → Int} (hf : ∀ q, 0 ≤ f q) : ∀ c : Nat, tpN I e f c = if csF I e c = [] then -1 else mxT f (csF I e c) (csF I e c).length
  | 0 => rfl
  | c + 1 => by
    have ih := tp_mx (e := e) hf c
    by_cases hv : vlP I e c
    · have hc1 : csF I e (c + 1) = csF I e c ++ [18 * e + (c : Int)] := by simp only [csF]; rw [if_pos hv]
      have hc2 : tpN I e f (c + 1) = max (tpN I e f c) (f (18 * e + c)) := by simp only [tpN]; rw [if_pos hv]
      rw [hc1, hc2, if_neg (by simp), ih, List.length_append, List.length_singleton]
      simp only [mxT]
      rw [mxT_ap _ (Nat.le_refl _)]
      have e1 : (csF I e c ++ [18 * e + (c : Int)]).getD (csF I e c).length 0 = 18 * e + c := by
        rw [List.getD_eq_getElem?_getD, List.getElem?_append_right (Nat.le_refl _)]; simp
      rw [e1]
      by_cases hn : csF I e c = []
      · rw [if_pos hn, hn]
        have := hf (18 * e + c)
        simp only [List.length_nil, mxT]
        omega
      · rw [if_neg hn]
    · have hc1 : csF I e (c + 1) = csF I e c := by simp only [csF]; rw [if_neg hv, List.append_nil]
      have hc2 : tpN I e f (c + 1) = tpN I e f c := by simp only [tpN]; rw [if_neg hv]
      rw [hc1, hc2]; exact ih
theorem csF_pre {e : Int} {c : Nat} : ∀ d : Nat, ∃ t, csF I e (c + d) = csF I e c ++ t
  | 0 => ⟨[], by simp⟩
  | d + 1 => by
    obtain ⟨t, ht⟩ := csF_pre d
    exact ⟨t ++ (if vlP I e (c + d) then [18 * e + ((c + d : Nat) : Int)] else []), by show csF I e ((c + d) + 1) = _; simp only [csF]; rw [ht, List.append_assoc]⟩
theorem cs_find {e : Int} {p : Int → Bool} {c N : Nat} (hc : c < N) (h0 : (csF I e c).find? p = none) (hv : vlP I e c) (hp : p (18 * e + c) = true) : (csF I e N).find? p = some (18 * e + c) := by
  obtain ⟨t, ht⟩ := csF_pre (I := I) (e := e) (c := c + 1) (N - (c + 1))
  rw [show c + 1 + (N - (c + 1)) = N by omega] at ht
  rw [ht]
  simp only [csF]
  rw [if_pos hv, List.append_assoc, List.find?_append, h0]
  simp [hp]
theorem cs_skip {e : Int} {p : Int → Bool} {c : Nat} (h0 : (csF I e c).find? p = none) (hv : ¬ (vlP I e c ∧ p (18 * e + c) = true)) : (csF I e (c + 1)).find? p = none := by
  simp only [csF]
  rw [List.find?_append, h0]
  by_cases h : vlP I e c
  · rw [if_pos h]
    have : ¬ p (18 * e + c) = true := fun q => hv ⟨h, q⟩
    simp [this]
  · rw [if_neg h]; rfl
/-- a choice is there if its word counts in its sense -/
theorem sv_iff (hW : RW I) {kb : Nat} {w : Int} {c : Nat} (hk : (kb : Int) < I 32 0) (h0 : 0 ≤ w) (h1 : w < 60) (hc : c < 18) : hasW (sst I (I 32 10) (60 * kb + w) ((c / 6 : Nat) : Int)) (wst I (60 * kb + w) ((c / 6 : Nat) : Int) ((c % 6 : Nat) : Int)) ↔ vlP I (60 * kb + w) c := by
  have hp : ((c / 6 : Nat) : Int) < I 36 (60 * kb + w) → ∀ p : Nat, p < (I 38 (3 * (60 * kb + w) + (c / 6 : Nat))).toNat → (0 ≤ I 39 (6 * (3 * (60 * kb + w) + (c / 6 : Nat)) + p) ∧ I 39 (6 * (3 * (60 * kb + w) + (c / 6 : Nat)) + p) < 60) ∧ ∀ p' : Nat, p' < p → I 39 (6 * (3 * (60 * kb + w) + (c / 6 : Nat)) + p') ≠ I 39 (6 * (3 * (60 * kb + w) + (c / 6 : Nat)) + p) := by
    intro hs p hp
    have h := hW.2.2.2.2.2 kb (by omega)
    have h2 := ((h.2 w h0 h1).2 ((c / 6 : Nat) : Int) (by omega) hs).2 p (by omega) (by omega)
    exact ⟨⟨h2.1.1, h2.1.2.1⟩, fun p' hp' => h2.2 p' (by omega) (by omega)⟩
  have e3 : (18 * (60 * (kb : Int) + w) + (c : Int)) = 6 * (3 * (60 * kb + w) + (c / 6 : Nat)) + (c % 6 : Nat) := by omega
  unfold vlP
  rw [e3]
  have hcm : c % 6 < 6 := Nat.mod_lt _ (by decide)
  generalize c / 6 = s at *
  generalize c % 6 = pl at *
  unfold wst
  constructor
  · rintro ⟨a0, a1, a2⟩
    split at a0
    · rename_i hx
      rw [if_pos hx] at a1 a2
      unfold sst at a2
      rw [if_pos hx.1] at a2
      have hpp := hp hx.1.2
      unfold ss at a2
      rw [ssN_bit _ _ (fun p h => by have := (hpp p h).1; omega)] at a2
      obtain ⟨p, hp1, hp2, hp3⟩ := a2
      have b1 := hpp p hp1
      have b2 := hpp pl (by omega)
      have hpe : p = pl := by
        rcases Nat.lt_trichotomy p pl with h | h | h
        · exact absurd (show I 39 (6 * (3 * (60 * kb + w) + s) + p) = I 39 (6 * (3 * (60 * kb + w) + s) + pl) by omega) (b2.2 p h)
        · exact h
        · exact absurd (show I 39 (6 * (3 * (60 * kb + w) + s) + pl) = I 39 (6 * (3 * (60 * kb + w) + s) + p) by omega) (b1.2 pl h)
      subst hpe
      exact ⟨by omega, hx.1.2, hx.2.2, hp2⟩
    · omega
  · rintro ⟨_, h3, h4, h5⟩
    have hx : ((0 : Int) ≤ (s : Int) ∧ (s : Int) < I 36 (60 * kb + w)) ∧ (0 : Int) ≤ (pl : Int) ∧ (pl : Int) < I 38 (3 * (60 * kb + w) + s) := ⟨⟨by omega, h3⟩, by omega, h4⟩
    have hpp := hp h3
    have b2 := hpp pl (by omega)
    rw [if_pos hx]
    refine ⟨b2.1.1, b2.1.2, ?_⟩
    unfold sst
    rw [if_pos hx.1]
    unfold ss
    rw [ssN_bit _ _ (fun p h => by have := (hpp p h).1; omega)]
    exact ⟨pl, by omega, h5, rfl⟩
theorem ct_X4_writeFollowers {a x : Int} (hn : 57 ≤ n) (hFx : Fx R) (hP : PrW (I 13) (I 14) (I 15) (I 16) (I 12 4)) (ha : inR a) (hx : inR x) (hq : ∀ J, (∀ (o : Nat) (z : Int), o ≠ 25 → J o z = I o z) → (∀ y : Nat, y < 60 → J 25 y = stN (I 13) (I 14) (I 15) (I 16) a x y (I 12 4).toNat) → Q none (J, L, R, n)) : Wp mX4_writeFollowers 0 [some (vr (some 12)), some (vi a), some (vi x), some (vr (some 25)), none, none] [] (I, L, R, n) (0, 0) Q := by
  have p0 := hP.1
  have p1 := hP.2.1
  have l2 : ∀ (tt k : Nat) (z : Int) (J : Nat → Int → Int) (x5 : Option AV), k + tt = (I 12 4).toNat → z = k → (∀ (o : Nat) (z : Int), o ≠ 25 → J o z = I o z) → (∀ y : Nat, y < 60 → J 25 y = stN (I 13) (I 14) (I 15) (I 16) a x y k) → Wp mX4_writeFollowers 24 [some (vr (some 12)), some (vi a), some (vi x), some (vr (some 25)), some (vi z), x5] [] (J, L, R, n) (0, 0) Q := by
    intro tt
    induction tt with
    | zero =>
      intro k z J x5 hkt hz e0 e1
      obtain rfl : k = (I 12 4).toNat := by omega
      have j12 := e0 12 4 (by decide)
      refine Wp.iload rfl dX4_writeFollowers_24 ?_
      refine Wp.aload_n rfl dX4_writeFollowers_26 ?_
      refine Wp.gi (kz := 4) rfl dX4_writeFollowers_27 fkX4_24 (by first | rfl | exact kd_b0 _ | exact kd_b1 _ | exact kd_b2 _ | exact kd_b3 _ | exact kd_b4 _ | exact kd_b5 _ | exact kd_b6 _) (by omega) ?_
      refine Wp.icmp_ge (tgt := 100) dX4_writeFollowers_30 (by decide) (by first | omega | exact bI_R _ | exact cmp_R _ _ | assumption) (by first | omega | exact bI_R _ | exact cmp_R _ _ | assumption) (fun c30 => ?_) (fun c30 => ?_)
      · refine Wp.vreturn dX4_writeFollowers_100 rfl ?_
        first | (exfalso; omega) | (exact hq J e0 e1)
      · refine Wp.iload rfl dX4_writeFollowers_33 ?_
        refine Wp.bipush rfl dX4_writeFollowers_35 ?_
        refine Wp.icmp_ge (tgt := 100) dX4_writeFollowers_37 (by decide) (by first | omega | exact bI_R _ | exact cmp_R _ _ | assumption) (by first | omega | exact bI_R _ | exact cmp_R _ _ | assumption) (fun c37 => ?_) (fun c37 => ?_)
        · refine Wp.vreturn dX4_writeFollowers_100 rfl ?_
          first | (exfalso; omega) | (exact hq J e0 e1)
        · exfalso; omega
    | succ tt ih =>
      intro k z J x5 hkt hz e0 e1
      subst hz
      have j12 := e0 12 4 (by decide)
      have hk := hP.2.2 k (by omega)
      have j13 := e0 13 k (by decide)
      have j14 := e0 14 k (by decide)
      have j15 := e0 15 k (by decide)
      have j16 := e0 16 k (by decide)
      refine Wp.iload rfl dX4_writeFollowers_24 ?_
      refine Wp.aload_n rfl dX4_writeFollowers_26 ?_
      refine Wp.gi (kz := 4) rfl dX4_writeFollowers_27 fkX4_24 (by first | rfl | exact kd_b0 _ | exact kd_b1 _ | exact kd_b2 _ | exact kd_b3 _ | exact kd_b4 _ | exact kd_b5 _ | exact kd_b6 _) (by omega) ?_
      refine Wp.icmp_ge (tgt := 100) dX4_writeFollowers_30 (by decide) (by first | omega | exact bI_R _ | exact cmp_R _ _ | assumption) (by first | omega | exact bI_R _ | exact cmp_R _ _ | assumption) (fun c30 => ?_) (fun c30 => ?_)
      · exfalso; omega
      · refine Wp.iload rfl dX4_writeFollowers_33 ?_
        refine Wp.bipush rfl dX4_writeFollowers_35 ?_
        refine Wp.icmp_ge (tgt := 100) dX4_writeFollowers_37 (by decide) (by first | omega | exact bI_R _ | exact cmp_R _ _ | assumption) (by first | omega | exact bI_R _ | exact cmp_R _ _ | assumption) (fun c37 => ?_) (fun c37 => ?_)
        · exfalso; omega
        · refine Wp.aload_n rfl dX4_writeFollowers_40 ?_
          refine Wp.gr (kz := 2) rfl dX4_writeFollowers_41 fkX4_18 (by first | rfl | exact kd_b0 _ | exact kd_b1 _ | exact kd_b2 _ | exact kd_b3 _ | exact kd_b4 _ | exact kd_b5 _ | exact kd_b6 _) (by omega) (by first | exact hFx _ 2 _ rfl | assumption | exact hBk.1 | exact hBk.2.1 | exact hBk.2.2.1 | exact hBk.2.2.2.1 | exact hBk.2.2.2.2.1 | exact hBk.2.2.2.2.2) ?_
          refine Wp.iload rfl dX4_writeFollowers_44 ?_
          refine Wp.iaload dX4_writeFollowers_46 (by first | rfl | exact kd_b0 _ | exact kd_b1 _ | exact kd_b2 _ | exact kd_b3 _ | exact kd_b4 _ | exact kd_b5 _ | exact kd_b6 _) (by omega) (by omega) (by omega) ?_
          refine Wp.istore (ls' := [_, _, _, _, _, _]) dX4_writeFollowers_47 (by decide) rfl ?_
          refine Wp.aload_n rfl dX4_writeFollowers_49 ?_
          refine Wp.gr (kz := 0) rfl dX4_writeFollowers_50 fkX4_9 (by first | rfl | exact kd_b0 _ | exact kd_b1 _ | exact kd_b2 _ | exact kd_b3 _ | exact kd_b4 _ | exact kd_b5 _ | exact kd_b6 _) (by omega) (by first | exact hFx _ 0 _ rfl | assumption | exact hBk.1 | exact hBk.2.1 | exact hBk.2.2.1 | exact hBk.2.2.2.1 | exact hBk.2.2.2.2.1 | exact hBk.2.2.2.2.2) ?_
          refine Wp.iload rfl dX4_writeFollowers_53 ?_
          refine Wp.iaload dX4_writeFollowers_55 (by first | rfl | exact kd_b0 _ | exact kd_b1 _ | exact kd_b2 _ | exact kd_b3 _ | exact kd_b4 _ | exact kd_b5 _ | exact kd_b6 _) (by omega) (by omega) (by omega) ?_
          refine Wp.iload_n rfl dX4_writeFollowers_56 ?_
          refine Wp.icmp_ne (tgt := 94) dX4_writeFollowers_57 (by decide) (by first | omega | exact bI_R _ | exact cmp_R _ _ | assumption) (by first | omega | exact bI_R _ | exact cmp_R _ _ | assumption) (fun c57 => ?_) (fun c57 => ?_)
          · refine Wp.iinc (ls' := [_, _, _, _, _, _]) rfl dX4_writeFollowers_94 (by decide) rfl ?_
            refine Wp.goto (tgt := 24) dX4_writeFollowers_97 (by decide) ?_
            first | (refine ih (k + 1) _ _ _ (by omega) (by omega) (fun o z ho => by rw [up_o _ _ _ _ ho]; exact e0 o z ho) (fun y hy => ?_); by_cases hyk : (y : Int) = I 15 k; (rw [j15, hyk, up_same, j16]; exact stN_t (by omega) (by omega) rfl); (rw [up_k _ _ _ _ (by omega), e1 y hy]; exact stN_f (fun q => hyk q.2.2.symm))) | exact ih (k + 1) _ _ _ (by omega) (by omega) e0 (fun y hy => (e1 y hy).trans (stN_f (fun q => by omega))) | (exfalso; omega)
          · refine Wp.aload_n rfl dX4_writeFollowers_60 ?_
            refine Wp.gr (kz := 1) rfl dX4_writeFollowers_61 fkX4_15 (by first | rfl | exact kd_b0 _ | exact kd_b1 _ | exact kd_b2 _ | exact kd_b3 _ | exact kd_b4 _ | exact kd_b5 _ | exact kd_b6 _) (by omega) (by first | exact hFx _ 1 _ rfl | assumption | exact hBk.1 | exact hBk.2.1 | exact hBk.2.2.1 | exact hBk.2.2.2.1 | exact hBk.2.2.2.2.1 | exact hBk.2.2.2.2.2) ?_
            refine Wp.iload rfl dX4_writeFollowers_64 ?_
            refine Wp.iaload dX4_writeFollowers_66 (by first | rfl | exact kd_b0 _ | exact kd_b1 _ | exact kd_b2 _ | exact kd_b3 _ | exact kd_b4 _ | exact kd_b5 _ | exact kd_b6 _) (by omega) (by omega) (by omega) ?_
            refine Wp.iload_n rfl dX4_writeFollowers_67 ?_
            refine Wp.icmp_ne (tgt := 94) dX4_writeFollowers_68 (by decide) (by first | omega | exact bI_R _ | exact cmp_R _ _ | assumption) (by first | omega | exact bI_R _ | exact cmp_R _ _ | assumption) (fun c68 => ?_) (fun c68 => ?_)
            · refine Wp.iinc (ls' := [_, _, _, _, _, _]) rfl dX4_writeFollowers_94 (by decide) rfl ?_
              refine Wp.goto (tgt := 24) dX4_writeFollowers_97 (by decide) ?_
              first | (refine ih (k + 1) _ _ _ (by omega) (by omega) (fun o z ho => by rw [up_o _ _ _ _ ho]; exact e0 o z ho) (fun y hy => ?_); by_cases hyk : (y : Int) = I 15 k; (rw [j15, hyk, up_same, j16]; exact stN_t (by omega) (by omega) rfl); (rw [up_k _ _ _ _ (by omega), e1 y hy]; exact stN_f (fun q => hyk q.2.2.symm))) | exact ih (k + 1) _ _ _ (by omega) (by omega) e0 (fun y hy => (e1 y hy).trans (stN_f (fun q => by omega))) | (exfalso; omega)
            · refine Wp.iload rfl dX4_writeFollowers_71 ?_
              refine Wp.if_lt (tgt := 94) dX4_writeFollowers_73 (by decide) (by first | omega | exact bI_R _ | exact cmp_R _ _ | assumption) (fun c73 => ?_) (fun c73 => ?_)
              · refine Wp.iinc (ls' := [_, _, _, _, _, _]) rfl dX4_writeFollowers_94 (by decide) rfl ?_
                refine Wp.goto (tgt := 24) dX4_writeFollowers_97 (by decide) ?_
                first | (refine ih (k + 1) _ _ _ (by omega) (by omega) (fun o z ho => by rw [up_o _ _ _ _ ho]; exact e0 o z ho) (fun y hy => ?_); by_cases hyk : (y : Int) = I 15 k; (rw [j15, hyk, up_same, j16]; exact stN_t (by omega) (by omega) rfl); (rw [up_k _ _ _ _ (by omega), e1 y hy]; exact stN_f (fun q => hyk q.2.2.symm))) | exact ih (k + 1) _ _ _ (by omega) (by omega) e0 (fun y hy => (e1 y hy).trans (stN_f (fun q => by omega))) | (exfalso; omega)
              · refine Wp.iload rfl dX4_writeFollowers_76 ?_
                refine Wp.aload_n rfl dX4_writeFollowers_78 ?_
                refine Wp.arraylength dX4_writeFollowers_79 (by first | rfl | exact kd_b0 _ | exact kd_b1 _ | exact kd_b2 _ | exact kd_b3 _ | exact kd_b4 _ | exact kd_b5 _ | exact kd_b6 _) (by decide) (by omega) ?_
                refine Wp.icmp_ge (tgt := 94) dX4_writeFollowers_80 (by decide) (by first | omega | exact bI_R _ | exact cmp_R _ _ | assumption) (by first | omega | exact bI_R _ | exact cmp_R _ _ | assumption) (fun c80 => ?_) (fun c80 => ?_)
                · refine Wp.iinc (ls' := [_, _, _, _, _, _]) rfl dX4_writeFollowers_94 (by decide) rfl ?_
                  refine Wp.goto (tgt := 24) dX4_writeFollowers_97 (by decide) ?_
                  first | (refine ih (k + 1) _ _ _ (by omega) (by omega) (fun o z ho => by rw [up_o _ _ _ _ ho]; exact e0 o z ho) (fun y hy => ?_); by_cases hyk : (y : Int) = I 15 k; (rw [j15, hyk, up_same, j16]; exact stN_t (by omega) (by omega) rfl); (rw [up_k _ _ _ _ (by omega), e1 y hy]; exact stN_f (fun q => hyk q.2.2.symm))) | exact ih (k + 1) _ _ _ (by omega) (by omega) e0 (fun y hy => (e1 y hy).trans (stN_f (fun q => by omega))) | (exfalso; omega)
                · refine Wp.aload_n rfl dX4_writeFollowers_83 ?_
                  refine Wp.iload rfl dX4_writeFollowers_84 ?_
                  refine Wp.aload_n rfl dX4_writeFollowers_86 ?_
                  refine Wp.gr (kz := 3) rfl dX4_writeFollowers_87 fkX4_21 (by first | rfl | exact kd_b0 _ | exact kd_b1 _ | exact kd_b2 _ | exact kd_b3 _ | exact kd_b4 _ | exact kd_b5 _ | exact kd_b6 _) (by omega) (by first | exact hFx _ 3 _ rfl | assumption | exact hBk.1 | exact hBk.2.1 | exact hBk.2.2.1 | exact hBk.2.2.2.1 | exact hBk.2.2.2.2.1 | exact hBk.2.2.2.2.2) ?_
                  refine Wp.iload rfl dX4_writeFollowers_90 ?_
                  refine Wp.iaload dX4_writeFollowers_92 (by first | rfl | exact kd_b0 _ | exact kd_b1 _ | exact kd_b2 _ | exact kd_b3 _ | exact kd_b4 _ | exact kd_b5 _ | exact kd_b6 _) (by omega) (by omega) (by omega) ?_
                  refine Wp.iastore dX4_writeFollowers_93 (by first | rfl | exact kd_b0 _ | exact kd_b1 _ | exact kd_b2 _ | exact kd_b3 _ | exact kd_b4 _ | exact kd_b5 _ | exact kd_b6 _) (by omega) (by omega) (by omega) ?_
                  refine Wp.iinc (ls' := [_, _, _, _, _, _]) rfl dX4_writeFollowers_94 (by decide) rfl ?_
                  refine Wp.goto (tgt := 24) dX4_writeFollowers_97 (by decide) ?_
                  first | (refine ih (k + 1) _ _ _ (by omega) (by omega) (fun o z ho => by rw [up_o _ _ _ _ ho]; exact e0 o z ho) (fun y hy => ?_); by_cases hyk : (y : Int) = I 15 k; (rw [j15, hyk, up_same, j16]; exact stN_t (by omega) (by omega) rfl); (rw [up_k _ _ _ _ (by omega), e1 y hy]; exact stN_f (fun q => hyk q.2.2.symm))) | exact ih (k + 1) _ _ _ (by omega) (by omega) e0 (fun y hy => (e1 y hy).trans (stN_f (fun q => by omega))) | (exfalso; omega)
  have l1 : ∀ (tt k : Nat) (z : Int) (J : Nat → Int → Int), k + tt = 60 → z = k → (∀ (o : Nat) (z : Int), o ≠ 25 → J o z = I o z) → (∀ y : Nat, y < k → J 25 y = 0) → Wp mX4_writeFollowers 3 [some (vr (some 12)), some (vi a), some (vi x), some (vr (some 25)), some (vi z), none] [] (J, L, R, n) (0, 0) Q := by
    intro tt
    induction tt with
    | zero =>
      intro k z J hkt hz e0 e1
      obtain rfl : k = 60 := by omega
      refine Wp.iload rfl dX4_writeFollowers_3 ?_
      refine Wp.aload_n rfl dX4_writeFollowers_5 ?_
      refine Wp.arraylength dX4_writeFollowers_6 (by first | rfl | exact kd_b0 _ | exact kd_b1 _ | exact kd_b2 _ | exact kd_b3 _ | exact kd_b4 _ | exact kd_b5 _ | exact kd_b6 _) (by decide) (by omega) ?_
      refine Wp.icmp_ge (tgt := 21) dX4_writeFollowers_7 (by decide) (by first | omega | exact bI_R _ | exact cmp_R _ _ | assumption) (by first | omega | exact bI_R _ | exact cmp_R _ _ | assumption) (fun c7 => ?_) (fun c7 => ?_)
      · refine Wp.iconst dX4_writeFollowers_21 ?_
        refine Wp.istore (ls' := [_, _, _, _, _, _]) dX4_writeFollowers_22 (by decide) rfl ?_
        exact l2 (I 12 4).toNat 0 _ J _ (by omega) (by omega) e0 (fun y hy => e1 y hy)
      · exfalso; omega
    | succ tt ih =>
      intro k z J hkt hz e0 e1
      subst hz
      refine Wp.iload rfl dX4_writeFollowers_3 ?_
      refine Wp.aload_n rfl dX4_writeFollowers_5 ?_
      refine Wp.arraylength dX4_writeFollowers_6 (by first | rfl | exact kd_b0 _ | exact kd_b1 _ | exact kd_b2 _ | exact kd_b3 _ | exact kd_b4 _ | exact kd_b5 _ | exact kd_b6 _) (by decide) (by omega) ?_
      refine Wp.icmp_ge (tgt := 21) dX4_writeFollowers_7 (by decide) (by first | omega | exact bI_R _ | exact cmp_R _ _ | assumption) (by first | omega | exact bI_R _ | exact cmp_R _ _ | assumption) (fun c7 => ?_) (fun c7 => ?_)
      · exfalso; omega
      · refine Wp.aload_n rfl dX4_writeFollowers_10 ?_
        refine Wp.iload rfl dX4_writeFollowers_11 ?_
        refine Wp.iconst dX4_writeFollowers_13 ?_
        refine Wp.iastore dX4_writeFollowers_14 (by first | rfl | exact kd_b0 _ | exact kd_b1 _ | exact kd_b2 _ | exact kd_b3 _ | exact kd_b4 _ | exact kd_b5 _ | exact kd_b6 _) (by omega) (by omega) (by omega) ?_
        refine Wp.iinc (ls' := [_, _, _, _, _, _]) rfl dX4_writeFollowers_15 (by decide) rfl ?_
        refine Wp.goto (tgt := 3) dX4_writeFollowers_18 (by decide) ?_
        refine ih (k + 1) _ _ (by omega) (by omega) (fun o z ho => by rw [up_o _ _ _ _ ho]; exact e0 o z ho) (fun y hy => ?_)
        by_cases hyk : y = k
        · subst hyk; rw [up_same]
        · rw [up_k _ _ _ _ (by omega)]; exact e1 y (by omega)
  refine Wp.iconst dX4_writeFollowers_0 ?_
  refine Wp.istore (ls' := [_, _, _, _, _, _]) dX4_writeFollowers_1 (by decide) rfl ?_
  exact l1 60 0 _ I (by omega) (by omega) (fun _ _ _ => rfl) (fun y hy => by omega)
theorem ct_X3_slot {i c : Int} (hn : 57 ≤ n) (hi : inR i) (hc : inR c) (h0 : 0 ≤ I 19 6) (h1 : I 19 6 ≤ 10) (hq : Q (some (vi (if (0 ≤ i ∧ i < I 19 6) ∧ 0 ≤ c ∧ c < 18 then i * 18 + c else -1))) (I, L, R, n)) : Wp mX3_slot 0 [some (vr (some 19)), some (vi i), some (vi c)] [] (I, L, R, n) (0, 0) Q := by
  refine Wp.iload_n rfl dX3_slot_0 ?_
  refine Wp.if_lt (tgt := 37) dX3_slot_1 (by decide) (by first | omega | exact bI_R _ | exact cmp_R _ _ | assumption) (fun c1 => ?_) (fun c1 => ?_)
  · refine Wp.iconst dX3_slot_37 ?_
    refine Wp.ireturn dX3_slot_38 rfl ?_
    first | (exfalso; omega) | (exact qI hq (by first | rw [if_pos (by omega)] | rw [if_neg (by omega)]))
  · refine Wp.iload_n rfl dX3_slot_4 ?_
    refine Wp.aload_n rfl dX3_slot_5 ?_
    refine Wp.gi (kz := 6) rfl dX3_slot_6 fkX3_30 (by first | rfl | exact kd_b0 _ | exact kd_b1 _ | exact kd_b2 _ | exact kd_b3 _ | exact kd_b4 _ | exact kd_b5 _ | exact kd_b6 _) (by omega) ?_
    refine Wp.icmp_ge (tgt := 37) dX3_slot_9 (by decide) (by first | omega | exact bI_R _ | exact cmp_R _ _ | assumption) (by first | omega | exact bI_R _ | exact cmp_R _ _ | assumption) (fun c9 => ?_) (fun c9 => ?_)
    · refine Wp.iconst dX3_slot_37 ?_
      refine Wp.ireturn dX3_slot_38 rfl ?_
      first | (exfalso; omega) | (exact qI hq (by first | rw [if_pos (by omega)] | rw [if_neg (by omega)]))
    · refine Wp.iload_n rfl dX3_slot_12 ?_
      refine Wp.bipush rfl dX3_slot_13 ?_
      refine Wp.icmp_ge (tgt := 37) dX3_slot_15 (by decide) (by first | omega | exact bI_R _ | exact cmp_R _ _ | assumption) (by first | omega | exact bI_R _ | exact cmp_R _ _ | assumption) (fun c15 => ?_) (fun c15 => ?_)
      · refine Wp.iconst dX3_slot_37 ?_
        refine Wp.ireturn dX3_slot_38 rfl ?_
        first | (exfalso; omega) | (exact qI hq (by first | rw [if_pos (by omega)] | rw [if_neg (by omega)]))
      · refine Wp.iload_n rfl dX3_slot_18 ?_
        refine Wp.if_lt (tgt := 37) dX3_slot_19 (by decide) (by first | omega | exact bI_R _ | exact cmp_R _ _ | assumption) (fun c19 => ?_) (fun c19 => ?_)
        · refine Wp.iconst dX3_slot_37 ?_
          refine Wp.ireturn dX3_slot_38 rfl ?_
          first | (exfalso; omega) | (exact qI hq (by first | rw [if_pos (by omega)] | rw [if_neg (by omega)]))
        · refine Wp.iload_n rfl dX3_slot_22 ?_
          refine Wp.bipush rfl dX3_slot_23 ?_
          refine Wp.icmp_ge (tgt := 37) dX3_slot_25 (by decide) (by first | omega | exact bI_R _ | exact cmp_R _ _ | assumption) (by first | omega | exact bI_R _ | exact cmp_R _ _ | assumption) (fun c25 => ?_) (fun c25 => ?_)
          · refine Wp.iconst dX3_slot_37 ?_
            refine Wp.ireturn dX3_slot_38 rfl ?_
            first | (exfalso; omega) | (exact qI hq (by first | rw [if_pos (by omega)] | rw [if_neg (by omega)]))
          · refine Wp.iload_n rfl dX3_slot_28 ?_
            refine Wp.bipush rfl dX3_slot_29 ?_
            refine Wp.imul dX3_slot_31 ?_
            refine Wp.iload_n rfl dX3_slot_32 ?_
            refine Wp.iadd dX3_slot_33 ?_
            refine Wp.goto (tgt := 38) dX3_slot_34 (by decide) ?_
            refine Wp.ireturn dX3_slot_38 rfl ?_
            first | (exfalso; omega) | (exact qI hq (by first | rw [if_pos (by omega)] | rw [if_neg (by omega)]))
theorem ct_X3_wordIn {z : Int} (hn : 57 ≤ n) (hFx : Fx R) (hz : inR z) (hq : Q (some (vi (if 0 ≤ z ∧ z < 180 then I 20 z else -1))) (I, L, R, n)) : Wp mX3_wordIn 0 [some (vr (some 19)), some (vi z)] [] (I, L, R, n) (0, 0) Q := by
  refine Wp.iload_n rfl dX3_wordIn_0 ?_
  refine Wp.if_lt (tgt := 22) dX3_wordIn_1 (by decide) (by first | omega | exact bI_R _ | exact cmp_R _ _ | assumption) (fun c1 => ?_) (fun c1 => ?_)
  · refine Wp.iconst dX3_wordIn_22 ?_
    refine Wp.ireturn dX3_wordIn_23 rfl ?_
    first | (exfalso; omega) | (exact qI hq (by first | rw [if_pos (by omega)] | rw [if_neg (by omega)]))
  · refine Wp.iload_n rfl dX3_wordIn_4 ?_
    refine Wp.aload_n rfl dX3_wordIn_5 ?_
    refine Wp.gr (kz := 0) rfl dX3_wordIn_6 fkX3_11 (by first | rfl | exact kd_b0 _ | exact kd_b1 _ | exact kd_b2 _ | exact kd_b3 _ | exact kd_b4 _ | exact kd_b5 _ | exact kd_b6 _) (by omega) (by first | exact hFx _ 0 _ rfl | assumption | exact hBk.1 | exact hBk.2.1 | exact hBk.2.2.1 | exact hBk.2.2.2.1 | exact hBk.2.2.2.2.1 | exact hBk.2.2.2.2.2) ?_
    refine Wp.arraylength dX3_wordIn_9 (by first | rfl | exact kd_b0 _ | exact kd_b1 _ | exact kd_b2 _ | exact kd_b3 _ | exact kd_b4 _ | exact kd_b5 _ | exact kd_b6 _) (by decide) (by omega) ?_
    refine Wp.icmp_ge (tgt := 22) dX3_wordIn_10 (by decide) (by first | omega | exact bI_R _ | exact cmp_R _ _ | assumption) (by first | omega | exact bI_R _ | exact cmp_R _ _ | assumption) (fun c10 => ?_) (fun c10 => ?_)
    · refine Wp.iconst dX3_wordIn_22 ?_
      refine Wp.ireturn dX3_wordIn_23 rfl ?_
      first | (exfalso; omega) | (exact qI hq (by first | rw [if_pos (by omega)] | rw [if_neg (by omega)]))
    · refine Wp.aload_n rfl dX3_wordIn_13 ?_
      refine Wp.gr (kz := 0) rfl dX3_wordIn_14 fkX3_11 (by first | rfl | exact kd_b0 _ | exact kd_b1 _ | exact kd_b2 _ | exact kd_b3 _ | exact kd_b4 _ | exact kd_b5 _ | exact kd_b6 _) (by omega) (by first | exact hFx _ 0 _ rfl | assumption | exact hBk.1 | exact hBk.2.1 | exact hBk.2.2.1 | exact hBk.2.2.2.1 | exact hBk.2.2.2.2.1 | exact hBk.2.2.2.2.2) ?_
      refine Wp.iload_n rfl dX3_wordIn_17 ?_
      refine Wp.iaload dX3_wordIn_18 (by first | rfl | exact kd_b0 _ | exact kd_b1 _ | exact kd_b2 _ | exact kd_b3 _ | exact kd_b4 _ | exact kd_b5 _ | exact kd_b6 _) (by omega) (by omega) (by omega) ?_
      refine Wp.goto (tgt := 23) dX3_wordIn_19 (by decide) ?_
      refine Wp.ireturn dX3_wordIn_23 rfl ?_
      first | (exfalso; omega) | (exact qI hq (by first | rw [if_pos (by omega)] | rw [if_neg (by omega)]))
theorem ct_X3_fieldIn {z : Int} (hn : 57 ≤ n) (hFx : Fx R) (hz : inR z) (hq : Q (some (vi (if 0 ≤ z ∧ z < 180 then I 21 z else -1))) (I, L, R, n)) : Wp mX3_fieldIn 0 [some (vr (some 19)), some (vi z)] [] (I, L, R, n) (0, 0) Q := by
  refine Wp.iload_n rfl dX3_fieldIn_0 ?_
  refine Wp.if_lt (tgt := 22) dX3_fieldIn_1 (by decide) (by first | omega | exact bI_R _ | exact cmp_R _ _ | assumption) (fun c1 => ?_) (fun c1 => ?_)
  · refine Wp.iconst dX3_fieldIn_22 ?_
    refine Wp.ireturn dX3_fieldIn_23 rfl ?_
    first | (exfalso; omega) | (exact qI hq (by first | rw [if_pos (by omega)] | rw [if_neg (by omega)]))
  · refine Wp.iload_n rfl dX3_fieldIn_4 ?_
    refine Wp.aload_n rfl dX3_fieldIn_5 ?_
    refine Wp.gr (kz := 1) rfl dX3_fieldIn_6 fkX3_15 (by first | rfl | exact kd_b0 _ | exact kd_b1 _ | exact kd_b2 _ | exact kd_b3 _ | exact kd_b4 _ | exact kd_b5 _ | exact kd_b6 _) (by omega) (by first | exact hFx _ 1 _ rfl | assumption | exact hBk.1 | exact hBk.2.1 | exact hBk.2.2.1 | exact hBk.2.2.2.1 | exact hBk.2.2.2.2.1 | exact hBk.2.2.2.2.2) ?_
    refine Wp.arraylength dX3_fieldIn_9 (by first | rfl | exact kd_b0 _ | exact kd_b1 _ | exact kd_b2 _ | exact kd_b3 _ | exact kd_b4 _ | exact kd_b5 _ | exact kd_b6 _) (by decide) (by omega) ?_
    refine Wp.icmp_ge (tgt := 22) dX3_fieldIn_10 (by decide) (by first | omega | exact bI_R _ | exact cmp_R _ _ | assumption) (by first | omega | exact bI_R _ | exact cmp_R _ _ | assumption) (fun c10 => ?_) (fun c10 => ?_)
    · refine Wp.iconst dX3_fieldIn_22 ?_
      refine Wp.ireturn dX3_fieldIn_23 rfl ?_
      first | (exfalso; omega) | (exact qI hq (by first | rw [if_pos (by omega)] | rw [if_neg (by omega)]))
    · refine Wp.aload_n rfl dX3_fieldIn_13 ?_
      refine Wp.gr (kz := 1) rfl dX3_fieldIn_14 fkX3_15 (by first | rfl | exact kd_b0 _ | exact kd_b1 _ | exact kd_b2 _ | exact kd_b3 _ | exact kd_b4 _ | exact kd_b5 _ | exact kd_b6 _) (by omega) (by first | exact hFx _ 1 _ rfl | assumption | exact hBk.1 | exact hBk.2.1 | exact hBk.2.2.1 | exact hBk.2.2.2.1 | exact hBk.2.2.2.2.1 | exact hBk.2.2.2.2.2) ?_
      refine Wp.iload_n rfl dX3_fieldIn_17 ?_
      refine Wp.iaload dX3_fieldIn_18 (by first | rfl | exact kd_b0 _ | exact kd_b1 _ | exact kd_b2 _ | exact kd_b3 _ | exact kd_b4 _ | exact kd_b5 _ | exact kd_b6 _) (by omega) (by omega) (by omega) ?_
      refine Wp.goto (tgt := 23) dX3_fieldIn_19 (by decide) ?_
      refine Wp.ireturn dX3_fieldIn_23 rfl ?_
      first | (exfalso; omega) | (exact qI hq (by first | rw [if_pos (by omega)] | rw [if_neg (by omega)]))
theorem ct_X3_sumIn {z : Int} (hn : 57 ≤ n) (hFx : Fx R) (hz : inR z) (hq : Q (some (vi (if 0 ≤ z ∧ z < 180 then I 22 z else 0))) (I, L, R, n)) : Wp mX3_sumIn 0 [some (vr (some 19)), some (vi z)] [] (I, L, R, n) (0, 0) Q := by
  refine Wp.iload_n rfl dX3_sumIn_0 ?_
  refine Wp.if_lt (tgt := 22) dX3_sumIn_1 (by decide) (by first | omega | exact bI_R _ | exact cmp_R _ _ | assumption) (fun c1 => ?_) (fun c1 => ?_)
  · refine Wp.iconst dX3_sumIn_22 ?_
    refine Wp.ireturn dX3_sumIn_23 rfl ?_
    first | (exfalso; omega) | (exact qI hq (by first | rw [if_pos (by omega)] | rw [if_neg (by omega)]))
  · refine Wp.iload_n rfl dX3_sumIn_4 ?_
    refine Wp.aload_n rfl dX3_sumIn_5 ?_
    refine Wp.gr (kz := 2) rfl dX3_sumIn_6 fkX3_18 (by first | rfl | exact kd_b0 _ | exact kd_b1 _ | exact kd_b2 _ | exact kd_b3 _ | exact kd_b4 _ | exact kd_b5 _ | exact kd_b6 _) (by omega) (by first | exact hFx _ 2 _ rfl | assumption | exact hBk.1 | exact hBk.2.1 | exact hBk.2.2.1 | exact hBk.2.2.2.1 | exact hBk.2.2.2.2.1 | exact hBk.2.2.2.2.2) ?_
    refine Wp.arraylength dX3_sumIn_9 (by first | rfl | exact kd_b0 _ | exact kd_b1 _ | exact kd_b2 _ | exact kd_b3 _ | exact kd_b4 _ | exact kd_b5 _ | exact kd_b6 _) (by decide) (by omega) ?_
    refine Wp.icmp_ge (tgt := 22) dX3_sumIn_10 (by decide) (by first | omega | exact bI_R _ | exact cmp_R _ _ | assumption) (by first | omega | exact bI_R _ | exact cmp_R _ _ | assumption) (fun c10 => ?_) (fun c10 => ?_)
    · refine Wp.iconst dX3_sumIn_22 ?_
      refine Wp.ireturn dX3_sumIn_23 rfl ?_
      first | (exfalso; omega) | (exact qI hq (by first | rw [if_pos (by omega)] | rw [if_neg (by omega)]))
    · refine Wp.aload_n rfl dX3_sumIn_13 ?_
      refine Wp.gr (kz := 2) rfl dX3_sumIn_14 fkX3_18 (by first | rfl | exact kd_b0 _ | exact kd_b1 _ | exact kd_b2 _ | exact kd_b3 _ | exact kd_b4 _ | exact kd_b5 _ | exact kd_b6 _) (by omega) (by first | exact hFx _ 2 _ rfl | assumption | exact hBk.1 | exact hBk.2.1 | exact hBk.2.2.1 | exact hBk.2.2.2.1 | exact hBk.2.2.2.2.1 | exact hBk.2.2.2.2.2) ?_
      refine Wp.iload_n rfl dX3_sumIn_17 ?_
      refine Wp.iaload dX3_sumIn_18 (by first | rfl | exact kd_b0 _ | exact kd_b1 _ | exact kd_b2 _ | exact kd_b3 _ | exact kd_b4 _ | exact kd_b5 _ | exact kd_b6 _) (by omega) (by omega) (by omega) ?_
      refine Wp.goto (tgt := 23) dX3_sumIn_19 (by decide) ?_
      refine Wp.ireturn dX3_sumIn_23 rfl ?_
      first | (exfalso; omega) | (exact qI hq (by first | rw [if_pos (by omega)] | rw [if_neg (by omega)]))
theorem ct_X3_most {i : Int} (hn : 57 ≤ n) (hFx : Fx R) (hi : inR i) (h0 : 0 ≤ I 19 6) (h1 : I 19 6 ≤ 10) (hq : Q (some (vi (if 0 ≤ i ∧ i < I 19 6 then I 23 i else 0))) (I, L, R, n)) : Wp mX3_most 0 [some (vr (some 19)), some (vi i)] [] (I, L, R, n) (0, 0) Q := by
  refine Wp.iload_n rfl dX3_most_0 ?_
  refine Wp.if_lt (tgt := 27) dX3_most_1 (by decide) (by first | omega | exact bI_R _ | exact cmp_R _ _ | assumption) (fun c1 => ?_) (fun c1 => ?_)
  · refine Wp.iconst dX3_most_27 ?_
    refine Wp.ireturn dX3_most_28 rfl ?_
    first | (exfalso; omega) | (exact qI hq (by first | rw [if_pos (by omega)] | rw [if_neg (by omega)]))
  · refine Wp.iload_n rfl dX3_most_4 ?_
    refine Wp.aload_n rfl dX3_most_5 ?_
    refine Wp.gi (kz := 6) rfl dX3_most_6 fkX3_30 (by first | rfl | exact kd_b0 _ | exact kd_b1 _ | exact kd_b2 _ | exact kd_b3 _ | exact kd_b4 _ | exact kd_b5 _ | exact kd_b6 _) (by omega) ?_
    refine Wp.icmp_ge (tgt := 27) dX3_most_9 (by decide) (by first | omega | exact bI_R _ | exact cmp_R _ _ | assumption) (by first | omega | exact bI_R _ | exact cmp_R _ _ | assumption) (fun c9 => ?_) (fun c9 => ?_)
    · refine Wp.iconst dX3_most_27 ?_
      refine Wp.ireturn dX3_most_28 rfl ?_
      first | (exfalso; omega) | (exact qI hq (by first | rw [if_pos (by omega)] | rw [if_neg (by omega)]))
    · refine Wp.iload_n rfl dX3_most_12 ?_
      refine Wp.bipush rfl dX3_most_13 ?_
      refine Wp.icmp_ge (tgt := 27) dX3_most_15 (by decide) (by first | omega | exact bI_R _ | exact cmp_R _ _ | assumption) (by first | omega | exact bI_R _ | exact cmp_R _ _ | assumption) (fun c15 => ?_) (fun c15 => ?_)
      · refine Wp.iconst dX3_most_27 ?_
        refine Wp.ireturn dX3_most_28 rfl ?_
        first | (exfalso; omega) | (exact qI hq (by first | rw [if_pos (by omega)] | rw [if_neg (by omega)]))
      · refine Wp.aload_n rfl dX3_most_18 ?_
        refine Wp.gr (kz := 3) rfl dX3_most_19 fkX3_21 (by first | rfl | exact kd_b0 _ | exact kd_b1 _ | exact kd_b2 _ | exact kd_b3 _ | exact kd_b4 _ | exact kd_b5 _ | exact kd_b6 _) (by omega) (by first | exact hFx _ 3 _ rfl | assumption | exact hBk.1 | exact hBk.2.1 | exact hBk.2.2.1 | exact hBk.2.2.2.1 | exact hBk.2.2.2.2.1 | exact hBk.2.2.2.2.2) ?_
        refine Wp.iload_n rfl dX3_most_22 ?_
        refine Wp.iaload dX3_most_23 (by first | rfl | exact kd_b0 _ | exact kd_b1 _ | exact kd_b2 _ | exact kd_b3 _ | exact kd_b4 _ | exact kd_b5 _ | exact kd_b6 _) (by omega) (by omega) (by omega) ?_
        refine Wp.goto (tgt := 28) dX3_most_24 (by decide) ?_
        refine Wp.ireturn dX3_most_28 rfl ?_
        first | (exfalso; omega) | (exact qI hq (by first | rw [if_pos (by omega)] | rw [if_neg (by omega)]))
theorem ct_X3_choiceOf {i : Int} (hn : 57 ≤ n) (hFx : Fx R) (hi : inR i) (h0 : 0 ≤ I 19 6) (h1 : I 19 6 ≤ 10) (hq : Q (some (vi (if 0 ≤ i ∧ i < I 19 6 then I 24 i else -1))) (I, L, R, n)) : Wp mX3_choiceOf 0 [some (vr (some 19)), some (vi i)] [] (I, L, R, n) (0, 0) Q := by
  refine Wp.iload_n rfl dX3_choiceOf_0 ?_
  refine Wp.if_lt (tgt := 27) dX3_choiceOf_1 (by decide) (by first | omega | exact bI_R _ | exact cmp_R _ _ | assumption) (fun c1 => ?_) (fun c1 => ?_)
  · refine Wp.iconst dX3_choiceOf_27 ?_
    refine Wp.ireturn dX3_choiceOf_28 rfl ?_
    first | (exfalso; omega) | (exact qI hq (by first | rw [if_pos (by omega)] | rw [if_neg (by omega)]))
  · refine Wp.iload_n rfl dX3_choiceOf_4 ?_
    refine Wp.aload_n rfl dX3_choiceOf_5 ?_
    refine Wp.gi (kz := 6) rfl dX3_choiceOf_6 fkX3_30 (by first | rfl | exact kd_b0 _ | exact kd_b1 _ | exact kd_b2 _ | exact kd_b3 _ | exact kd_b4 _ | exact kd_b5 _ | exact kd_b6 _) (by omega) ?_
    refine Wp.icmp_ge (tgt := 27) dX3_choiceOf_9 (by decide) (by first | omega | exact bI_R _ | exact cmp_R _ _ | assumption) (by first | omega | exact bI_R _ | exact cmp_R _ _ | assumption) (fun c9 => ?_) (fun c9 => ?_)
    · refine Wp.iconst dX3_choiceOf_27 ?_
      refine Wp.ireturn dX3_choiceOf_28 rfl ?_
      first | (exfalso; omega) | (exact qI hq (by first | rw [if_pos (by omega)] | rw [if_neg (by omega)]))
    · refine Wp.iload_n rfl dX3_choiceOf_12 ?_
      refine Wp.bipush rfl dX3_choiceOf_13 ?_
      refine Wp.icmp_ge (tgt := 27) dX3_choiceOf_15 (by decide) (by first | omega | exact bI_R _ | exact cmp_R _ _ | assumption) (by first | omega | exact bI_R _ | exact cmp_R _ _ | assumption) (fun c15 => ?_) (fun c15 => ?_)
      · refine Wp.iconst dX3_choiceOf_27 ?_
        refine Wp.ireturn dX3_choiceOf_28 rfl ?_
        first | (exfalso; omega) | (exact qI hq (by first | rw [if_pos (by omega)] | rw [if_neg (by omega)]))
      · refine Wp.aload_n rfl dX3_choiceOf_18 ?_
        refine Wp.gr (kz := 4) rfl dX3_choiceOf_19 fkX3_24 (by first | rfl | exact kd_b0 _ | exact kd_b1 _ | exact kd_b2 _ | exact kd_b3 _ | exact kd_b4 _ | exact kd_b5 _ | exact kd_b6 _) (by omega) (by first | exact hFx _ 4 _ rfl | assumption | exact hBk.1 | exact hBk.2.1 | exact hBk.2.2.1 | exact hBk.2.2.2.1 | exact hBk.2.2.2.2.1 | exact hBk.2.2.2.2.2) ?_
        refine Wp.iload_n rfl dX3_choiceOf_22 ?_
        refine Wp.iaload dX3_choiceOf_23 (by first | rfl | exact kd_b0 _ | exact kd_b1 _ | exact kd_b2 _ | exact kd_b3 _ | exact kd_b4 _ | exact kd_b5 _ | exact kd_b6 _) (by omega) (by omega) (by omega) ?_
        refine Wp.goto (tgt := 28) dX3_choiceOf_24 (by decide) ?_
        refine Wp.ireturn dX3_choiceOf_28 rfl ?_
        first | (exfalso; omega) | (exact qI hq (by first | rw [if_pos (by omega)] | rw [if_neg (by omega)]))
/-- from no choice: nothing -/
theorem ct_X3_tie0 {zt : Int} (hn : 57 ≤ n) (hFx : Fx R) (hzt : 0 ≤ zt ∧ zt < 180) (hy : inR (I 20 zt)) (hq : Q (some (vi 0)) (I, L, R, n)) : Wp mX3_tie 0 [some (vr (some 19)), some (vi (-1)), some (vi zt), none, none] [] (I, L, R, n) (0, 0) Q := by
  refine Wp.aload_n rfl dX3_tie_0 ?_
  refine Wp.iload_n rfl dX3_tie_1 ?_
  refine Wp.callV (As := [_]) (ls0 := [_, _]) (bd := (0, 0)) (bd' := (0, 0)) dX3_tie_2 kmX3_wordIn lkX3_94 (by decide) (by decide) (Nat.le_of_ble_eq_true rfl) (by first | rfl | exact kd_b0 _ | exact kd_b1 _ | exact kd_b2 _ | exact kd_b3 _ | exact kd_b4 _ | exact kd_b5 _ | exact kd_b6 _) (by omega) rfl rfl (Nat.le_of_ble_eq_true rfl) rfl ?_
  refine ct_X3_wordIn hn hFx (by omega) ?_
  rw [if_pos hzt]
  show Wp _ _ _ (_ :: _) _ _ _
  refine Wp.istore_n (ls' := [_, _, _, _, _]) dX3_tie_5 (by decide) rfl ?_
  refine Wp.aload_n rfl dX3_tie_6 ?_
  refine Wp.iload_n rfl dX3_tie_7 ?_
  refine Wp.callV (As := [_]) (ls0 := [_, _]) (bd := (0, 0)) (bd' := (0, 0)) dX3_tie_8 kmX3_wordIn lkX3_94 (by decide) (by decide) (Nat.le_of_ble_eq_true rfl) (by first | rfl | exact kd_b0 _ | exact kd_b1 _ | exact kd_b2 _ | exact kd_b3 _ | exact kd_b4 _ | exact kd_b5 _ | exact kd_b6 _) (by omega) rfl rfl (Nat.le_of_ble_eq_true rfl) rfl ?_
  refine ct_X3_wordIn hn hFx (by omega) ?_
  rw [if_neg (by omega)]
  show Wp _ _ _ (_ :: _) _ _ _
  refine Wp.iconst dX3_tie_11 ?_
  refine Wp.icmp_eq (tgt := 22) dX3_tie_12 (by decide) (by first | omega | exact bI_R _ | exact cmp_R _ _ | assumption) (by first | omega | exact bI_R _ | exact cmp_R _ _ | assumption) (fun c12 => ?_) (fun c12 => ?_)
  · refine Wp.iconst dX3_tie_22 ?_
    refine Wp.ireturn dX3_tie_23 rfl ?_
    first | exact hq | (exfalso; omega) | exact qI hq (by omega)
  · exfalso; omega
theorem ct_X3_tie {zf zt : Int} (hn : 57 ≤ n) (hFx : Fx R) (hzf : 0 ≤ zf ∧ zf < 180) (hzt : 0 ≤ zt ∧ zt < 180) (hx : 0 ≤ I 20 zf ∧ I 20 zf < 60) (hy : 0 ≤ I 20 zt ∧ I 20 zt < 60) (hf : inR (I 21 zf)) (hg : inR (I 21 zt)) (hq : Q (some (vi (I 25 (I 20 zt) + (if I 21 zf ≠ -1 ∧ I 21 zf = I 21 zt then 10 else 0)))) (I, L, R, n)) : Wp mX3_tie 0 [some (vr (some 19)), some (vi zf), some (vi zt), none, none] [] (I, L, R, n) (0, 0) Q := by
  refine Wp.aload_n rfl dX3_tie_0 ?_
  refine Wp.iload_n rfl dX3_tie_1 ?_
  refine Wp.callV (As := [_]) (ls0 := [_, _]) (bd := (0, 0)) (bd' := (0, 0)) dX3_tie_2 kmX3_wordIn lkX3_94 (by decide) (by decide) (Nat.le_of_ble_eq_true rfl) (by first | rfl | exact kd_b0 _ | exact kd_b1 _ | exact kd_b2 _ | exact kd_b3 _ | exact kd_b4 _ | exact kd_b5 _ | exact kd_b6 _) (by omega) rfl rfl (Nat.le_of_ble_eq_true rfl) rfl ?_
  refine ct_X3_wordIn hn hFx (by omega) ?_
  rw [if_pos hzt]
  show Wp _ _ _ (_ :: _) _ _ _
  refine Wp.istore_n (ls' := [_, _, _, _, _]) dX3_tie_5 (by decide) rfl ?_
  refine Wp.aload_n rfl dX3_tie_6 ?_
  refine Wp.iload_n rfl dX3_tie_7 ?_
  refine Wp.callV (As := [_]) (ls0 := [_, _]) (bd := (0, 0)) (bd' := (0, 0)) dX3_tie_8 kmX3_wordIn lkX3_94 (by decide) (by decide) (Nat.le_of_ble_eq_true rfl) (by first | rfl | exact kd_b0 _ | exact kd_b1 _ | exact kd_b2 _ | exact kd_b3 _ | exact kd_b4 _ | exact kd_b5 _ | exact kd_b6 _) (by omega) rfl rfl (Nat.le_of_ble_eq_true rfl) rfl ?_
  refine ct_X3_wordIn hn hFx (by omega) ?_
  rw [if_pos hzf]
  show Wp _ _ _ (_ :: _) _ _ _
  refine Wp.iconst dX3_tie_11 ?_
  refine Wp.icmp_eq (tgt := 22) dX3_tie_12 (by decide) (by first | omega | exact bI_R _ | exact cmp_R _ _ | assumption) (by first | omega | exact bI_R _ | exact cmp_R _ _ | assumption) (fun c12 => ?_) (fun c12 => ?_)
  · refine Wp.iconst dX3_tie_22 ?_
    refine Wp.ireturn dX3_tie_23 rfl ?_
    first | (exfalso; omega) | (exact qI hq (by first | rw [if_pos (by omega)] | rw [if_neg (by omega)]))
  · refine Wp.iload_n rfl dX3_tie_15 ?_
    refine Wp.callS (As := [_]) (ls0 := [_]) (bd := (0, 0)) (bd' := (0, 0)) dX3_tie_16 kmX11_isWord lkX3_117 (by decide) (by decide) (Nat.le_of_ble_eq_true rfl) rfl rfl (Nat.le_of_ble_eq_true rfl) rfl ?_
    refine ct_X11_isWord (by omega) ?_
    show Wp _ _ _ (_ :: _) _ _ _
    refine Wp.if_neB (tgt := 24) dX3_tie_19 (by decide) (fun c19 => ?_) (fun c19 => ?_)
    · refine Wp.aload_n rfl dX3_tie_24 ?_
      refine Wp.iload_n rfl dX3_tie_25 ?_
      refine Wp.callV (As := [_]) (ls0 := [_, _]) (bd := (0, 0)) (bd' := (0, 0)) dX3_tie_26 kmX3_fieldIn lkX3_121 (by decide) (by decide) (Nat.le_of_ble_eq_true rfl) (by first | rfl | exact kd_b0 _ | exact kd_b1 _ | exact kd_b2 _ | exact kd_b3 _ | exact kd_b4 _ | exact kd_b5 _ | exact kd_b6 _) (by omega) rfl rfl (Nat.le_of_ble_eq_true rfl) rfl ?_
      refine ct_X3_fieldIn hn hFx (by omega) ?_
      rw [if_pos hzf]
      show Wp _ _ _ (_ :: _) _ _ _
      refine Wp.istore (ls' := [_, _, _, _, _]) dX3_tie_29 (by decide) rfl ?_
      refine Wp.aload_n rfl dX3_tie_31 ?_
      refine Wp.gr (kz := 5) rfl dX3_tie_32 fkX3_27 (by first | rfl | exact kd_b0 _ | exact kd_b1 _ | exact kd_b2 _ | exact kd_b3 _ | exact kd_b4 _ | exact kd_b5 _ | exact kd_b6 _) (by omega) (by first | exact hFx _ 5 _ rfl | assumption | exact hBk.1 | exact hBk.2.1 | exact hBk.2.2.1 | exact hBk.2.2.2.1 | exact hBk.2.2.2.2.1 | exact hBk.2.2.2.2.2) ?_
      refine Wp.iload_n rfl dX3_tie_35 ?_
      refine Wp.iaload dX3_tie_36 (by first | rfl | exact kd_b0 _ | exact kd_b1 _ | exact kd_b2 _ | exact kd_b3 _ | exact kd_b4 _ | exact kd_b5 _ | exact kd_b6 _) (by omega) (by omega) (by omega) ?_
      refine Wp.iload rfl dX3_tie_37 ?_
      refine Wp.iconst dX3_tie_39 ?_
      refine Wp.icmp_eq (tgt := 58) dX3_tie_40 (by decide) (by first | omega | exact bI_R _ | exact cmp_R _ _ | assumption) (by first | omega | exact bI_R _ | exact cmp_R _ _ | assumption) (fun c40 => ?_) (fun c40 => ?_)
      · refine Wp.iconst dX3_tie_58 ?_
        refine Wp.iadd dX3_tie_59 ?_
        refine Wp.ireturn dX3_tie_60 rfl ?_
        first | (exfalso; omega) | (exact qI hq (by first | rw [if_pos (by omega)] | rw [if_neg (by omega)]))
      · refine Wp.iload rfl dX3_tie_43 ?_
        refine Wp.aload_n rfl dX3_tie_45 ?_
        refine Wp.iload_n rfl dX3_tie_46 ?_
        refine Wp.callV (As := [_]) (ls0 := [_, _]) (bd := (0, 0)) (bd' := (0, 0)) dX3_tie_47 kmX3_fieldIn lkX3_121 (by decide) (by decide) (Nat.le_of_ble_eq_true rfl) (by first | rfl | exact kd_b0 _ | exact kd_b1 _ | exact kd_b2 _ | exact kd_b3 _ | exact kd_b4 _ | exact kd_b5 _ | exact kd_b6 _) (by omega) rfl rfl (Nat.le_of_ble_eq_true rfl) rfl ?_
        refine ct_X3_fieldIn hn hFx (by omega) ?_
        rw [if_pos hzt]
        show Wp _ _ _ (_ :: _) _ _ _
        refine Wp.icmp_ne (tgt := 58) dX3_tie_50 (by decide) (by first | omega | exact bI_R _ | exact cmp_R _ _ | assumption) (by first | omega | exact bI_R _ | exact cmp_R _ _ | assumption) (fun c50 => ?_) (fun c50 => ?_)
        · refine Wp.iconst dX3_tie_58 ?_
          refine Wp.iadd dX3_tie_59 ?_
          refine Wp.ireturn dX3_tie_60 rfl ?_
          first | (exfalso; omega) | (exact qI hq (by first | rw [if_pos (by omega)] | rw [if_neg (by omega)]))
        · refine Wp.bipush rfl dX3_tie_53 ?_
          refine Wp.goto (tgt := 59) dX3_tie_55 (by decide) ?_
          refine Wp.iadd dX3_tie_59 ?_
          refine Wp.ireturn dX3_tie_60 rfl ?_
          first | (exfalso; omega) | (exact qI hq (by first | rw [if_pos (by omega)] | rw [if_neg (by omega)]))
    · refine Wp.iconst dX3_tie_22 ?_
      refine Wp.ireturn dX3_tie_23 rfl ?_
      first | (exfalso; omega) | (exact qI hq (by first | rw [if_pos (by omega)] | rw [if_neg (by omega)]))
/-- slot c of word i holds choice c of an entry e -/
def slP (I J : Nat → Int → Int) (i : Nat) (e : Int) (c : Nat) : Prop := (vlP I e c → J 20 (18 * i + c) = I 39 (18 * e + c) ∧ J 21 (18 * i + c) = I 37 (3 * e + (c / 6 : Nat))) ∧ (¬ vlP I e c → J 20 (18 * i + c) = -1)
theorem ct_X3_offer {i c : Nat} {a w b : Int} {S : Nat} (hS : ShR J L R n) (hJ : Eqv I J) (hsz : J 19 6 = S) (hS10 : S ≤ 10) (hi : i < S) (hc : c < 18) (h0 : 0 ≤ w) (h1 : w < 60) (hq : ∀ K, (∀ (o : Nat) (z : Int), ¬ ((o = 20 ∨ o = 21) ∧ z = 18 * i + c) → K o z = J o z) → slP I K i (ent I 255 a w b) c → Q none (K, L, R, n)) : Wp mX3_offer 0 [some (vr (some 19)), some (vi (i : Int)), some (vi (c : Int)), some (vr (bkA J (lat J 255 a w b))), some (vi w), some (vi (J 4 4)), none, none, none] [] (J, L, R, n) (0, 0) Q := by
  have hn := hS.1
  have hFx := hS.2.1
  have hW := hS.2.2.1
  have hA := hW.2.2.2.2.1
  have s4 := hS.2.2.2.2.2.1
  have hN1 := hW.2.1
  have hE := ent_lat hW (lk := 255) (a := a) (b := b) h0
  have hB := lat_B J hW.1 255 a w b
  have hEI : ent J 255 a w b = ent I 255 a w b := ent_cg hJ.se 255 a w b
  have hse := hJ.se
  have e39 : ∀ z, J 39 z = I 39 z := fun z => hse.1 39 (by omega) (by omega) z
  have e37 : ∀ z, J 37 z = I 37 z := fun z => hse.1 37 (by omega) (by omega) z
  have hvl : ∀ e : Int, vlP J e c ↔ vlP I e c := fun e => by
    unfold vlP
    rw [hse.1 36 (by omega) (by omega), hse.1 38 (by omega) (by omega), hse.1 40 (by omega) (by omega), hse.2.2.2]
  have hcd : ((c : Int)).tdiv 6 = ((c / 6 : Nat) : Int) := rfl
  have hcm : (c : Int) - ((c / 6 : Nat) : Int) * 6 = ((c % 6 : Nat) : Int) := by omega
  have hslot : (if ((0 : Int) ≤ i ∧ (i : Int) < J 19 6) ∧ (0 : Int) ≤ c ∧ (c : Int) < 18 then (i : Int) * 18 + c else -1) = 18 * i + c := by rw [if_pos ⟨⟨by omega, by omega⟩, by omega, by omega⟩]; omega
  have fin0 : ∀ K : Nat → Int → Int, K = up (up J 20 (18 * i + c) (-1)) 21 (18 * i + c) (-1) → ¬ vlP I (ent I 255 a w b) c → Q none (K, L, R, n) := fun K hK hv => by
    refine hq K (fun o z ho => ?_) ⟨fun q => absurd q hv, fun _ => ?_⟩
    · rw [hK]; unfold up; rw [if_neg (by omega), if_neg (by omega)]
    · rw [hK, up_o _ _ _ _ (by decide), up_same]
  refine Wp.aload_n rfl dX3_offer_0 ?_
  refine Wp.iload_n rfl dX3_offer_1 ?_
  refine Wp.iload_n rfl dX3_offer_2 ?_
  refine Wp.callV (As := [_, _]) (ls0 := [_, _, _]) (bd := (0, 0)) (bd' := (0, 0)) dX3_offer_3 kmX3_slot lkX3_76 (by decide) (by decide) (Nat.le_of_ble_eq_true rfl) (by first | rfl | exact kd_b0 _ | exact kd_b1 _ | exact kd_b2 _ | exact kd_b3 _ | exact kd_b4 _ | exact kd_b5 _ | exact kd_b6 _) (by omega) rfl rfl (Nat.le_of_ble_eq_true rfl) rfl ?_
  refine ct_X3_slot hn (by omega) (by omega) (by omega) (by omega) ?_
  rw [hslot]
  show Wp _ _ _ (_ :: _) _ _ _
  refine Wp.istore (ls' := [_, _, _, _, _, _, _, _, _]) dX3_offer_6 (by decide) rfl ?_
  refine Wp.iload rfl dX3_offer_8 ?_
  refine Wp.iconst dX3_offer_10 ?_
  refine Wp.icmp_ne (tgt := 15) dX3_offer_11 (by decide) (by first | omega | exact bI_R _ | exact cmp_R _ _ | assumption) (by first | omega | exact bI_R _ | exact cmp_R _ _ | assumption) (fun c11 => ?_) (fun c11 => ?_)
  · refine Wp.aload_n rfl dX3_offer_15 ?_
    refine Wp.gr (kz := 0) rfl dX3_offer_16 fkX3_11 (by first | rfl | exact kd_b0 _ | exact kd_b1 _ | exact kd_b2 _ | exact kd_b3 _ | exact kd_b4 _ | exact kd_b5 _ | exact kd_b6 _) (by omega) (by first | exact hFx _ 0 _ rfl | assumption | exact hBk.1 | exact hBk.2.1 | exact hBk.2.2.1 | exact hBk.2.2.2.1 | exact hBk.2.2.2.2.1 | exact hBk.2.2.2.2.2) ?_
    refine Wp.iload rfl dX3_offer_19 ?_
    refine Wp.iconst dX3_offer_21 ?_
    refine Wp.iastore dX3_offer_22 (by first | rfl | exact kd_b0 _ | exact kd_b1 _ | exact kd_b2 _ | exact kd_b3 _ | exact kd_b4 _ | exact kd_b5 _ | exact kd_b6 _) (by omega) (by omega) (by omega) ?_
    refine Wp.aload_n rfl dX3_offer_23 ?_
    refine Wp.gr (kz := 1) rfl dX3_offer_24 fkX3_15 (by first | rfl | exact kd_b0 _ | exact kd_b1 _ | exact kd_b2 _ | exact kd_b3 _ | exact kd_b4 _ | exact kd_b5 _ | exact kd_b6 _) (by omega) (by first | exact hFx _ 1 _ rfl | assumption | exact hBk.1 | exact hBk.2.1 | exact hBk.2.2.1 | exact hBk.2.2.2.1 | exact hBk.2.2.2.2.1 | exact hBk.2.2.2.2.2) ?_
    try simp (disch := omega) only [up_same, up_o, up_k]
    refine Wp.iload rfl dX3_offer_27 ?_
    refine Wp.iconst dX3_offer_29 ?_
    refine Wp.iastore dX3_offer_30 (by first | rfl | exact kd_b0 _ | exact kd_b1 _ | exact kd_b2 _ | exact kd_b3 _ | exact kd_b4 _ | exact kd_b5 _ | exact kd_b6 _) (by omega) (by omega) (by omega) ?_
    refine Wp.aload_n rfl dX3_offer_31 ?_
    refine Wp.ifnonnull (tgt := 36) dX3_offer_32 (by decide) (fun o32 c32 => ?_) (fun c32 => ?_)
    · obtain ⟨ho, hz0, hz1⟩ := bkA_s c32
      have hBB := hS.2.2.2.2.2.2 (lat J 255 a w b).toNat (by omega)
      have eL : (((lat J 255 a w b).toNat : Nat) : Int) = lat J 255 a w b := by omega
      have hkb : (((lat J 255 a w b).toNat : Nat) : Int) < J 32 0 := by omega
      have hn7 := hBB.2.2.1
      subst ho
      rw [c32]
      have eK0 : Eqv J (up (up J 20 (18 * i + c) (-1)) 21 (18 * i + c) (-1)) := ((Eqv.rf J).wr (by unfold scr; omega)).wr (by unfold scr; omega)
      have hSK := ShR_cg eK0 (EqvL.rf L) hS
      generalize hK : up (up J 20 (18 * i + c) (-1)) 21 (18 * i + c) (-1) = K at eK0 hSK ⊢
      have hWK := hSK.2.2.1
      have hK0 : K 32 0 = J 32 0 := eK0.se.2.1
      have hK10 : K 32 10 = J 32 10 := eK0.se.2.2.2
      have hBK := hSK.2.2.2.2.2.2 (lat J 255 a w b).toNat (by omega)
      have hkK : (((lat J 255 a w b).toNat : Nat) : Int) < K 32 0 := by omega
      have hvK : ∀ e : Int, vlP K e c ↔ vlP I e c := fun e => by
        rw [← hvl e]; unfold vlP
        rw [eK0.se.1 36 (by omega) (by omega), eK0.se.1 38 (by omega) (by omega), eK0.se.1 40 (by omega) (by omega), hK10]
      have hsv := sv_iff hWK (kb := (lat J 255 a w b).toNat) (w := w) (c := c) hkK h0 h1 hc
      rw [eL, hvK] at hsv
      have hEe : ent I 255 a w b = 60 * lat J 255 a w b + w := by omega
      rw [← hEe] at hsv
      have hJ44 : J 4 4 = K 32 10 := by omega
      refine Wp.iload_n rfl dX3_offer_36 ?_
      refine Wp.bipush rfl dX3_offer_37 ?_
      refine Wp.idiv (by omega) (by omega) (by omega) dX3_offer_39 ?_
      rw [hcd]
      refine Wp.istore (ls' := [_, _, _, _, _, _, _, _, _]) dX3_offer_40 (by decide) rfl ?_
      refine Wp.aload_n rfl dX3_offer_42 ?_
      refine Wp.iload rfl dX3_offer_43 ?_
      refine Wp.iload rfl dX3_offer_45 ?_
      refine Wp.iload_n rfl dX3_offer_47 ?_
      refine Wp.bipush rfl dX3_offer_48 ?_
      refine Wp.irem (by omega) (by omega) (by omega) dX3_offer_50 ?_
      rw [hcd, hcm]
      refine Wp.callV (As := [_, _, _]) (ls0 := [_, _, _, _, _]) (bd := (0, 0)) (bd' := (0, 0)) dX3_offer_51 kmX0_wordAt lkX3_79 (by decide) (by decide) (Nat.le_of_ble_eq_true rfl) (by first | rfl | exact kd_b0 _ | exact kd_b1 _ | exact kd_b2 _ | exact kd_b3 _ | exact kd_b4 _ | exact kd_b5 _ | exact kd_b6 _) (by omega) rfl rfl (Nat.le_of_ble_eq_true rfl) rfl ?_
      refine ct_wst hBK hWK hkK h0 h1 (by omega) (by omega) ?_
      rw [eL, ← hEe]
      show Wp _ _ _ (_ :: _) _ _ _
      refine Wp.istore (ls' := [_, _, _, _, _, _, _, _, _]) dX3_offer_54 (by decide) rfl ?_
      refine Wp.aload_n rfl dX3_offer_56 ?_
      refine Wp.iload rfl dX3_offer_57 ?_
      refine Wp.iload rfl dX3_offer_59 ?_
      refine Wp.iload rfl dX3_offer_61 ?_
      refine Wp.callV (As := [_, _, _]) (ls0 := [_, _, _, _, _]) (bd := (0, 0)) (bd' := (0, 0)) dX3_offer_63 kmX0_senseSet lkX3_83 (by decide) (by decide) (Nat.le_of_ble_eq_true rfl) (by first | rfl | exact kd_b0 _ | exact kd_b1 _ | exact kd_b2 _ | exact kd_b3 _ | exact kd_b4 _ | exact kd_b5 _ | exact kd_b6 _) (by omega) rfl rfl (Nat.le_of_ble_eq_true rfl) rfl ?_
      refine ct_sst hBK hWK hkK h0 h1 (by omega) (by omega) ?_
      rw [eL, ← hEe, hJ44]
      show Wp _ _ _ (_ :: _) _ _ _
      refine Wp.iload rfl dX3_offer_66 ?_
      refine Wp.callS (As := [_, _]) (ls0 := [_, _, _]) (bd := (0, 0)) (bd' := (0, 0)) dX3_offer_68 kmX11_has lkX3_87 (by decide) (by decide) (Nat.le_of_ble_eq_true rfl) rfl rfl (Nat.le_of_ble_eq_true rfl) rfl ?_
      refine ct_X11_has (by unfold wst; split; (rename_i hx; have hEK : EOk K (ent I 255 a w b) := (by have := hWK.eok (z := lat J 255 a w b) (by omega) (by omega) h0 h1; rw [← hEe] at this; exact this); have := (hEK.2 _ hx.1.1 hx.1.2).2 _ hx.2.1 hx.2.2; omega); omega) ?_
      show Wp _ _ _ (_ :: _) _ _ _
      refine Wp.if_neB (tgt := 75) dX3_offer_71 (by decide) (fun c71 => ?_) (fun c71 => ?_)
      · have hv := hsv.mp c71
        have hws : wst K (ent I 255 a w b) ((c / 6 : Nat) : Int) ((c % 6 : Nat) : Int) = I 39 (18 * ent I 255 a w b + c) := by
          unfold wst
          have h38 : K 38 (3 * ent I 255 a w b + (c / 6 : Nat)) = I 38 (3 * ent I 255 a w b + (c / 6 : Nat)) := (eK0.se.1 38 (by omega) (by omega) _).trans (hse.1 38 (by omega) (by omega) _)
          have h36 : K 36 (ent I 255 a w b) = I 36 (ent I 255 a w b) := (eK0.se.1 36 (by omega) (by omega) _).trans (hse.1 36 (by omega) (by omega) _)
          rw [if_pos ⟨⟨by omega, by rw [h36]; exact hv.2.1⟩, by omega, by rw [h38]; exact hv.2.2.1⟩, eK0.se.1 39 (by omega) (by omega), e39]
          congr 1; omega
        have hfs : fst' K (ent I 255 a w b) ((c / 6 : Nat) : Int) = I 37 (3 * ent I 255 a w b + (c / 6 : Nat)) := by
          unfold fst'
          have h36 : K 36 (ent I 255 a w b) = I 36 (ent I 255 a w b) := (eK0.se.1 36 (by omega) (by omega) _).trans (hse.1 36 (by omega) (by omega) _)
          rw [if_pos ⟨by omega, by rw [h36]; exact hv.2.1⟩, eK0.se.1 37 (by omega) (by omega), e37]
        rw [hws]
        have eK1 : Eqv K (up K 20 (18 * i + c) (I 39 (18 * ent I 255 a w b + c))) := (Eqv.rf K).wr (by unfold scr; omega)
        have hS1 := ShR_cg eK1 (EqvL.rf L) hSK
        have hB1 := hS1.2.2.2.2.2.2 (lat J 255 a w b).toNat (by rw [eK1.se.2.1]; omega)
        have hk1 : (((lat J 255 a w b).toNat : Nat) : Int) < up K 20 (18 * i + c) (I 39 (18 * ent I 255 a w b + c)) 32 0 := by rw [eK1.se.2.1]; omega
        refine Wp.aload_n rfl dX3_offer_75 ?_
        refine Wp.gr (kz := 0) rfl dX3_offer_76 fkX3_11 (by first | rfl | exact kd_b0 _ | exact kd_b1 _ | exact kd_b2 _ | exact kd_b3 _ | exact kd_b4 _ | exact kd_b5 _ | exact kd_b6 _) (by omega) (by first | exact hFx _ 0 _ rfl | assumption | exact hBk.1 | exact hBk.2.1 | exact hBk.2.2.1 | exact hBk.2.2.2.1 | exact hBk.2.2.2.2.1 | exact hBk.2.2.2.2.2) ?_
        try simp (disch := omega) only [up_same, up_o, up_k]
        refine Wp.iload rfl dX3_offer_79 ?_
        refine Wp.iload rfl dX3_offer_81 ?_
        refine Wp.iastore dX3_offer_83 (by first | rfl | exact kd_b0 _ | exact kd_b1 _ | exact kd_b2 _ | exact kd_b3 _ | exact kd_b4 _ | exact kd_b5 _ | exact kd_b6 _) (by omega) (by omega) (by omega) ?_
        refine Wp.aload_n rfl dX3_offer_84 ?_
        refine Wp.gr (kz := 1) rfl dX3_offer_85 fkX3_15 (by first | rfl | exact kd_b0 _ | exact kd_b1 _ | exact kd_b2 _ | exact kd_b3 _ | exact kd_b4 _ | exact kd_b5 _ | exact kd_b6 _) (by omega) (by first | exact hFx _ 1 _ rfl | assumption | exact hBk.1 | exact hBk.2.1 | exact hBk.2.2.1 | exact hBk.2.2.2.1 | exact hBk.2.2.2.2.1 | exact hBk.2.2.2.2.2) ?_
        try simp (disch := omega) only [up_same, up_o, up_k]
        refine Wp.iload rfl dX3_offer_88 ?_
        refine Wp.aload_n rfl dX3_offer_90 ?_
        refine Wp.iload rfl dX3_offer_91 ?_
        refine Wp.iload rfl dX3_offer_93 ?_
        refine Wp.callV (As := [_, _]) (ls0 := [_, _, _, _]) (bd := (0, 0)) (bd' := (0, 0)) dX3_offer_95 kmX0_fieldOf lkX3_91 (by decide) (by decide) (Nat.le_of_ble_eq_true rfl) (by first | rfl | exact kd_b0 _ | exact kd_b1 _ | exact kd_b2 _ | exact kd_b3 _ | exact kd_b4 _ | exact kd_b5 _ | exact kd_b6 _) (by omega) rfl rfl (Nat.le_of_ble_eq_true rfl) rfl ?_
        refine ct_fst hB1 hS1.2.2.1 hk1 h0 h1 (by omega) ?_
        rw [eL, ← hEe, show fst' (up K 20 (18 * i + c) (I 39 (18 * ent I 255 a w b + c))) (ent I 255 a w b) ((c / 6 : Nat) : Int) = fst' K (ent I 255 a w b) ((c / 6 : Nat) : Int) from (by unfold fst'; rw [up_o _ _ _ _ (by decide), up_o _ _ _ _ (by decide)]), hfs]
        show Wp _ _ _ (_ :: _) _ _ _
        refine Wp.iastore dX3_offer_98 (by first | rfl | exact kd_b0 _ | exact kd_b1 _ | exact kd_b2 _ | exact kd_b3 _ | exact kd_b4 _ | exact kd_b5 _ | exact kd_b6 _) (by omega) (by omega) (by omega) ?_
        refine Wp.vreturn dX3_offer_99 rfl ?_
        refine hq _ (fun o z ho => ?_) ⟨fun _ => ⟨?_, ?_⟩, fun q => absurd hv q⟩
        · rw [← hK]; unfold up; rw [if_neg (by omega), if_neg (by omega), if_neg (by omega), if_neg (by omega)]
        · rw [up_o _ _ _ _ (by decide), up_same]
        · rw [up_same]
      · refine Wp.vreturn dX3_offer_74 rfl ?_
        first | (exfalso; omega) | (exact fin0 _ hK.symm (fun q => c71 (hsv.mpr q)))
    · refine Wp.vreturn dX3_offer_35 rfl ?_
      first | (exfalso; omega) | (exact fin0 _ rfl (fun q => by have := q.1; have := bkA_n c32; omega))
  · refine Wp.vreturn dX3_offer_14 rfl ?_
    first | (exfalso; omega) | (exfalso; omega)
end

