/-! ===== the class: the most that can be come to, and what is chosen ===== -/
/-- the class's sentence and pairs are the reference's -/
def PuR (I : Nat → Int → Int) : Prop :=
  I 17 2 = I 32 35 ∧ (0 < I 32 35 → I 17 1 = I 32 36) ∧ (∀ j : Nat, (j : Int) < I 32 35 → I 18 j = I 51 j ∧ wdP (I 51 j)) ∧ I 12 4 = I 32 30 ∧
  (∀ j : Nat, (j : Int) < I 32 30 → I 13 j = I 47 j ∧ I 14 j = I 48 j ∧ I 15 j = I 49 j ∧ I 16 j = I 50 j) ∧ PrW (I 47) (I 48) (I 49) (I 50) (I 32 30) ∧ (0 ≤ I 32 35 ∧ I 32 35 ≤ 10) ∧ inR (I 32 36) ∧ inR (I 17 1)
def eW (I : Nat → Int → Int) (b : Int) (i : Nat) : Int := ent I 255 (I 32 36) (I 51 i) b
section
variable {I J : Nat → Int → Int} {L K : Nat → Int → BitVec 64} {R : Nat → Int → Option Nat} {n k : Nat} {m : Mm} {Q : Option AV → Mm → Prop} {b : Int} {S : Nat}
theorem stN_cg {A X Y B A' X' Y' B' : Int → Int} {b x y : Int} : ∀ k : Nat, (∀ j : Nat, j < k → A' j = A j ∧ X' j = X j ∧ Y' j = Y j ∧ B' j = B j) → stN A' X' Y' B' b x y k = stN A X Y B b x y k
  | 0, _ => rfl
  | k + 1, h => by
    have h1 := h k (by omega)
    simp only [stN]
    rw [stN_cg k (fun j hj => h j (by omega)), h1.1, h1.2.1, h1.2.2.1, h1.2.2.2]
theorem mxT_cg {f g : Int → Int} {l : List Int} (h : ∀ q, f q = g q) : ∀ d, mxT f l d = mxT g l d
  | 0 => rfl
  | d + 1 => by simp only [mxT]; rw [mxT_cg h d, h]
theorem eW_ok (hW : RW I) (hU : PuR I) {i : Nat} (hi : (i : Int) < I 32 35) : eW I b i = -1 ∨ EOk I (eW I b i) := by
  have h := (hU.2.2.1 i hi).2
  exact hW.entOk h.1 (by omega)
theorem C_F (hW : RW I) (hU : PuR I) {i : Nat} (hi : (i : Int) < I 32 35) : chL I 255 b i = csF I (eW I b i) 18 := csF_18 (eW_ok hW hU hi)
theorem vl_B {e : Int} {c : Nat} (hE : e = -1 ∨ EOk I e) (hv : vlP I e c) : 0 ≤ I 39 (18 * e + c) ∧ I 39 (18 * e + c) < 60 ∧ -1 ≤ I 37 (3 * e + (c / 6 : Nat)) ∧ I 37 (3 * e + (c / 6 : Nat)) ≤ 5 ∧ (18 * e + (c : Int)).tdiv 6 = 3 * e + (c / 6 : Nat) ∧ 0 ≤ e := by
  have hE' : EOk I e := hE.resolve_left (by have := hv.1; omega)
  have h1 := hE'.2 (c / 6 : Nat) (by omega) hv.2.1
  have h2 := h1.2 (c % 6 : Nat) (by omega) hv.2.2.1
  have e3 : (18 * e + (c : Int)) = 6 * (3 * e + (c / 6 : Nat)) + (c % 6 : Nat) := by omega
  have h3 : (18 * e + (c : Int)).tdiv 6 = 3 * e + (c / 6 : Nat) := by
    rw [Int.tdiv_eq_ediv_of_nonneg (by have := hv.1; omega)]; omega
  rw [← e3] at h2
  have h4 := h1.1
  exact ⟨h2.1, h2.2.1, h4.2.2.1, h4.2.2.2.1, h3, hv.1⟩
/-- the choices are all laid out -/
def OvS (I J : Nat → Int → Int) (b : Int) (S : Nat) : Prop := Eqv I J ∧ J 19 6 = S ∧ J 19 7 = b ∧ ∀ i c : Nat, i < S → c < 18 → slP I J i (eW I b i) c
def flP (I J : Nat → Int → Int) (b x : Int) : Prop := ∀ y : Nat, y < 60 → J 25 y = stN (I 47) (I 48) (I 49) (I 50) b x y (I 32 30).toNat
def smP (I J : Nat → Int → Int) (b : Int) (S i N : Nat) : Prop := ∀ c : Nat, c < N → vlP I (eW I b i) c → J 22 (18 * i + c) = wv I b (sfD (chL I 255 b) S (S - (i + 1))) (some (18 * eW I b i + c))
def msP (I J : Nat → Int → Int) (b : Int) (S i : Nat) : Prop := J 23 i = wv I b (sfD (chL I 255 b) S (S - i)) none
def ltP (I J : Nat → Int → Int) (b : Int) (S i : Nat) : Prop := ∀ i' : Nat, i ≤ i' → i' < S → smP I J b S i' 18 ∧ msP I J b S i'
theorem wI (hn : 57 ≤ n) (hFx : Fx R) (hW : RW I) (hU : PuR I) (hO : OvS I J b S) (hSI : (S : Int) = I 32 35) {i c : Nat} (hi : i < S) (hc : c < 18) {z : Int} (hz : z = 18 * i + c) (hq : ∀ v : Int, (v = -1 ↔ ¬ vlP I (eW I b i) c) → (vlP I (eW I b i) c → v = I 39 (18 * eW I b i + c)) → (-1 ≤ v ∧ v < 60) → J 20 z = v → Q (some (vi v)) (J, L, R, n)) : Wp mX3_wordIn 0 [some (vr (some 19)), some (vi z)] [] (J, L, R, n) (0, 0) Q := by
  have h10 := hU.2.2.2.2.2.2.1
  have hsl := hO.2.2.2 i c hi hc
  refine ct_X3_wordIn hn hFx (by omega) ?_
  subst hz
  rw [if_pos (by omega)]
  by_cases hv : vlP I (eW I b i) c
  · have hB := vl_B (eW_ok hW hU (by omega)) hv
    have h1 := (hsl.1 hv).1
    refine hq _ ⟨fun q => ?_, fun q => absurd hv q⟩ (fun _ => h1) (by omega) rfl
    omega
  · have h1 := hsl.2 hv
    exact hq _ ⟨fun _ => hv, fun _ => h1⟩ (fun q => absurd q hv) (by omega) rfl
theorem tie_v (hW : RW I) (hU : PuR I) (hO : OvS I J b S) (hSI : (S : Int) = I 32 35) {i c i2 d : Nat} (hi : i < S) (hc : c < 18) (hv : vlP I (eW I b i) c) (hi2 : i2 < S) (hd : d < 18) (hv2 : vlP I (eW I b i2) d) (hf : flP I J b (I 39 (18 * eW I b i + c))) : J 25 (J 20 (18 * i2 + d)) + (if J 21 (18 * i + c) ≠ -1 ∧ J 21 (18 * i + c) = J 21 (18 * i2 + d) then 10 else 0) = tieP I b (18 * eW I b i + c) (18 * eW I b i2 + d) := by
  have h1 := (hO.2.2.2 i c hi hc).1 hv
  have h2 := (hO.2.2.2 i2 d hi2 hd).1 hv2
  have b1 := vl_B (eW_ok hW hU (by omega)) hv
  have b2 := vl_B (eW_ok hW hU (by omega)) hv2
  have h3 := hf (I 39 (18 * eW I b i2 + d)).toNat (by omega)
  rw [show (((I 39 (18 * eW I b i2 + d)).toNat : Nat) : Int) = I 39 (18 * eW I b i2 + d) by omega] at h3
  rw [h2.1, h3, h1.2, h2.2]
  unfold tieP
  rw [b1.2.2.2.2.1, b2.2.2.2.2.1]
  congr 1
  by_cases hcnd : 0 ≤ I 37 (3 * eW I b i + (c / 6 : Nat)) ∧ I 37 (3 * eW I b i + (c / 6 : Nat)) = I 37 (3 * eW I b i2 + (d / 6 : Nat))
  · rw [if_pos hcnd, if_pos ⟨by omega, hcnd.2⟩]
  · rw [if_neg hcnd, if_neg (fun q => hcnd ⟨by omega, q.2⟩)]
theorem fch_0 (hU : PuR I) (p : Option Int) (r : List (List Int)) (q : Int) : 0 ≤ fch I b p r q := by
  have h1 := tieO_B hU.2.2.2.2.2.1 b p q
  have h2 := wv_B hU.2.2.2.2.2.1 b r (some q)
  unfold fch; omega
theorem tp_B {e : Int} {f : Int → Int} {M : Int} (hM : 0 ≤ M) (hf : ∀ q, 0 ≤ f q ∧ f q ≤ M) : ∀ c : Nat, -1 ≤ tpN I e f c ∧ tpN I e f c ≤ M
  | 0 => by simp only [tpN]; omega
  | c + 1 => by
    have ih := tp_B hM hf (e := e) c
    have h1 := hf (18 * e + c)
    simp only [tpN]; split <;> omega
theorem fch_B (hU : PuR I) (C : Nat → List Int) {d : Nat} (hd : d ≤ 10) (p : Option Int) (q : Int) : 0 ≤ fch I b p (sfD C S d) q ∧ fch I b p (sfD C S d) q ≤ 1199 := by
  have h1 := tieO_B hU.2.2.2.2.2.1 b p q
  have h2 := wv_B2 hU.2.2.2.2.2.1 b C (S := S) hd (some q)
  unfold fch; omega
theorem tp_t {e : Int} {f : Int → Int} {c : Nat} (h : vlP I e c) : max (tpN I e f c) (f (18 * e + c)) = tpN I e f (c + 1) := by simp only [tpN]; rw [if_pos h]
theorem tp_f {e : Int} {f : Int → Int} {c : Nat} (h : ¬ vlP I e c) : tpN I e f c = tpN I e f (c + 1) := by simp only [tpN]; rw [if_neg h]
/-- what is come to behind p, out of the greatest over the choices -/
theorem mb_eq (hW : RW I) (hU : PuR I) (hSI : (S : Int) = I 32 35) {i : Nat} (hi : i < S) (p : Option Int) : (if tpN I (eW I b i) (fch I b p (sfD (chL I 255 b) S (S - (i + 1)))) 18 = -1 then wv I b (sfD (chL I 255 b) S (S - i)) none else tpN I (eW I b i) (fch I b p (sfD (chL I 255 b) S (S - (i + 1)))) 18) = wv I b (sfD (chL I 255 b) S (S - i)) p := by
  have hC := C_F hW hU (b := b) (i := i) (by omega)
  have hs := sfD_s (c := chL I 255 b) hi
  rw [tp_mx (fch_0 hU p _), hs, ← hC]
  by_cases hl : chL I 255 b i = []
  · rw [if_pos hl, if_pos rfl, hl]
    simp only [wv, if_true]
  · have hlen : 0 < (chL I 255 b i).length := List.length_pos_iff.mpr hl
    have hB := mxf_B hU.2.2.2.2.2.1 b (chL I 255 b) (S := S) (d := S - (i + 1)) (by have := hU.2.2.2.2.2.2.1; omega) p (chL I 255 b i) (chL I 255 b i).length
    rw [if_neg hl, if_neg (by omega), wv_f p hlen]
theorem ct_X3_mostBehind {i c : Nat} (hn : 57 ≤ n) (hFx : Fx R) (hW : RW I) (hU : PuR I) (hO : OvS I J b S) (hSI : (S : Int) = I 32 35) (hi : i < S) (hc : c < 18) (hv : vlP I (eW I b i) c) (hf : flP I J b (I 39 (18 * eW I b i + c))) (hlt : ltP I J b S (i + 1)) (hq : Q (some (vi (wv I b (sfD (chL I 255 b) S (S - (i + 1))) (some (18 * eW I b i + c))))) (J, L, R, n)) : Wp mX3_mostBehind 0 [some (vr (some 19)), some (vi (i : Int)), some (vi (18 * (i : Int) + c)), none, none, none] [] (J, L, R, n) (0, 0) Q := by
  have h10 := hU.2.2.2.2.2.2.1
  have hsz := hO.2.1
  have hwB := fun d (hd : d ≤ 10) p => wv_B2 hU.2.2.2.2.2.1 b (chL I 255 b) (S := S) (d := d) hd p
  have htB := fun (e : Int) d => tp_B (I := I) (e := e) (f := fch I b (some (18 * eW I b i + c)) (sfD (chL I 255 b) S (S - (i + 2)))) (M := 1199) (by omega) (fun q => fch_B (b := b) (S := S) hU (chL I 255 b) (d := S - (i + 2)) (by omega) (some (18 * eW I b i + c)) q) d
  have hz1 := (hO.2.2.2 i c hi hc).1 hv
  have hb1 := vl_B (eW_ok hW hU (by omega)) hv
  have lp : ∀ (tt k : Nat) (z : Int) (x : Int) (x5 : Option AV), k + tt = 18 → z = k → x = (if i + 1 < S then tpN I (eW I b (i + 1)) (fch I b (some (18 * eW I b i + c)) (sfD (chL I 255 b) S (S - (i + 2)))) k else -1) → Wp mX3_mostBehind 5 [some (vr (some 19)), some (vi (i : Int)), some (vi (18 * (i : Int) + c)), some (vi x), some (vi z), x5] [] (J, L, R, n) (0, 0) Q := by
    intro tt
    induction tt with
    | zero =>
      intro k z x x5 hkt hz e0
      obtain rfl : k = 18 := by omega
      have htk := htB (eW I b (i + 1)) 18
      have hxB : -1 ≤ x ∧ x ≤ 1199 := by rw [e0]; split <;> omega
      have hfin : (if x = -1 then (if i + 1 < S then wv I b (sfD (chL I 255 b) S (S - (i + 1))) none else 0) else x) = wv I b (sfD (chL I 255 b) S (S - (i + 1))) (some (18 * eW I b i + c)) := by
        rw [e0]
        by_cases h1 : i + 1 < S
        · rw [if_pos h1, if_pos h1, ← mb_eq hW hU hSI h1 (some (18 * eW I b i + c))]
        · rw [if_neg h1, if_neg h1, if_pos rfl, show S - (i + 1) = 0 by omega]; rfl
      refine Wp.iload rfl dX3_mostBehind_5 ?_
      refine Wp.bipush rfl dX3_mostBehind_7 ?_
      refine Wp.icmp_ge (tgt := 58) dX3_mostBehind_9 (by decide) (by first | omega | exact bI_R _ | exact cmp_R _ _ | assumption) (by first | omega | exact bI_R _ | exact cmp_R _ _ | assumption) (fun c9 => ?_) (fun c9 => ?_)
      · refine Wp.iload_n rfl dX3_mostBehind_58 ?_
        refine Wp.iconst dX3_mostBehind_59 ?_
        refine Wp.icmp_ne (tgt := 73) dX3_mostBehind_60 (by decide) (by first | omega | exact bI_R _ | exact cmp_R _ _ | assumption) (by first | omega | exact bI_R _ | exact cmp_R _ _ | assumption) (fun c60 => ?_) (fun c60 => ?_)
        · refine Wp.iload_n rfl dX3_mostBehind_73 ?_
          refine Wp.ireturn dX3_mostBehind_74 rfl ?_
          first | (exfalso; omega) | (first | (rw [if_pos (by omega)] at hfin; refine qI hq ?_; rw [← hfin]; by_cases h1 : i + 1 < S; (rw [if_pos h1, if_pos ⟨by omega, by omega⟩]; have := (hlt (i + 1) (by omega) h1).2; unfold msP at this; exact this); (rw [if_neg h1, if_neg (by omega)])) | (rw [if_neg (by omega)] at hfin; exact qI hq hfin))
        · refine Wp.aload_n rfl dX3_mostBehind_63 ?_
          refine Wp.iload_n rfl dX3_mostBehind_64 ?_
          refine Wp.iconst dX3_mostBehind_65 ?_
          refine Wp.iadd dX3_mostBehind_66 ?_
          refine Wp.callV (As := [_]) (ls0 := [_, _]) (bd := (0, 0)) (bd' := (0, 0)) dX3_mostBehind_67 kmX3_most lkX3_109 (by decide) (by decide) (Nat.le_of_ble_eq_true rfl) (by first | rfl | exact kd_b0 _ | exact kd_b1 _ | exact kd_b2 _ | exact kd_b3 _ | exact kd_b4 _ | exact kd_b5 _ | exact kd_b6 _) (by omega) rfl rfl (Nat.le_of_ble_eq_true rfl) rfl ?_
          refine ct_X3_most hn hFx (by omega) (by omega) (by omega) ?_
          show Wp _ _ _ (_ :: _) _ _ _
          refine Wp.goto (tgt := 74) dX3_mostBehind_70 (by decide) ?_
          refine Wp.ireturn dX3_mostBehind_74 rfl ?_
          first | (exfalso; omega) | (first | (rw [if_pos (by omega)] at hfin; refine qI hq ?_; rw [← hfin]; by_cases h1 : i + 1 < S; (rw [if_pos h1, if_pos ⟨by omega, by omega⟩]; have := (hlt (i + 1) (by omega) h1).2; unfold msP at this; exact this); (rw [if_neg h1, if_neg (by omega)])) | (rw [if_neg (by omega)] at hfin; exact qI hq hfin))
      · exfalso; omega
    | succ tt ih =>
      intro k z x x5 hkt hz e0
      subst hz
      subst e0
      have htk := htB (eW I b (i + 1)) k
      have hfd := fch_B (b := b) (S := S) hU (chL I 255 b) (d := S - (i + 2)) (by omega) (some (18 * eW I b i + c)) (18 * eW I b (i + 1) + k)
      have htt := tieP_B hU.2.2.2.2.2.1 b (18 * eW I b i + c) (18 * eW I b (i + 1) + k)
      have hww := hwB (S - (i + 2)) (by omega) (some (18 * eW I b (i + 1) + k))
      have hslot : (if ((0 : Int) ≤ (i : Int) + 1 ∧ (i : Int) + 1 < J 19 6) ∧ (0 : Int) ≤ k ∧ (k : Int) < 18 then ((i : Int) + 1) * 18 + k else -1) = if i + 1 < S then 18 * ((i + 1 : Nat) : Int) + k else -1 := by
        by_cases h1 : i + 1 < S
        · rw [if_pos h1, if_pos ⟨⟨by omega, by omega⟩, by omega, by omega⟩]; omega
        · rw [if_neg h1, if_neg (by omega)]
      have h18 : k < 18 := by omega
      by_cases h1 : i + 1 < S
      · rw [if_pos h1] at hslot ⊢
        refine Wp.iload rfl dX3_mostBehind_5 ?_
        refine Wp.bipush rfl dX3_mostBehind_7 ?_
        refine Wp.icmp_ge (tgt := 58) dX3_mostBehind_9 (by decide) (by first | omega | exact bI_R _ | exact cmp_R _ _ | assumption) (by first | omega | exact bI_R _ | exact cmp_R _ _ | assumption) (fun c9 => ?_) (fun c9 => ?_)
        · exfalso; omega
        · refine Wp.aload_n rfl dX3_mostBehind_12 ?_
          refine Wp.iload_n rfl dX3_mostBehind_13 ?_
          refine Wp.iconst dX3_mostBehind_14 ?_
          refine Wp.iadd dX3_mostBehind_15 ?_
          refine Wp.iload rfl dX3_mostBehind_16 ?_
          refine Wp.callV (As := [_, _]) (ls0 := [_, _, _]) (bd := (0, 0)) (bd' := (0, 0)) dX3_mostBehind_18 kmX3_slot lkX3_76 (by decide) (by decide) (Nat.le_of_ble_eq_true rfl) (by first | rfl | exact kd_b0 _ | exact kd_b1 _ | exact kd_b2 _ | exact kd_b3 _ | exact kd_b4 _ | exact kd_b5 _ | exact kd_b6 _) (by omega) rfl rfl (Nat.le_of_ble_eq_true rfl) rfl ?_
          refine ct_X3_slot hn (by omega) (by omega) (by omega) (by omega) ?_
          rw [hslot]
          show Wp _ _ _ (_ :: _) _ _ _
          refine Wp.istore (ls' := [_, _, _, _, _, _]) dX3_mostBehind_21 (by decide) rfl ?_
          refine Wp.aload_n rfl dX3_mostBehind_23 ?_
          refine Wp.iload rfl dX3_mostBehind_24 ?_
          refine Wp.callV (As := [_]) (ls0 := [_, _]) (bd := (0, 0)) (bd' := (0, 0)) dX3_mostBehind_26 kmX3_wordIn lkX3_94 (by decide) (by decide) (Nat.le_of_ble_eq_true rfl) (by first | rfl | exact kd_b0 _ | exact kd_b1 _ | exact kd_b2 _ | exact kd_b3 _ | exact kd_b4 _ | exact kd_b5 _ | exact kd_b6 _) (by omega) rfl rfl (Nat.le_of_ble_eq_true rfl) rfl ?_
          refine wI hn hFx hW hU hO hSI h1 h18 rfl (fun v hv1 hv2 hvB hv3 => ?_)
          show Wp _ _ _ (_ :: _) _ _ _
          refine Wp.iconst dX3_mostBehind_29 ?_
          refine Wp.icmp_eq (tgt := 52) dX3_mostBehind_30 (by decide) (by first | omega | exact bI_R _ | exact cmp_R _ _ | assumption) (by first | omega | exact bI_R _ | exact cmp_R _ _ | assumption) (fun c30 => ?_) (fun c30 => ?_)
          · refine Wp.iinc (ls' := [_, _, _, _, _, _]) rfl dX3_mostBehind_52 (by decide) rfl ?_
            refine Wp.goto (tgt := 5) dX3_mostBehind_55 (by decide) ?_
            first | exact ih (k + 1) _ _ _ (by omega) (by omega) (by rw [if_pos h1]; exact tp_t hvk) | exact ih (k + 1) _ _ _ (by omega) (by omega) (by rw [if_pos h1]; exact tp_f (hv1.mp c30))
          · have hvk : vlP I (eW I b (i + 1)) k := Classical.byContradiction (fun q => c30 (hv1.mpr q))
            have hb2 := vl_B (eW_ok hW hU (by omega)) hvk
            have hz2 := (hO.2.2.2 (i + 1) k h1 h18).1 hvk
            have htv := tie_v hW hU hO hSI hi hc hv h1 h18 hvk hf
            have hsm : J 22 (18 * ((i + 1 : Nat) : Int) + k) = wv I b (sfD (chL I 255 b) S (S - (i + 2))) (some (18 * eW I b (i + 1) + k)) := (hlt (i + 1) (by omega) h1).1 k h18 hvk
            refine Wp.iload_n rfl dX3_mostBehind_33 ?_
            refine Wp.aload_n rfl dX3_mostBehind_34 ?_
            refine Wp.iload_n rfl dX3_mostBehind_35 ?_
            refine Wp.iload rfl dX3_mostBehind_36 ?_
            refine Wp.callV (As := [_, _]) (ls0 := [_, _, _, _, _]) (bd := (0, 0)) (bd' := (0, 0)) dX3_mostBehind_38 kmX3_tie lkX3_111 (by decide) (by decide) (Nat.le_of_ble_eq_true rfl) (by first | rfl | exact kd_b0 _ | exact kd_b1 _ | exact kd_b2 _ | exact kd_b3 _ | exact kd_b4 _ | exact kd_b5 _ | exact kd_b6 _) (by omega) rfl rfl (Nat.le_of_ble_eq_true rfl) rfl ?_
            refine ct_X3_tie hn hFx (by omega) (by omega) (by omega) (by omega) (by omega) (by omega) ?_
            rw [htv]
            show Wp _ _ _ (_ :: _) _ _ _
            refine Wp.aload_n rfl dX3_mostBehind_41 ?_
            refine Wp.iload rfl dX3_mostBehind_42 ?_
            refine Wp.callV (As := [_]) (ls0 := [_, _]) (bd := (0, 0)) (bd' := (0, 0)) dX3_mostBehind_44 kmX3_sumIn lkX3_114 (by decide) (by decide) (Nat.le_of_ble_eq_true rfl) (by first | rfl | exact kd_b0 _ | exact kd_b1 _ | exact kd_b2 _ | exact kd_b3 _ | exact kd_b4 _ | exact kd_b5 _ | exact kd_b6 _) (by omega) rfl rfl (Nat.le_of_ble_eq_true rfl) rfl ?_
            refine ct_X3_sumIn hn hFx (by omega) ?_
            rw [if_pos (by omega), hsm]
            show Wp _ _ _ (_ :: _) _ _ _
            refine Wp.iadd dX3_mostBehind_47 ?_
            refine Wp.mM true dX3_mostBehind_48 lkX3_106 ka_math (by decide) (Nat.le_of_ble_eq_true rfl) (by omega) (by omega) ?_
            refine Wp.istore_n (ls' := [_, _, _, _, _, _]) dX3_mostBehind_51 (by decide) rfl ?_
            refine Wp.iinc (ls' := [_, _, _, _, _, _]) rfl dX3_mostBehind_52 (by decide) rfl ?_
            refine Wp.goto (tgt := 5) dX3_mostBehind_55 (by decide) ?_
            first | exact ih (k + 1) _ _ _ (by omega) (by omega) (by rw [if_pos h1]; exact tp_t hvk) | exact ih (k + 1) _ _ _ (by omega) (by omega) (by rw [if_pos h1]; exact tp_f (hv1.mp c30))
      rw [if_neg h1] at hslot ⊢
      refine Wp.iload rfl dX3_mostBehind_5 ?_
      refine Wp.bipush rfl dX3_mostBehind_7 ?_
      refine Wp.icmp_ge (tgt := 58) dX3_mostBehind_9 (by decide) (by first | omega | exact bI_R _ | exact cmp_R _ _ | assumption) (by first | omega | exact bI_R _ | exact cmp_R _ _ | assumption) (fun c9 => ?_) (fun c9 => ?_)
      · exfalso; omega
      · refine Wp.aload_n rfl dX3_mostBehind_12 ?_
        refine Wp.iload_n rfl dX3_mostBehind_13 ?_
        refine Wp.iconst dX3_mostBehind_14 ?_
        refine Wp.iadd dX3_mostBehind_15 ?_
        refine Wp.iload rfl dX3_mostBehind_16 ?_
        refine Wp.callV (As := [_, _]) (ls0 := [_, _, _]) (bd := (0, 0)) (bd' := (0, 0)) dX3_mostBehind_18 kmX3_slot lkX3_76 (by decide) (by decide) (Nat.le_of_ble_eq_true rfl) (by first | rfl | exact kd_b0 _ | exact kd_b1 _ | exact kd_b2 _ | exact kd_b3 _ | exact kd_b4 _ | exact kd_b5 _ | exact kd_b6 _) (by omega) rfl rfl (Nat.le_of_ble_eq_true rfl) rfl ?_
        refine ct_X3_slot hn (by omega) (by omega) (by omega) (by omega) ?_
        rw [hslot]
        show Wp _ _ _ (_ :: _) _ _ _
        refine Wp.istore (ls' := [_, _, _, _, _, _]) dX3_mostBehind_21 (by decide) rfl ?_
        refine Wp.aload_n rfl dX3_mostBehind_23 ?_
        refine Wp.iload rfl dX3_mostBehind_24 ?_
        refine Wp.callV (As := [_]) (ls0 := [_, _]) (bd := (0, 0)) (bd' := (0, 0)) dX3_mostBehind_26 kmX3_wordIn lkX3_94 (by decide) (by decide) (Nat.le_of_ble_eq_true rfl) (by first | rfl | exact kd_b0 _ | exact kd_b1 _ | exact kd_b2 _ | exact kd_b3 _ | exact kd_b4 _ | exact kd_b5 _ | exact kd_b6 _) (by omega) rfl rfl (Nat.le_of_ble_eq_true rfl) rfl ?_
        refine ct_X3_wordIn hn hFx (by omega) ?_
        rw [if_neg (by omega)]
        show Wp _ _ _ (_ :: _) _ _ _
        refine Wp.iconst dX3_mostBehind_29 ?_
        refine Wp.icmp_eq (tgt := 52) dX3_mostBehind_30 (by decide) (by first | omega | exact bI_R _ | exact cmp_R _ _ | assumption) (by first | omega | exact bI_R _ | exact cmp_R _ _ | assumption) (fun c30 => ?_) (fun c30 => ?_)
        · refine Wp.iinc (ls' := [_, _, _, _, _, _]) rfl dX3_mostBehind_52 (by decide) rfl ?_
          refine Wp.goto (tgt := 5) dX3_mostBehind_55 (by decide) ?_
          exact ih (k + 1) _ _ _ (by omega) (by omega) (by rw [if_neg h1])
        · exfalso; omega
  refine Wp.iconst dX3_mostBehind_0 ?_
  refine Wp.istore_n (ls' := [_, _, _, _, _, _]) dX3_mostBehind_1 (by decide) rfl ?_
  refine Wp.iconst dX3_mostBehind_2 ?_
  refine Wp.istore (ls' := [_, _, _, _, _, _]) dX3_mostBehind_3 (by decide) rfl ?_
  exact lp 18 0 _ _ _ (by omega) (by omega) (by split <;> rfl)
end

