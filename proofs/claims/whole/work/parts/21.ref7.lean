/-! ===== the reference: promises 16 to 19 ===== -/
abbrev aptP (a m c : Int) : Prop := a ≠ m ∧ m ≠ c ∧ a ≠ c
def aWeight (I : Nat → Int → Int) (lk a w m c t : Int) : Int := if tgP a ∧ wdP w ∧ tgP m ∧ tgP c ∧ wdP t then (if aptP a m c then wt I lk a w m c t else -1002) else -1001
/-- SURENESS, not in least terms -/
def upr (I : Nat → Int → Int) (lk a w m c t : Int) : Int := 2 * pcN (gv I lk a w m &&& gv I lk c t m) 60
def lwr (I : Nat → Int → Int) (lk a w m c t : Int) : Int := if pcN (gv I lk a w m) 60 + pcN (gv I lk c t m) 60 = 0 then 1 else pcN (gv I lk a w m) 60 + pcN (gv I lk c t m) 60
def aSure (I : Nat → Int → Int) (lk a w m c t what : Int) : Int := if tgP a ∧ wdP w ∧ tgP m ∧ tgP c ∧ wdP t then (if aptP a m c ∧ 0 ≤ what ∧ what ≤ 1 then (if what = 0 then (upr I lk a w m c t).tdiv (Nat.gcd (upr I lk a w m c t).toNat (lwr I lk a w m c t).toNat) else (lwr I lk a w m c t).tdiv (Nat.gcd (upr I lk a w m c t).toNat (lwr I lk a w m c t).toNat)) else -1002) else -1001
/-- word, upper, lower, weight of the best so far -/
abbrev BS : Type := Int × Int × Int × Int
def fbS (I : Nat → Int → Int) (lk a w m c : Int) (b : BS) (t : Int) : BS :=
  if 0 < wt I lk a w m c t ∧ (b.1 < 0 ∨ b.2.1 * lwr I lk a w m c t < upr I lk a w m c t * b.2.2.1 ∨ (b.2.1 * lwr I lk a w m c t = upr I lk a w m c t * b.2.2.1 ∧ b.2.2.2 < wt I lk a w m c t)) then (t, upr I lk a w m c t, lwr I lk a w m c t, wt I lk a w m c t) else b
def fbN (I : Nat → Int → Int) (lk a w m c : Int) : Nat → BS
  | 0 => (-1, 0, 1, 0)
  | k + 1 => fbS I lk a w m c (fbN I lk a w m c k) k
def aBest (I : Nat → Int → Int) (lk a w m c : Int) : Int := if tgP a ∧ wdP w ∧ tgP m ∧ tgP c then (if aptP a m c then (fbN I lk a w m c 60).1 else -1002) else -1001
/-- tongue, upper, lower, weight of the bridge so far -/
def brS (I : Nat → Int → Int) (lk a w c : Int) (b : BS) (m : Int) : BS :=
  if aptP a m c ∧ 0 ≤ (fbN I lk a w m c 60).1 ∧ (b.1 < 0 ∨ b.2.1 * (fbN I lk a w m c 60).2.2.1 < (fbN I lk a w m c 60).2.1 * b.2.2.1 ∨ (b.2.1 * (fbN I lk a w m c 60).2.2.1 = (fbN I lk a w m c 60).2.1 * b.2.2.1 ∧ b.2.2.2 < (fbN I lk a w m c 60).2.2.2)) then (m, (fbN I lk a w m c 60).2) else b
def brN (I : Nat → Int → Int) (lk a w c : Int) : Nat → BS
  | 0 => (-1, 0, 1, 0)
  | k + 1 => brS I lk a w c (brN I lk a w c k) k
def aBridge (I : Nat → Int → Int) (lk a w c : Int) : Int := if tgP a ∧ wdP w ∧ tgP c then (if a = c then -1002 else (brN I lk a w c 4).1) else -1001
section
variable {I : Nat → Int → Int} {L : Nat → Int → BitVec 64} {R : Nat → Int → Option Nat} {n : Nat} {m : Mm} {Q : Option AV → Mm → Prop}
theorem upr_B (I : Nat → Int → Int) (lk a w mm c t : Int) : 0 ≤ upr I lk a w mm c t ∧ upr I lk a w mm c t ≤ 120 := by
  have h := pcN_B (gv I lk a w mm &&& gv I lk c t mm) 60
  unfold upr; omega
theorem lwr_B (I : Nat → Int → Int) (lk a w mm c t : Int) : 1 ≤ lwr I lk a w mm c t ∧ lwr I lk a w mm c t ≤ 120 := by
  have h := pcN_B (gv I lk a w mm) 60
  have h2 := pcN_B (gv I lk c t mm) 60
  unfold lwr
  split <;> omega
theorem wtX_B (I : Nat → Int → Int) (lk ag s mm c t : Int) (h : ∀ k : Nat, k < 60 → cntE I (ent I lk mm k c) ≤ 3) : ∀ k : Nat, k ≤ 60 → 0 ≤ wtX I lk ag s mm c t k ∧ wtX I lk ag s mm c t k ≤ 3 * k
  | 0, _ => by simp [wtX]
  | k + 1, hk => by
    have ih := wtX_B I lk ag s mm c t h k (by omega)
    have h1 := wtU_B I ag s t (ent I lk mm k c) (cntE I (ent I lk mm k c))
    have h2 := h k (by omega)
    simp only [wtX]
    split <;> omega
theorem wtS_B (I : Nat → Int → Int) (lk ag e mm c t : Int) (h : ∀ k : Nat, k < 60 → cntE I (ent I lk mm k c) ≤ 3) : ∀ j : Nat, 0 ≤ wtS I lk ag e mm c t j ∧ wtS I lk ag e mm c t j ≤ 180 * j
  | 0 => by simp [wtS]
  | j + 1 => by
    have ih := wtS_B I lk ag e mm c t h j
    have h1 := wtX_B I lk ag (3 * e + j) mm c t h 60 (by omega)
    simp only [wtS]
    omega
theorem RW.cnt (hW : RW I) (lk a b : Int) {w : Int} (h0 : 0 ≤ w) (h1 : w < 60) : cntE I (ent I lk a w b) ≤ 3 := by
  have h := cntE_end (hW.entOk (lk := lk) (a := a) (b := b) h0 h1)
  rcases h with h | h
  · rw [h]; simp [cntE]
  · omega
theorem wt_B (hW : RW I) (lk a mm c t : Int) {w : Int} (h0 : 0 ≤ w) (h1 : w < 60) : 0 ≤ wt I lk a w mm c t ∧ wt I lk a w mm c t ≤ 540 := by
  have hc := hW.cnt lk a mm h0 h1
  have h := wtS_B I lk (I 32 10) (ent I lk a w mm) mm c t (fun k hk => hW.cnt lk mm c (by omega) (by omega)) (cntE I (ent I lk a w mm))
  unfold wt; omega
theorem ct_X12_areApart {a b c : Int} (ha : inR a) (hb : inR b) (hc : inR c) (hq : Q (some (vi (bI (aptP a b c)))) m) : Wp mX12_areApart 0 [some (vi a), some (vi b), some (vi c)] [] m (0, 0) Q := by
  refine Wp.iload_n rfl dX12_areApart_0 ?_
  refine Wp.iload_n rfl dX12_areApart_1 ?_
  refine Wp.icmp_eq (tgt := 19) dX12_areApart_2 (by decide) (by first | omega | exact bI_R _ | exact cmp_R _ _ | assumption) (by first | omega | exact bI_R _ | exact cmp_R _ _ | assumption) (fun c2 => ?_) (fun c2 => ?_)
  · refine Wp.iconst dX12_areApart_19 ?_
    refine Wp.zreturn dX12_areApart_20 rfl (by first | omega | exact bI_01 _) ?_
    first | exact hq | (exfalso; omega) | exact qB_t hq (by omega) | exact qB_f hq (by omega)
  · refine Wp.iload_n rfl dX12_areApart_5 ?_
    refine Wp.iload_n rfl dX12_areApart_6 ?_
    refine Wp.icmp_eq (tgt := 19) dX12_areApart_7 (by decide) (by first | omega | exact bI_R _ | exact cmp_R _ _ | assumption) (by first | omega | exact bI_R _ | exact cmp_R _ _ | assumption) (fun c7 => ?_) (fun c7 => ?_)
    · refine Wp.iconst dX12_areApart_19 ?_
      refine Wp.zreturn dX12_areApart_20 rfl (by first | omega | exact bI_01 _) ?_
      first | exact hq | (exfalso; omega) | exact qB_t hq (by omega) | exact qB_f hq (by omega)
    · refine Wp.iload_n rfl dX12_areApart_10 ?_
      refine Wp.iload_n rfl dX12_areApart_11 ?_
      refine Wp.icmp_eq (tgt := 19) dX12_areApart_12 (by decide) (by first | omega | exact bI_R _ | exact cmp_R _ _ | assumption) (by first | omega | exact bI_R _ | exact cmp_R _ _ | assumption) (fun c12 => ?_) (fun c12 => ?_)
      · refine Wp.iconst dX12_areApart_19 ?_
        refine Wp.zreturn dX12_areApart_20 rfl (by first | omega | exact bI_01 _) ?_
        first | exact hq | (exfalso; omega) | exact qB_t hq (by omega) | exact qB_f hq (by omega)
      · refine Wp.iconst dX12_areApart_15 ?_
        refine Wp.goto (tgt := 20) dX12_areApart_16 (by decide) ?_
        refine Wp.zreturn dX12_areApart_20 rfl (by first | omega | exact bI_01 _) ?_
        first | exact hq | (exfalso; omega) | exact qB_t hq (by omega) | exact qB_f hq (by omega)
theorem ct_X12_weight {a w mm c t : Int} (hn : 57 ≤ n) (hFx : Fx R) (hW : RW I) (ha : inR a) (hw : inR w) (hm : inR mm) (hc : inR c) (ht : inR t) (hq : Q (some (vi (aWeight I (I 32 11) a w mm c t))) (I, L, R, n)) : Wp mX12_weight 0 [some (vr (some 32)), some (vi a), some (vi w), some (vi mm), some (vi c), some (vi t)] [] (I, L, R, n) (0, 0) Q := by
  refine Wp.iload_n rfl dX12_weight_0 ?_
  refine Wp.callS (As := [_]) (ls0 := [_]) (bd := (0, 0)) (bd' := (0, 0)) dX12_weight_1 kmX12_isTongue lkX12_147 (by decide) (by decide) (Nat.le_of_ble_eq_true rfl) rfl rfl (Nat.le_of_ble_eq_true rfl) rfl ?_
  refine ct_X12_isTongue (by omega) ?_
  show Wp _ _ _ (_ :: _) _ _ _
  refine Wp.if_eqB (tgt := 37) dX12_weight_4 (by decide) (fun c4 => ?_) (fun c4 => ?_)
  · refine Wp.sipush rfl dX12_weight_37 ?_
    refine Wp.ireturn dX12_weight_40 rfl ?_
    first | (exfalso; omega) | (exact qI hq (by unfold aWeight; (repeat' split) <;> first | rfl | (exfalso; omega)))
  · refine Wp.iload_n rfl dX12_weight_7 ?_
    refine Wp.callS (As := [_]) (ls0 := [_]) (bd := (0, 0)) (bd' := (0, 0)) dX12_weight_8 kmX12_isWord lkX12_182 (by decide) (by decide) (Nat.le_of_ble_eq_true rfl) rfl rfl (Nat.le_of_ble_eq_true rfl) rfl ?_
    refine ct_X12_isWord (by omega) ?_
    show Wp _ _ _ (_ :: _) _ _ _
    refine Wp.if_eqB (tgt := 37) dX12_weight_11 (by decide) (fun c11 => ?_) (fun c11 => ?_)
    · refine Wp.sipush rfl dX12_weight_37 ?_
      refine Wp.ireturn dX12_weight_40 rfl ?_
      first | (exfalso; omega) | (exact qI hq (by unfold aWeight; (repeat' split) <;> first | rfl | (exfalso; omega)))
    · refine Wp.iload_n rfl dX12_weight_14 ?_
      refine Wp.callS (As := [_]) (ls0 := [_]) (bd := (0, 0)) (bd' := (0, 0)) dX12_weight_15 kmX12_isTongue lkX12_147 (by decide) (by decide) (Nat.le_of_ble_eq_true rfl) rfl rfl (Nat.le_of_ble_eq_true rfl) rfl ?_
      refine ct_X12_isTongue (by omega) ?_
      show Wp _ _ _ (_ :: _) _ _ _
      refine Wp.if_eqB (tgt := 37) dX12_weight_18 (by decide) (fun c18 => ?_) (fun c18 => ?_)
      · refine Wp.sipush rfl dX12_weight_37 ?_
        refine Wp.ireturn dX12_weight_40 rfl ?_
        first | (exfalso; omega) | (exact qI hq (by unfold aWeight; (repeat' split) <;> first | rfl | (exfalso; omega)))
      · refine Wp.iload rfl dX12_weight_21 ?_
        refine Wp.callS (As := [_]) (ls0 := [_]) (bd := (0, 0)) (bd' := (0, 0)) dX12_weight_23 kmX12_isTongue lkX12_147 (by decide) (by decide) (Nat.le_of_ble_eq_true rfl) rfl rfl (Nat.le_of_ble_eq_true rfl) rfl ?_
        refine ct_X12_isTongue (by omega) ?_
        show Wp _ _ _ (_ :: _) _ _ _
        refine Wp.if_eqB (tgt := 37) dX12_weight_26 (by decide) (fun c26 => ?_) (fun c26 => ?_)
        · refine Wp.sipush rfl dX12_weight_37 ?_
          refine Wp.ireturn dX12_weight_40 rfl ?_
          first | (exfalso; omega) | (exact qI hq (by unfold aWeight; (repeat' split) <;> first | rfl | (exfalso; omega)))
        · refine Wp.iload rfl dX12_weight_29 ?_
          refine Wp.callS (As := [_]) (ls0 := [_]) (bd := (0, 0)) (bd' := (0, 0)) dX12_weight_31 kmX12_isWord lkX12_182 (by decide) (by decide) (Nat.le_of_ble_eq_true rfl) rfl rfl (Nat.le_of_ble_eq_true rfl) rfl ?_
          refine ct_X12_isWord (by omega) ?_
          show Wp _ _ _ (_ :: _) _ _ _
          refine Wp.if_neB (tgt := 41) dX12_weight_34 (by decide) (fun c34 => ?_) (fun c34 => ?_)
          · refine Wp.iload_n rfl dX12_weight_41 ?_
            refine Wp.iload_n rfl dX12_weight_42 ?_
            refine Wp.iload rfl dX12_weight_43 ?_
            refine Wp.callS (As := [_, _, _]) (ls0 := [_, _, _]) (bd := (0, 0)) (bd' := (0, 0)) dX12_weight_45 kmX12_areApart lkX12_208 (by decide) (by decide) (Nat.le_of_ble_eq_true rfl) rfl rfl (Nat.le_of_ble_eq_true rfl) rfl ?_
            refine ct_X12_areApart (by omega) (by omega) (by omega) ?_
            show Wp _ _ _ (_ :: _) _ _ _
            refine Wp.if_eqB (tgt := 65) dX12_weight_48 (by decide) (fun c48 => ?_) (fun c48 => ?_)
            · refine Wp.sipush rfl dX12_weight_65 ?_
              refine Wp.ireturn dX12_weight_68 rfl ?_
              first | (exfalso; omega) | (exact qI hq (by unfold aWeight; (repeat' split) <;> first | rfl | (exfalso; omega)))
            · refine Wp.aload_n rfl dX12_weight_51 ?_
              refine Wp.iload_n rfl dX12_weight_52 ?_
              refine Wp.iload_n rfl dX12_weight_53 ?_
              refine Wp.iload_n rfl dX12_weight_54 ?_
              refine Wp.iload rfl dX12_weight_55 ?_
              refine Wp.iload rfl dX12_weight_57 ?_
              refine Wp.callV (As := [_, _, _, _, _]) (ls0 := [_, _, _, _, _, _, _, _, _, _, _, _, _, _, _]) (bd := (0, 0)) (bd' := (0, 0)) dX12_weight_59 kmX12_weightOf lkX12_212 (by decide) (by decide) (Nat.le_of_ble_eq_true rfl) (by first | rfl | exact kd_b0 _ | exact kd_b1 _ | exact kd_b2 _ | exact kd_b3 _ | exact kd_b4 _ | exact kd_b5 _ | exact kd_b6 _) (by omega) rfl rfl (Nat.le_of_ble_eq_true rfl) rfl ?_
              refine ct_X12_weightOf hn hFx hW (by omega) (by omega) (by omega) (by omega) (by omega) (by omega) (by omega) ?_
              show Wp _ _ _ (_ :: _) _ _ _
              refine Wp.goto (tgt := 68) dX12_weight_62 (by decide) ?_
              refine Wp.ireturn dX12_weight_68 rfl ?_
              first | (exfalso; omega) | (exact qI hq (by unfold aWeight; (repeat' split) <;> first | rfl | (exfalso; omega)))
          · refine Wp.sipush rfl dX12_weight_37 ?_
            refine Wp.ireturn dX12_weight_40 rfl ?_
            first | (exfalso; omega) | (exact qI hq (by unfold aWeight; (repeat' split) <;> first | rfl | (exfalso; omega)))
theorem ct_X12_findSure {a w mm c t : Int} (hn : 57 ≤ n) (hFx : Fx R) (hW : RW I) (ha : inR a) (hm : inR mm) (hc : inR c) (hw0 : 0 ≤ w) (hw1 : w < 60) (ht0 : 0 ≤ t) (ht1 : t < 60) (hq : ∀ J, Eqv I J → J 32 19 = upr I (I 32 11) a w mm c t → J 32 20 = lwr I (I 32 11) a w mm c t → (∀ k, 21 ≤ k → J 32 k = I 32 k) → Q none (J, L, R, n)) : Wp mX12_findSure 0 [some (vr (some 32)), some (vi a), some (vi w), some (vi mm), some (vi c), some (vi t), none, none, none, none] [] (I, L, R, n) (0, 0) Q := by
  have h1 := pcN_B (gv I (I 32 11) a w mm) 60
  have h2 := pcN_B (gv I (I 32 11) c t mm) 60
  refine Wp.aload_n rfl dX12_findSure_0 ?_
  refine Wp.iload_n rfl dX12_findSure_1 ?_
  refine Wp.iload_n rfl dX12_findSure_2 ?_
  refine Wp.iload_n rfl dX12_findSure_3 ?_
  refine Wp.callV (As := [_, _, _]) (ls0 := [_, _, _, _, _, _, _, _]) (bd := (0, 0)) (bd' := (0, 0)) dX12_findSure_4 kmX12_giving lkX12_191 (by decide) (by decide) (Nat.le_of_ble_eq_true rfl) (by first | rfl | exact kd_b0 _ | exact kd_b1 _ | exact kd_b2 _ | exact kd_b3 _ | exact kd_b4 _ | exact kd_b5 _ | exact kd_b6 _) (by omega) rfl rfl (Nat.le_of_ble_eq_true rfl) rfl ?_
  refine ct_X12_giving hn hFx hW (by omega) (by omega) (by omega) (by omega) ?_
  show Wp _ _ _ (_ :: _) _ _ _
  refine Wp.lstore (ls' := [_, _, _, _, _, _, _, _, _, _]) dX12_findSure_7 (by decide) rfl ?_
  refine Wp.aload_n rfl dX12_findSure_9 ?_
  refine Wp.iload rfl dX12_findSure_10 ?_
  refine Wp.iload rfl dX12_findSure_12 ?_
  refine Wp.iload_n rfl dX12_findSure_14 ?_
  refine Wp.callV (As := [_, _, _]) (ls0 := [_, _, _, _, _, _, _, _]) (bd := (0, 0)) (bd' := (0, 0)) dX12_findSure_15 kmX12_giving lkX12_191 (by decide) (by decide) (Nat.le_of_ble_eq_true rfl) (by first | rfl | exact kd_b0 _ | exact kd_b1 _ | exact kd_b2 _ | exact kd_b3 _ | exact kd_b4 _ | exact kd_b5 _ | exact kd_b6 _) (by omega) rfl rfl (Nat.le_of_ble_eq_true rfl) rfl ?_
  refine ct_X12_giving hn hFx hW (by omega) (by omega) (by omega) (by omega) ?_
  show Wp _ _ _ (_ :: _) _ _ _
  refine Wp.lstore (ls' := [_, _, _, _, _, _, _, _, _, _]) dX12_findSure_18 (by decide) rfl ?_
  refine Wp.aload_n rfl dX12_findSure_20 ?_
  refine Wp.iconst dX12_findSure_21 ?_
  refine Wp.lload rfl dX12_findSure_22 ?_
  refine Wp.lload rfl dX12_findSure_24 ?_
  refine Wp.land dX12_findSure_26 ?_
  refine Wp.callS (As := [_]) (ls0 := [_, _, _, _]) (bd := (0, 0)) (bd' := (0, 0)) dX12_findSure_27 kmX12_bits lkX12_187 (by decide) (by decide) (Nat.le_of_ble_eq_true rfl) rfl rfl (Nat.le_of_ble_eq_true rfl) rfl ?_
  refine ct_X12_bits ?_
  show Wp _ _ _ (_ :: _) _ _ _
  refine Wp.imul dX12_findSure_30 ?_
  refine Wp.pi (kz := 19) rfl dX12_findSure_31 fkX12_216 (Or.inl rfl) (Or.inl rfl) (by first | rfl | exact kd_b0 _ | exact kd_b1 _ | exact kd_b2 _ | exact kd_b3 _ | exact kd_b4 _ | exact kd_b5 _ | exact kd_b6 _) (by omega) ?_
  refine Wp.aload_n rfl dX12_findSure_34 ?_
  refine Wp.lload rfl dX12_findSure_35 ?_
  refine Wp.callS (As := [_]) (ls0 := [_, _, _, _]) (bd := (0, 0)) (bd' := (0, 0)) dX12_findSure_37 kmX12_bits lkX12_187 (by decide) (by decide) (Nat.le_of_ble_eq_true rfl) rfl rfl (Nat.le_of_ble_eq_true rfl) rfl ?_
  refine ct_X12_bits ?_
  show Wp _ _ _ (_ :: _) _ _ _
  refine Wp.lload rfl dX12_findSure_40 ?_
  refine Wp.callS (As := [_]) (ls0 := [_, _, _, _]) (bd := (0, 0)) (bd' := (0, 0)) dX12_findSure_42 kmX12_bits lkX12_187 (by decide) (by decide) (Nat.le_of_ble_eq_true rfl) rfl rfl (Nat.le_of_ble_eq_true rfl) rfl ?_
  refine ct_X12_bits ?_
  show Wp _ _ _ (_ :: _) _ _ _
  refine Wp.iadd dX12_findSure_45 ?_
  refine Wp.pi (kz := 20) rfl dX12_findSure_46 fkX12_219 (Or.inl rfl) (Or.inl rfl) (by first | rfl | exact kd_b0 _ | exact kd_b1 _ | exact kd_b2 _ | exact kd_b3 _ | exact kd_b4 _ | exact kd_b5 _ | exact kd_b6 _) (by omega) ?_
  refine Wp.aload_n rfl dX12_findSure_49 ?_
  refine Wp.aload_n rfl dX12_findSure_50 ?_
  refine Wp.gi (kz := 20) rfl dX12_findSure_51 fkX12_219 (by first | rfl | exact kd_b0 _ | exact kd_b1 _ | exact kd_b2 _ | exact kd_b3 _ | exact kd_b4 _ | exact kd_b5 _ | exact kd_b6 _) (by omega) ?_
  try simp (disch := omega) only [up_same, up_o, up_k]
  refine Wp.if_ne (tgt := 61) dX12_findSure_54 (by decide) (by first | omega | exact bI_R _ | exact cmp_R _ _ | assumption) (fun c54 => ?_) (fun c54 => ?_)
  · refine Wp.aload_n rfl dX12_findSure_61 ?_
    refine Wp.gi (kz := 20) rfl dX12_findSure_62 fkX12_219 (by first | rfl | exact kd_b0 _ | exact kd_b1 _ | exact kd_b2 _ | exact kd_b3 _ | exact kd_b4 _ | exact kd_b5 _ | exact kd_b6 _) (by omega) ?_
    try simp (disch := omega) only [up_same, up_o, up_k]
    refine Wp.pi (kz := 20) rfl dX12_findSure_65 fkX12_219 (Or.inl rfl) (Or.inl rfl) (by first | rfl | exact kd_b0 _ | exact kd_b1 _ | exact kd_b2 _ | exact kd_b3 _ | exact kd_b4 _ | exact kd_b5 _ | exact kd_b6 _) (by omega) ?_
    refine Wp.vreturn dX12_findSure_68 rfl ?_
    first | (exfalso; omega) | (exact hq _ ((((Eqv.rf I).wr (by unfold scr; omega)).wr (by unfold scr; omega)).wr (by unfold scr; omega)) (by simp (disch := omega) only [up_same, up_o, up_k]; rfl) (by rw [up_same]; unfold lwr; split <;> first | rfl | omega) (fun k hk => by simp (disch := omega) only [up_same, up_o, up_k]))
  · refine Wp.iconst dX12_findSure_57 ?_
    refine Wp.goto (tgt := 65) dX12_findSure_58 (by decide) ?_
    refine Wp.pi (kz := 20) rfl dX12_findSure_65 fkX12_219 (Or.inl rfl) (Or.inl rfl) (by first | rfl | exact kd_b0 _ | exact kd_b1 _ | exact kd_b2 _ | exact kd_b3 _ | exact kd_b4 _ | exact kd_b5 _ | exact kd_b6 _) (by omega) ?_
    refine Wp.vreturn dX12_findSure_68 rfl ?_
    first | (exfalso; omega) | (exact hq _ ((((Eqv.rf I).wr (by unfold scr; omega)).wr (by unfold scr; omega)).wr (by unfold scr; omega)) (by simp (disch := omega) only [up_same, up_o, up_k]; rfl) (by rw [up_same]; unfold lwr; split <;> first | rfl | omega) (fun k hk => by simp (disch := omega) only [up_same, up_o, up_k]))
theorem ct_X12_gcd {p q : Nat} (hp : p < 1000000) (hq0 : q < 1000000) (hq : Q (some (vi (Nat.gcd p q : Nat))) m) : Wp mX12_gcd 0 [some (vi p), some (vi q), none, none, none] [] m (0, 0) Q := by
  have loop : ∀ (tt x y : Nat) (x4 : Option AV), y ≤ tt → x < 1000000 → y < 1000000 → Nat.gcd x y = Nat.gcd p q → Wp mX12_gcd 4 [some (vi p), some (vi q), some (vi x), some (vi y), x4] [] m (0, 0) Q := by
    intro tt
    induction tt with
    | zero =>
      intro x y x4 hy hx hy2 hg
      have hy0 : y = 0 := by omega
      subst hy0
      refine Wp.iload_n rfl dX12_gcd_4 ?_
      refine Wp.if_eq (tgt := 21) dX12_gcd_5 (by decide) (by first | omega | exact bI_R _ | exact cmp_R _ _ | assumption) (fun c5 => ?_) (fun c5 => ?_)
      · refine Wp.iload_n rfl dX12_gcd_21 ?_
        refine Wp.ireturn dX12_gcd_22 rfl ?_
        first | (exfalso; omega) | (exact qI hq (by rw [← hg, Nat.gcd_zero_right]))
      · exfalso; omega
    | succ tt ih =>
      intro x y x4 hy hx hy2 hg
      refine Wp.iload_n rfl dX12_gcd_4 ?_
      refine Wp.if_eq (tgt := 21) dX12_gcd_5 (by decide) (by first | omega | exact bI_R _ | exact cmp_R _ _ | assumption) (fun c5 => ?_) (fun c5 => ?_)
      · refine Wp.iload_n rfl dX12_gcd_21 ?_
        refine Wp.ireturn dX12_gcd_22 rfl ?_
        first | (exfalso; omega) | (exact qI hq (by have h0 : y = 0 := (by omega); subst h0; rw [← hg, Nat.gcd_zero_right]))
      · refine Wp.iload_n rfl dX12_gcd_8 ?_
        refine Wp.iload_n rfl dX12_gcd_9 ?_
        refine Wp.irem (by omega) (by omega) (by omega) dX12_gcd_10 ?_
        refine Wp.istore (ls' := [_, _, _, _, _]) dX12_gcd_11 (by decide) rfl ?_
        refine Wp.iload_n rfl dX12_gcd_13 ?_
        refine Wp.istore_n (ls' := [_, _, _, _, _]) dX12_gcd_14 (by decide) rfl ?_
        refine Wp.iload rfl dX12_gcd_15 ?_
        refine Wp.istore_n (ls' := [_, _, _, _, _]) dX12_gcd_17 (by decide) rfl ?_
        refine Wp.goto (tgt := 4) dX12_gcd_18 (by decide) ?_
        have hy0 : 0 < y := by omega
        have e1 : (x : Int) - (x : Int).tdiv (y : Int) * (y : Int) = ((x % y : Nat) : Int) := by
          rw [Int.tdiv_eq_ediv_of_nonneg (by omega)]
          have := Int.mul_ediv_add_emod (x : Int) (y : Int)
          rw [Int.mul_comm] at this
          omega
        rw [e1]
        have hmod := Nat.mod_lt x hy0
        exact ih y (x % y) _ (by omega) (by omega) (by omega) (by rw [← hg, Nat.gcd_comm, ← Nat.gcd_rec, Nat.gcd_comm])
  refine Wp.iload_n rfl dX12_gcd_0 ?_
  refine Wp.istore_n (ls' := [_, _, _, _, _]) dX12_gcd_1 (by decide) rfl ?_
  refine Wp.iload_n rfl dX12_gcd_2 ?_
  refine Wp.istore_n (ls' := [_, _, _, _, _]) dX12_gcd_3 (by decide) rfl ?_
  exact loop q p q _ (by omega) hp hq0 rfl
theorem ct_X12_sure {a w mm c t what : Int} (hn : 57 ≤ n) (hFx : Fx R) (hW : RW I) (ha : inR a) (hw : inR w) (hm : inR mm) (hc : inR c) (ht : inR t) (hwh : inR what) (hq : ∀ J, Eqv I J → Q (some (vi (aSure I (I 32 11) a w mm c t what))) (J, L, R, n)) : Wp mX12_sure 0 [some (vr (some 32)), some (vi a), some (vi w), some (vi mm), some (vi c), some (vi t), some (vi what), none] [] (I, L, R, n) (0, 0) Q := by
  have hU := upr_B I (I 32 11) a w mm c t
  have hL := lwr_B I (I 32 11) a w mm c t
  have hg1 : 0 < Nat.gcd (upr I (I 32 11) a w mm c t).toNat (lwr I (I 32 11) a w mm c t).toNat := Nat.gcd_pos_of_pos_right _ (by omega)
  have hg2 : Nat.gcd (upr I (I 32 11) a w mm c t).toNat (lwr I (I 32 11) a w mm c t).toNat ≤ (lwr I (I 32 11) a w mm c t).toNat := Nat.gcd_le_right _ (by omega)
  refine Wp.iload_n rfl dX12_sure_0 ?_
  refine Wp.callS (As := [_]) (ls0 := [_]) (bd := (0, 0)) (bd' := (0, 0)) dX12_sure_1 kmX12_isTongue lkX12_147 (by decide) (by decide) (Nat.le_of_ble_eq_true rfl) rfl rfl (Nat.le_of_ble_eq_true rfl) rfl ?_
  refine ct_X12_isTongue (by omega) ?_
  show Wp _ _ _ (_ :: _) _ _ _
  refine Wp.if_eqB (tgt := 37) dX12_sure_4 (by decide) (fun c4 => ?_) (fun c4 => ?_)
  · refine Wp.sipush rfl dX12_sure_37 ?_
    refine Wp.ireturn dX12_sure_40 rfl ?_
    first | (exfalso; omega) | (first | exact qI (hq _ (Eqv.rf I)) (by unfold aSure; (repeat' split) <;> first | rfl | (exfalso; omega)) | exact qI (hq _ hJ) (by unfold aSure; (repeat' split) <;> first | rfl | (exfalso; omega)))
  · refine Wp.iload_n rfl dX12_sure_7 ?_
    refine Wp.callS (As := [_]) (ls0 := [_]) (bd := (0, 0)) (bd' := (0, 0)) dX12_sure_8 kmX12_isWord lkX12_182 (by decide) (by decide) (Nat.le_of_ble_eq_true rfl) rfl rfl (Nat.le_of_ble_eq_true rfl) rfl ?_
    refine ct_X12_isWord (by omega) ?_
    show Wp _ _ _ (_ :: _) _ _ _
    refine Wp.if_eqB (tgt := 37) dX12_sure_11 (by decide) (fun c11 => ?_) (fun c11 => ?_)
    · refine Wp.sipush rfl dX12_sure_37 ?_
      refine Wp.ireturn dX12_sure_40 rfl ?_
      first | (exfalso; omega) | (first | exact qI (hq _ (Eqv.rf I)) (by unfold aSure; (repeat' split) <;> first | rfl | (exfalso; omega)) | exact qI (hq _ hJ) (by unfold aSure; (repeat' split) <;> first | rfl | (exfalso; omega)))
    · refine Wp.iload_n rfl dX12_sure_14 ?_
      refine Wp.callS (As := [_]) (ls0 := [_]) (bd := (0, 0)) (bd' := (0, 0)) dX12_sure_15 kmX12_isTongue lkX12_147 (by decide) (by decide) (Nat.le_of_ble_eq_true rfl) rfl rfl (Nat.le_of_ble_eq_true rfl) rfl ?_
      refine ct_X12_isTongue (by omega) ?_
      show Wp _ _ _ (_ :: _) _ _ _
      refine Wp.if_eqB (tgt := 37) dX12_sure_18 (by decide) (fun c18 => ?_) (fun c18 => ?_)
      · refine Wp.sipush rfl dX12_sure_37 ?_
        refine Wp.ireturn dX12_sure_40 rfl ?_
        first | (exfalso; omega) | (first | exact qI (hq _ (Eqv.rf I)) (by unfold aSure; (repeat' split) <;> first | rfl | (exfalso; omega)) | exact qI (hq _ hJ) (by unfold aSure; (repeat' split) <;> first | rfl | (exfalso; omega)))
      · refine Wp.iload rfl dX12_sure_21 ?_
        refine Wp.callS (As := [_]) (ls0 := [_]) (bd := (0, 0)) (bd' := (0, 0)) dX12_sure_23 kmX12_isTongue lkX12_147 (by decide) (by decide) (Nat.le_of_ble_eq_true rfl) rfl rfl (Nat.le_of_ble_eq_true rfl) rfl ?_
        refine ct_X12_isTongue (by omega) ?_
        show Wp _ _ _ (_ :: _) _ _ _
        refine Wp.if_eqB (tgt := 37) dX12_sure_26 (by decide) (fun c26 => ?_) (fun c26 => ?_)
        · refine Wp.sipush rfl dX12_sure_37 ?_
          refine Wp.ireturn dX12_sure_40 rfl ?_
          first | (exfalso; omega) | (first | exact qI (hq _ (Eqv.rf I)) (by unfold aSure; (repeat' split) <;> first | rfl | (exfalso; omega)) | exact qI (hq _ hJ) (by unfold aSure; (repeat' split) <;> first | rfl | (exfalso; omega)))
        · refine Wp.iload rfl dX12_sure_29 ?_
          refine Wp.callS (As := [_]) (ls0 := [_]) (bd := (0, 0)) (bd' := (0, 0)) dX12_sure_31 kmX12_isWord lkX12_182 (by decide) (by decide) (Nat.le_of_ble_eq_true rfl) rfl rfl (Nat.le_of_ble_eq_true rfl) rfl ?_
          refine ct_X12_isWord (by omega) ?_
          show Wp _ _ _ (_ :: _) _ _ _
          refine Wp.if_neB (tgt := 41) dX12_sure_34 (by decide) (fun c34 => ?_) (fun c34 => ?_)
          · refine Wp.iload_n rfl dX12_sure_41 ?_
            refine Wp.iload_n rfl dX12_sure_42 ?_
            refine Wp.iload rfl dX12_sure_43 ?_
            refine Wp.callS (As := [_, _, _]) (ls0 := [_, _, _]) (bd := (0, 0)) (bd' := (0, 0)) dX12_sure_45 kmX12_areApart lkX12_208 (by decide) (by decide) (Nat.le_of_ble_eq_true rfl) rfl rfl (Nat.le_of_ble_eq_true rfl) rfl ?_
            refine ct_X12_areApart (by omega) (by omega) (by omega) ?_
            show Wp _ _ _ (_ :: _) _ _ _
            refine Wp.if_eqB (tgt := 62) dX12_sure_48 (by decide) (fun c48 => ?_) (fun c48 => ?_)
            · refine Wp.sipush rfl dX12_sure_62 ?_
              refine Wp.ireturn dX12_sure_65 rfl ?_
              first | (exfalso; omega) | (first | exact qI (hq _ (Eqv.rf I)) (by unfold aSure; (repeat' split) <;> first | rfl | (exfalso; omega)) | exact qI (hq _ hJ) (by unfold aSure; (repeat' split) <;> first | rfl | (exfalso; omega)))
            · refine Wp.iload rfl dX12_sure_51 ?_
              refine Wp.i2l (by first | omega | exact bI_R _ | exact cmp_R _ _ | assumption) dX12_sure_53 ?_
              refine Wp.lconst0 dX12_sure_54 ?_
              refine Wp.lconst1 dX12_sure_55 ?_
              refine Wp.callS (As := [_, _, _]) (ls0 := [_, _, _, _, _, _]) (bd := (0, 0)) (bd' := (0, 0)) dX12_sure_56 kmX12_in lkX12_100 (by decide) (by decide) (Nat.le_of_ble_eq_true rfl) rfl rfl (Nat.le_of_ble_eq_true rfl) rfl ?_
              refine ct_X12_in (a := 0) (b := 1) (ofI_toInt hwh) rfl rfl ?_
              show Wp _ _ _ (_ :: _) _ _ _
              refine Wp.if_neB (tgt := 66) dX12_sure_59 (by decide) (fun c59 => ?_) (fun c59 => ?_)
              · refine Wp.aload_n rfl dX12_sure_66 ?_
                refine Wp.iload_n rfl dX12_sure_67 ?_
                refine Wp.iload_n rfl dX12_sure_68 ?_
                refine Wp.iload_n rfl dX12_sure_69 ?_
                refine Wp.iload rfl dX12_sure_70 ?_
                refine Wp.iload rfl dX12_sure_72 ?_
                refine Wp.callV (As := [_, _, _, _, _]) (ls0 := [_, _, _, _, _, _, _, _, _, _]) (bd := (0, 0)) (bd' := (0, 0)) dX12_sure_74 kmX12_findSure lkX12_222 (by decide) (by decide) (Nat.le_of_ble_eq_true rfl) (by first | rfl | exact kd_b0 _ | exact kd_b1 _ | exact kd_b2 _ | exact kd_b3 _ | exact kd_b4 _ | exact kd_b5 _ | exact kd_b6 _) (by omega) rfl rfl (Nat.le_of_ble_eq_true rfl) rfl ?_
                refine ct_X12_findSure hn hFx hW (by omega) (by omega) (by omega) (by omega) (by omega) (by omega) (by omega) (fun J hJ hJ1 hJ2 hJ3 => ?_)
                show Wp _ _ _ _ _ _ _
                refine Wp.aload_n rfl dX12_sure_77 ?_
                refine Wp.gi (kz := 19) rfl dX12_sure_78 fkX12_216 (by first | rfl | exact kd_b0 _ | exact kd_b1 _ | exact kd_b2 _ | exact kd_b3 _ | exact kd_b4 _ | exact kd_b5 _ | exact kd_b6 _) (by omega) ?_
                rw [hJ1]
                refine Wp.aload_n rfl dX12_sure_81 ?_
                refine Wp.gi (kz := 20) rfl dX12_sure_82 fkX12_219 (by first | rfl | exact kd_b0 _ | exact kd_b1 _ | exact kd_b2 _ | exact kd_b3 _ | exact kd_b4 _ | exact kd_b5 _ | exact kd_b6 _) (by omega) ?_
                rw [hJ2]
                rw [show upr I (I 32 11) a w mm c t = ((upr I (I 32 11) a w mm c t).toNat : Int) by omega, show lwr I (I 32 11) a w mm c t = ((lwr I (I 32 11) a w mm c t).toNat : Int) by omega]
                refine Wp.callS (As := [_, _]) (ls0 := [_, _, _, _, _]) (bd := (0, 0)) (bd' := (0, 0)) dX12_sure_85 kmX12_gcd lkX12_226 (by decide) (by decide) (Nat.le_of_ble_eq_true rfl) rfl rfl (Nat.le_of_ble_eq_true rfl) rfl ?_
                refine ct_X12_gcd (by omega) (by omega) ?_
                show Wp _ _ _ (_ :: _) _ _ _
                refine Wp.istore (ls' := [_, _, _, _, _, _, _, _]) dX12_sure_88 (by decide) rfl ?_
                refine Wp.iload rfl dX12_sure_90 ?_
                refine Wp.if_ne (tgt := 105) dX12_sure_92 (by decide) (by first | omega | exact bI_R _ | exact cmp_R _ _ | assumption) (fun c92 => ?_) (fun c92 => ?_)
                · refine Wp.aload_n rfl dX12_sure_105 ?_
                  refine Wp.gi (kz := 20) rfl dX12_sure_106 fkX12_219 (by first | rfl | exact kd_b0 _ | exact kd_b1 _ | exact kd_b2 _ | exact kd_b3 _ | exact kd_b4 _ | exact kd_b5 _ | exact kd_b6 _) (by omega) ?_
                  rw [hJ2]
                  refine Wp.iload rfl dX12_sure_109 ?_
                  refine Wp.idiv (by omega) (by omega) (by omega) dX12_sure_111 ?_
                  refine Wp.ireturn dX12_sure_112 rfl ?_
                  first | (exfalso; omega) | (first | exact qI (hq _ (Eqv.rf I)) (by unfold aSure; (repeat' split) <;> first | rfl | (exfalso; omega)) | exact qI (hq _ hJ) (by unfold aSure; (repeat' split) <;> first | rfl | (exfalso; omega)))
                · refine Wp.aload_n rfl dX12_sure_95 ?_
                  refine Wp.gi (kz := 19) rfl dX12_sure_96 fkX12_216 (by first | rfl | exact kd_b0 _ | exact kd_b1 _ | exact kd_b2 _ | exact kd_b3 _ | exact kd_b4 _ | exact kd_b5 _ | exact kd_b6 _) (by omega) ?_
                  rw [hJ1]
                  refine Wp.iload rfl dX12_sure_99 ?_
                  refine Wp.idiv (by omega) (by omega) (by omega) dX12_sure_101 ?_
                  refine Wp.goto (tgt := 112) dX12_sure_102 (by decide) ?_
                  refine Wp.ireturn dX12_sure_112 rfl ?_
                  first | (exfalso; omega) | (first | exact qI (hq _ (Eqv.rf I)) (by unfold aSure; (repeat' split) <;> first | rfl | (exfalso; omega)) | exact qI (hq _ hJ) (by unfold aSure; (repeat' split) <;> first | rfl | (exfalso; omega)))
              · refine Wp.sipush rfl dX12_sure_62 ?_
                refine Wp.ireturn dX12_sure_65 rfl ?_
                first | (exfalso; omega) | (first | exact qI (hq _ (Eqv.rf I)) (by unfold aSure; (repeat' split) <;> first | rfl | (exfalso; omega)) | exact qI (hq _ hJ) (by unfold aSure; (repeat' split) <;> first | rfl | (exfalso; omega)))
          · refine Wp.sipush rfl dX12_sure_37 ?_
            refine Wp.ireturn dX12_sure_40 rfl ?_
            first | (exfalso; omega) | (first | exact qI (hq _ (Eqv.rf I)) (by unfold aSure; (repeat' split) <;> first | rfl | (exfalso; omega)) | exact qI (hq _ hJ) (by unfold aSure; (repeat' split) <;> first | rfl | (exfalso; omega)))
end

