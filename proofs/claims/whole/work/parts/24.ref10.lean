/-! ===== the reference: promises 15, 20, 21; what leads ===== -/
def anyB (p : Nat → Bool) : Nat → Bool
  | 0 => false
  | k + 1 => anyB p k || p k
theorem anyB_iff (p : Nat → Bool) : ∀ k, anyB p k = true ↔ ∃ j, j < k ∧ p j = true
  | 0 => by simp [anyB]
  | k + 1 => by
    simp only [anyB, Bool.or_eq_true, anyB_iff p k]
    constructor
    · rintro (⟨j, h1, h2⟩ | h)
      · exact ⟨j, by omega, h2⟩
      · exact ⟨k, by omega, h⟩
    · rintro ⟨j, h1, h2⟩
      rcases Nat.lt_or_ge j k with h | h
      · exact Or.inl ⟨j, h, h2⟩
      · have : j = k := by omega
        subst this; exact Or.inr h2
theorem anyB_cg {p q : Nat → Bool} : ∀ k, (∀ j, j < k → p j = q j) → anyB p k = anyB q k
  | 0, _ => rfl
  | k + 1, h => by simp only [anyB, anyB_cg k (fun j hj => h j (by omega)), h k (by omega)]
def lpT (I : Nat → Int → Int) (lk a b w : Int) : Nat → Int
  | 0 => 0
  | k + 1 => lpT I lk a b w k + (if (gv I lk a w b).getLsbD k = true ∧ 0 ≤ ent I lk b k a ∧ ¬ (gv I lk b k a).getLsbD w.toNat = true then 1 else 0)
def lpN (I : Nat → Int → Int) (lk a b : Int) : Nat → Int
  | 0 => 0
  | w + 1 => lpN I lk a b w + lpT I lk a b w 60
def aLop (I : Nat → Int → Int) (lk a b : Int) : Int := if tgP a ∧ tgP b then (if a = b then -1002 else lpN I lk a b 60) else -1001
def hsS (I : Nat → Int → Int) (lk a w b v : Int) : Int := if ent I lk a w b < 0 then 0 else if (gv I lk a w b).getLsbD v.toNat = true then 1 else 2
def frO (I : Nat → Int → Int) (lk a w b v : Int) : Int := max (hsS I lk a w b v) (hsS I lk b v a w)
def frN (I : Nat → Int → Int) (lk : Int) (A W B V : Int → Int) : Nat → Int
  | 0 => 0
  | k + 1 => frN I lk A W B V k + (if frO I lk (A k) (W k) (B k) (V k) = 2 then 1 else 0)
def aFriends (I : Nat → Int → Int) (lk : Int) (A W B V : Int → Int) (c i : Int) : Int := if -1 ≤ i ∧ i < c then (if i = -1 then frN I lk A W B V c.toNat else frO I lk (A i) (W i) (B i) (V i)) else -1002
def alk (A W B V : Int → Int) (a w b v : Int) : Nat → Bool := anyB (fun j => decide ((A j = a ∧ W j = w ∧ B j = b ∧ V j = v) ∨ (A j = b ∧ W j = v ∧ B j = a ∧ V j = w)))
def aAlike (A W B V : Int → Int) (c a w b v : Int) : Int := if tgP a ∧ wdP w ∧ tgP b ∧ wdP v then (if a = b then -1002 else if alk A W B V a w b v c.toNat = true then -1003 else if c = 30 then -1004 else c + 1) else -1001
abbrev okAlike (A W B V : Int → Int) (c a w b v : Int) : Prop := (tgP a ∧ wdP w ∧ tgP b ∧ wdP v) ∧ (a ≠ b ∧ ¬ alk A W B V a w b v c.toNat = true) ∧ c ≠ 30
/-- pairs that look alike, as the arrays have them -/
def AkW (A W B V : Int → Int) (c : Int) : Prop := 0 ≤ c ∧ c ≤ 30 ∧ ∀ j : Nat, (j : Int) < c → tgP (A j) ∧ wdP (W j) ∧ tgP (B j) ∧ wdP (V j)
def ldB (I : Nat → Int → Int) (lk a b : Int) : Bool := anyB (fun j => decide (bitI lk j ∧ I 35 j ≤ I 32 9 ∧ I 33 j = a ∧ I 34 j = b)) (I 32 0).toNat
def hsB (I : Nat → Int → Int) (lk a w : Int) : Bool := anyB (fun j => decide (bitI lk j ∧ I 35 j ≤ I 32 9 ∧ I 33 j = a ∧ 0 < I 36 (60 * j + w))) (I 32 0).toNat
section
variable {I : Nat → Int → Int} {L : Nat → Int → BitVec 64} {R : Nat → Int → Option Nat} {n : Nat} {m : Mm} {Q : Option AV → Mm → Prop}
theorem lpT_t {lk a b w n0 : Int} {k : Nat} (h1 : (gv I lk a w b).getLsbD k = true) (h2 : 0 ≤ ent I lk b k a) (h3 : (gv I lk b k a).getLsbD w.toNat = false) : n0 + lpT I lk a b w k + 1 = n0 + lpT I lk a b w (k + 1) := by
  simp only [lpT]; rw [if_pos ⟨h1, h2, by rw [h3]; decide⟩]; omega
theorem lpT_f {lk a b w n0 : Int} {k : Nat} (h : ¬ ((gv I lk a w b).getLsbD k = true ∧ 0 ≤ ent I lk b k a ∧ ¬ (gv I lk b k a).getLsbD w.toNat = true)) : n0 + lpT I lk a b w k + 0 = n0 + lpT I lk a b w (k + 1) := by
  simp only [lpT]; rw [if_neg h]; omega
theorem ct_X12_lopsided {a b : Int} (hn : 57 ≤ n) (hFx : Fx R) (hW : RW I) (ha : inR a) (hb : inR b) (hq : Q (some (vi (aLop I (I 32 11) a b))) (I, L, R, n)) : Wp mX12_lopsided 0 [some (vr (some 32)), some (vi a), some (vi b), none, none, none, none, none, none] [] (I, L, R, n) (0, 0) Q := by
  have hEB : ∀ w : Int, 0 ≤ w → w < 60 → ∀ x y : Int, -1 ≤ ent I (I 32 11) x w y ∧ ent I (I 32 11) x w y < 480 := fun w h0 h1 x y => by
    rcases hW.entOk (lk := I 32 11) (a := x) (b := y) h0 h1 with h | h
    · rw [h]; omega
    · have := h.1; omega
  have li : ∀ (w : Nat) (n0 : Int) (hw : w < 60) (hc' : ∀ (x7 x8 : Option AV), Wp mX12_lopsided 126 [some (vr (some 32)), some (vi a), some (vi b), some (vi (n0 + lpT I (I 32 11) a b w 60)), some (vi w), some (vl (gv I (I 32 11) a w b)), none, x7, x8] [] (I, L, R, n) (0, 0) Q) , ∀ (tt k : Nat) (z : Int) (acc : Int) (x8 : Option AV), k + tt = 60 → z = k → acc = n0 + lpT I (I 32 11) a b w k → Wp mX12_lopsided 52 [some (vr (some 32)), some (vi a), some (vi b), some (vi acc), some (vi w), some (vl (gv I (I 32 11) a w b)), none, some (vi z), x8] [] (I, L, R, n) (0, 0) Q := by
    intro w n0 hw hc'
    intro tt
    induction tt with
    | zero =>
      intro k z acc x8 hkt hz e0
      obtain rfl : k = 60 := by omega
      refine Wp.iload rfl dX12_lopsided_52 ?_
      refine Wp.bipush rfl dX12_lopsided_54 ?_
      refine Wp.icmp_ge (tgt := 126) dX12_lopsided_56 (by decide) (by first | omega | exact bI_R _ | exact cmp_R _ _ | assumption) (by first | omega | exact bI_R _ | exact cmp_R _ _ | assumption) (fun c56 => ?_) (fun c56 => ?_)
      · subst e0; exact hc' _ _
      · exfalso; omega
    | succ tt ih =>
      intro k z acc x8 hkt hz e0
      subst hz
      subst e0
      have hEk := hEB k (by omega) (by omega) b a
      refine Wp.iload rfl dX12_lopsided_52 ?_
      refine Wp.bipush rfl dX12_lopsided_54 ?_
      refine Wp.icmp_ge (tgt := 126) dX12_lopsided_56 (by decide) (by first | omega | exact bI_R _ | exact cmp_R _ _ | assumption) (by first | omega | exact bI_R _ | exact cmp_R _ _ | assumption) (fun c56 => ?_) (fun c56 => ?_)
      · exfalso; omega
      · refine Wp.lload rfl dX12_lopsided_59 ?_
        refine Wp.iload rfl dX12_lopsided_61 ?_
        refine Wp.lshr (by omega) (by omega) dX12_lopsided_63 ?_
        refine Wp.lconst1 dX12_lopsided_64 ?_
        refine Wp.land dX12_lopsided_65 ?_
        refine Wp.lconst1 dX12_lopsided_66 ?_
        refine Wp.lcmp dX12_lopsided_67 ?_
        refine Wp.if_neC (tgt := 86) dX12_lopsided_68 (by decide) (fun c68 => ?_) (fun c68 => ?_)
        · refine Wp.iconst dX12_lopsided_86 ?_
          refine Wp.istore (ls' := [_, _, _, _, _, _, _, _, _]) dX12_lopsided_87 (by decide) rfl ?_
          refine Wp.iload_n rfl dX12_lopsided_89 ?_
          refine Wp.iload rfl dX12_lopsided_90 ?_
          refine Wp.if_eq (tgt := 117) dX12_lopsided_92 (by decide) (by first | omega | exact bI_R _ | exact cmp_R _ _ | assumption) (fun c92 => ?_) (fun c92 => ?_)
          · refine Wp.iconst dX12_lopsided_117 ?_
            refine Wp.iadd dX12_lopsided_118 ?_
            refine Wp.istore_n (ls' := [_, _, _, _, _, _, _, _, _]) dX12_lopsided_119 (by decide) rfl ?_
            refine Wp.iinc (ls' := [_, _, _, _, _, _, _, _, _]) rfl dX12_lopsided_120 (by decide) rfl ?_
            refine Wp.goto (tgt := 52) dX12_lopsided_123 (by decide) ?_
            first | exact ih (k + 1) _ _ _ (by omega) (by omega) (lpT_t ((b_s1 (by omega)).mp c68) (by omega) ((b_s0 (by omega)).mp c110)) | exact ih (k + 1) _ _ _ (by omega) (by omega) (lpT_f (fun q => c68 ((b_s1 (by omega)).mpr q.1))) | exact ih (k + 1) _ _ _ (by omega) (by omega) (lpT_f (fun q => absurd q.2.1 (by omega))) | exact ih (k + 1) _ _ _ (by omega) (by omega) (lpT_f (fun q => c110 ((b_s0 (by omega)).mpr (Bool.eq_false_iff.mpr q.2.2)))) | (exfalso; omega)
          · refine Wp.aload_n rfl dX12_lopsided_95 ?_
            refine Wp.iload_n rfl dX12_lopsided_96 ?_
            refine Wp.iload rfl dX12_lopsided_97 ?_
            refine Wp.iload_n rfl dX12_lopsided_99 ?_
            refine Wp.callV (As := [_, _, _]) (ls0 := [_, _, _, _, _, _, _, _]) (bd := (0, 0)) (bd' := (0, 0)) dX12_lopsided_100 kmX12_giving lkX12_191 (by decide) (by decide) (Nat.le_of_ble_eq_true rfl) (by first | rfl | exact kd_b0 _ | exact kd_b1 _ | exact kd_b2 _ | exact kd_b3 _ | exact kd_b4 _ | exact kd_b5 _ | exact kd_b6 _) (by omega) rfl rfl (Nat.le_of_ble_eq_true rfl) rfl ?_
            refine ct_X12_giving hn hFx hW (by omega) (by omega) (by omega) (by omega) ?_
            show Wp _ _ _ (_ :: _) _ _ _
            refine Wp.iload rfl dX12_lopsided_103 ?_
            refine Wp.lshr (by omega) (by omega) dX12_lopsided_105 ?_
            refine Wp.lconst1 dX12_lopsided_106 ?_
            refine Wp.land dX12_lopsided_107 ?_
            refine Wp.lconst0 dX12_lopsided_108 ?_
            refine Wp.lcmp dX12_lopsided_109 ?_
            refine Wp.if_neC (tgt := 117) dX12_lopsided_110 (by decide) (fun c110 => ?_) (fun c110 => ?_)
            · refine Wp.iconst dX12_lopsided_117 ?_
              refine Wp.iadd dX12_lopsided_118 ?_
              refine Wp.istore_n (ls' := [_, _, _, _, _, _, _, _, _]) dX12_lopsided_119 (by decide) rfl ?_
              refine Wp.iinc (ls' := [_, _, _, _, _, _, _, _, _]) rfl dX12_lopsided_120 (by decide) rfl ?_
              refine Wp.goto (tgt := 52) dX12_lopsided_123 (by decide) ?_
              first | exact ih (k + 1) _ _ _ (by omega) (by omega) (lpT_t ((b_s1 (by omega)).mp c68) (by omega) ((b_s0 (by omega)).mp c110)) | exact ih (k + 1) _ _ _ (by omega) (by omega) (lpT_f (fun q => c68 ((b_s1 (by omega)).mpr q.1))) | exact ih (k + 1) _ _ _ (by omega) (by omega) (lpT_f (fun q => absurd q.2.1 (by omega))) | exact ih (k + 1) _ _ _ (by omega) (by omega) (lpT_f (fun q => c110 ((b_s0 (by omega)).mpr (Bool.eq_false_iff.mpr q.2.2)))) | (exfalso; omega)
            · refine Wp.iconst dX12_lopsided_113 ?_
              refine Wp.goto (tgt := 118) dX12_lopsided_114 (by decide) ?_
              refine Wp.iadd dX12_lopsided_118 ?_
              refine Wp.istore_n (ls' := [_, _, _, _, _, _, _, _, _]) dX12_lopsided_119 (by decide) rfl ?_
              refine Wp.iinc (ls' := [_, _, _, _, _, _, _, _, _]) rfl dX12_lopsided_120 (by decide) rfl ?_
              refine Wp.goto (tgt := 52) dX12_lopsided_123 (by decide) ?_
              first | exact ih (k + 1) _ _ _ (by omega) (by omega) (lpT_t ((b_s1 (by omega)).mp c68) (by omega) ((b_s0 (by omega)).mp c110)) | exact ih (k + 1) _ _ _ (by omega) (by omega) (lpT_f (fun q => c68 ((b_s1 (by omega)).mpr q.1))) | exact ih (k + 1) _ _ _ (by omega) (by omega) (lpT_f (fun q => absurd q.2.1 (by omega))) | exact ih (k + 1) _ _ _ (by omega) (by omega) (lpT_f (fun q => c110 ((b_s0 (by omega)).mpr (Bool.eq_false_iff.mpr q.2.2)))) | (exfalso; omega)
        · refine Wp.aload_n rfl dX12_lopsided_71 ?_
          refine Wp.iload_n rfl dX12_lopsided_72 ?_
          refine Wp.iload rfl dX12_lopsided_73 ?_
          refine Wp.iload_n rfl dX12_lopsided_75 ?_
          refine Wp.callV (As := [_, _, _]) (ls0 := [_, _, _, _, _, _, _]) (bd := (0, 0)) (bd' := (0, 0)) dX12_lopsided_76 kmX12_entryOf lkX12_174 (by decide) (by decide) (Nat.le_of_ble_eq_true rfl) (by first | rfl | exact kd_b0 _ | exact kd_b1 _ | exact kd_b2 _ | exact kd_b3 _ | exact kd_b4 _ | exact kd_b5 _ | exact kd_b6 _) (by omega) rfl rfl (Nat.le_of_ble_eq_true rfl) rfl ?_
          refine ct_X12_entryOf hn hFx hW (by omega) (by omega) (by omega) (by omega) ?_
          show Wp _ _ _ (_ :: _) _ _ _
          refine Wp.if_lt (tgt := 86) dX12_lopsided_79 (by decide) (by first | omega | exact bI_R _ | exact cmp_R _ _ | assumption) (fun c79 => ?_) (fun c79 => ?_)
          · refine Wp.iconst dX12_lopsided_86 ?_
            refine Wp.istore (ls' := [_, _, _, _, _, _, _, _, _]) dX12_lopsided_87 (by decide) rfl ?_
            refine Wp.iload_n rfl dX12_lopsided_89 ?_
            refine Wp.iload rfl dX12_lopsided_90 ?_
            refine Wp.if_eq (tgt := 117) dX12_lopsided_92 (by decide) (by first | omega | exact bI_R _ | exact cmp_R _ _ | assumption) (fun c92 => ?_) (fun c92 => ?_)
            · refine Wp.iconst dX12_lopsided_117 ?_
              refine Wp.iadd dX12_lopsided_118 ?_
              refine Wp.istore_n (ls' := [_, _, _, _, _, _, _, _, _]) dX12_lopsided_119 (by decide) rfl ?_
              refine Wp.iinc (ls' := [_, _, _, _, _, _, _, _, _]) rfl dX12_lopsided_120 (by decide) rfl ?_
              refine Wp.goto (tgt := 52) dX12_lopsided_123 (by decide) ?_
              first | exact ih (k + 1) _ _ _ (by omega) (by omega) (lpT_t ((b_s1 (by omega)).mp c68) (by omega) ((b_s0 (by omega)).mp c110)) | exact ih (k + 1) _ _ _ (by omega) (by omega) (lpT_f (fun q => c68 ((b_s1 (by omega)).mpr q.1))) | exact ih (k + 1) _ _ _ (by omega) (by omega) (lpT_f (fun q => absurd q.2.1 (by omega))) | exact ih (k + 1) _ _ _ (by omega) (by omega) (lpT_f (fun q => c110 ((b_s0 (by omega)).mpr (Bool.eq_false_iff.mpr q.2.2)))) | (exfalso; omega)
            · refine Wp.aload_n rfl dX12_lopsided_95 ?_
              refine Wp.iload_n rfl dX12_lopsided_96 ?_
              refine Wp.iload rfl dX12_lopsided_97 ?_
              refine Wp.iload_n rfl dX12_lopsided_99 ?_
              refine Wp.callV (As := [_, _, _]) (ls0 := [_, _, _, _, _, _, _, _]) (bd := (0, 0)) (bd' := (0, 0)) dX12_lopsided_100 kmX12_giving lkX12_191 (by decide) (by decide) (Nat.le_of_ble_eq_true rfl) (by first | rfl | exact kd_b0 _ | exact kd_b1 _ | exact kd_b2 _ | exact kd_b3 _ | exact kd_b4 _ | exact kd_b5 _ | exact kd_b6 _) (by omega) rfl rfl (Nat.le_of_ble_eq_true rfl) rfl ?_
              refine ct_X12_giving hn hFx hW (by omega) (by omega) (by omega) (by omega) ?_
              show Wp _ _ _ (_ :: _) _ _ _
              refine Wp.iload rfl dX12_lopsided_103 ?_
              refine Wp.lshr (by omega) (by omega) dX12_lopsided_105 ?_
              refine Wp.lconst1 dX12_lopsided_106 ?_
              refine Wp.land dX12_lopsided_107 ?_
              refine Wp.lconst0 dX12_lopsided_108 ?_
              refine Wp.lcmp dX12_lopsided_109 ?_
              refine Wp.if_neC (tgt := 117) dX12_lopsided_110 (by decide) (fun c110 => ?_) (fun c110 => ?_)
              · refine Wp.iconst dX12_lopsided_117 ?_
                refine Wp.iadd dX12_lopsided_118 ?_
                refine Wp.istore_n (ls' := [_, _, _, _, _, _, _, _, _]) dX12_lopsided_119 (by decide) rfl ?_
                refine Wp.iinc (ls' := [_, _, _, _, _, _, _, _, _]) rfl dX12_lopsided_120 (by decide) rfl ?_
                refine Wp.goto (tgt := 52) dX12_lopsided_123 (by decide) ?_
                first | exact ih (k + 1) _ _ _ (by omega) (by omega) (lpT_t ((b_s1 (by omega)).mp c68) (by omega) ((b_s0 (by omega)).mp c110)) | exact ih (k + 1) _ _ _ (by omega) (by omega) (lpT_f (fun q => c68 ((b_s1 (by omega)).mpr q.1))) | exact ih (k + 1) _ _ _ (by omega) (by omega) (lpT_f (fun q => absurd q.2.1 (by omega))) | exact ih (k + 1) _ _ _ (by omega) (by omega) (lpT_f (fun q => c110 ((b_s0 (by omega)).mpr (Bool.eq_false_iff.mpr q.2.2)))) | (exfalso; omega)
              · refine Wp.iconst dX12_lopsided_113 ?_
                refine Wp.goto (tgt := 118) dX12_lopsided_114 (by decide) ?_
                refine Wp.iadd dX12_lopsided_118 ?_
                refine Wp.istore_n (ls' := [_, _, _, _, _, _, _, _, _]) dX12_lopsided_119 (by decide) rfl ?_
                refine Wp.iinc (ls' := [_, _, _, _, _, _, _, _, _]) rfl dX12_lopsided_120 (by decide) rfl ?_
                refine Wp.goto (tgt := 52) dX12_lopsided_123 (by decide) ?_
                first | exact ih (k + 1) _ _ _ (by omega) (by omega) (lpT_t ((b_s1 (by omega)).mp c68) (by omega) ((b_s0 (by omega)).mp c110)) | exact ih (k + 1) _ _ _ (by omega) (by omega) (lpT_f (fun q => c68 ((b_s1 (by omega)).mpr q.1))) | exact ih (k + 1) _ _ _ (by omega) (by omega) (lpT_f (fun q => absurd q.2.1 (by omega))) | exact ih (k + 1) _ _ _ (by omega) (by omega) (lpT_f (fun q => c110 ((b_s0 (by omega)).mpr (Bool.eq_false_iff.mpr q.2.2)))) | (exfalso; omega)
          · refine Wp.iconst dX12_lopsided_82 ?_
            refine Wp.goto (tgt := 87) dX12_lopsided_83 (by decide) ?_
            refine Wp.istore (ls' := [_, _, _, _, _, _, _, _, _]) dX12_lopsided_87 (by decide) rfl ?_
            refine Wp.iload_n rfl dX12_lopsided_89 ?_
            refine Wp.iload rfl dX12_lopsided_90 ?_
            refine Wp.if_eq (tgt := 117) dX12_lopsided_92 (by decide) (by first | omega | exact bI_R _ | exact cmp_R _ _ | assumption) (fun c92 => ?_) (fun c92 => ?_)
            · refine Wp.iconst dX12_lopsided_117 ?_
              refine Wp.iadd dX12_lopsided_118 ?_
              refine Wp.istore_n (ls' := [_, _, _, _, _, _, _, _, _]) dX12_lopsided_119 (by decide) rfl ?_
              refine Wp.iinc (ls' := [_, _, _, _, _, _, _, _, _]) rfl dX12_lopsided_120 (by decide) rfl ?_
              refine Wp.goto (tgt := 52) dX12_lopsided_123 (by decide) ?_
              first | exact ih (k + 1) _ _ _ (by omega) (by omega) (lpT_t ((b_s1 (by omega)).mp c68) (by omega) ((b_s0 (by omega)).mp c110)) | exact ih (k + 1) _ _ _ (by omega) (by omega) (lpT_f (fun q => c68 ((b_s1 (by omega)).mpr q.1))) | exact ih (k + 1) _ _ _ (by omega) (by omega) (lpT_f (fun q => absurd q.2.1 (by omega))) | exact ih (k + 1) _ _ _ (by omega) (by omega) (lpT_f (fun q => c110 ((b_s0 (by omega)).mpr (Bool.eq_false_iff.mpr q.2.2)))) | (exfalso; omega)
            · refine Wp.aload_n rfl dX12_lopsided_95 ?_
              refine Wp.iload_n rfl dX12_lopsided_96 ?_
              refine Wp.iload rfl dX12_lopsided_97 ?_
              refine Wp.iload_n rfl dX12_lopsided_99 ?_
              refine Wp.callV (As := [_, _, _]) (ls0 := [_, _, _, _, _, _, _, _]) (bd := (0, 0)) (bd' := (0, 0)) dX12_lopsided_100 kmX12_giving lkX12_191 (by decide) (by decide) (Nat.le_of_ble_eq_true rfl) (by first | rfl | exact kd_b0 _ | exact kd_b1 _ | exact kd_b2 _ | exact kd_b3 _ | exact kd_b4 _ | exact kd_b5 _ | exact kd_b6 _) (by omega) rfl rfl (Nat.le_of_ble_eq_true rfl) rfl ?_
              refine ct_X12_giving hn hFx hW (by omega) (by omega) (by omega) (by omega) ?_
              show Wp _ _ _ (_ :: _) _ _ _
              refine Wp.iload rfl dX12_lopsided_103 ?_
              refine Wp.lshr (by omega) (by omega) dX12_lopsided_105 ?_
              refine Wp.lconst1 dX12_lopsided_106 ?_
              refine Wp.land dX12_lopsided_107 ?_
              refine Wp.lconst0 dX12_lopsided_108 ?_
              refine Wp.lcmp dX12_lopsided_109 ?_
              refine Wp.if_neC (tgt := 117) dX12_lopsided_110 (by decide) (fun c110 => ?_) (fun c110 => ?_)
              · refine Wp.iconst dX12_lopsided_117 ?_
                refine Wp.iadd dX12_lopsided_118 ?_
                refine Wp.istore_n (ls' := [_, _, _, _, _, _, _, _, _]) dX12_lopsided_119 (by decide) rfl ?_
                refine Wp.iinc (ls' := [_, _, _, _, _, _, _, _, _]) rfl dX12_lopsided_120 (by decide) rfl ?_
                refine Wp.goto (tgt := 52) dX12_lopsided_123 (by decide) ?_
                first | exact ih (k + 1) _ _ _ (by omega) (by omega) (lpT_t ((b_s1 (by omega)).mp c68) (by omega) ((b_s0 (by omega)).mp c110)) | exact ih (k + 1) _ _ _ (by omega) (by omega) (lpT_f (fun q => c68 ((b_s1 (by omega)).mpr q.1))) | exact ih (k + 1) _ _ _ (by omega) (by omega) (lpT_f (fun q => absurd q.2.1 (by omega))) | exact ih (k + 1) _ _ _ (by omega) (by omega) (lpT_f (fun q => c110 ((b_s0 (by omega)).mpr (Bool.eq_false_iff.mpr q.2.2)))) | (exfalso; omega)
              · refine Wp.iconst dX12_lopsided_113 ?_
                refine Wp.goto (tgt := 118) dX12_lopsided_114 (by decide) ?_
                refine Wp.iadd dX12_lopsided_118 ?_
                refine Wp.istore_n (ls' := [_, _, _, _, _, _, _, _, _]) dX12_lopsided_119 (by decide) rfl ?_
                refine Wp.iinc (ls' := [_, _, _, _, _, _, _, _, _]) rfl dX12_lopsided_120 (by decide) rfl ?_
                refine Wp.goto (tgt := 52) dX12_lopsided_123 (by decide) ?_
                first | exact ih (k + 1) _ _ _ (by omega) (by omega) (lpT_t ((b_s1 (by omega)).mp c68) (by omega) ((b_s0 (by omega)).mp c110)) | exact ih (k + 1) _ _ _ (by omega) (by omega) (lpT_f (fun q => c68 ((b_s1 (by omega)).mpr q.1))) | exact ih (k + 1) _ _ _ (by omega) (by omega) (lpT_f (fun q => absurd q.2.1 (by omega))) | exact ih (k + 1) _ _ _ (by omega) (by omega) (lpT_f (fun q => c110 ((b_s0 (by omega)).mpr (Bool.eq_false_iff.mpr q.2.2)))) | (exfalso; omega)
  have lo : ∀ (hok : tgP a ∧ tgP b ∧ a ≠ b) , ∀ (tt k : Nat) (z : Int) (acc : Int) (x5 : Option AV) (x6 : Option AV) (x7 : Option AV) (x8 : Option AV), k + tt = 60 → z = k → acc = lpN I (I 32 11) a b k → Wp mX12_lopsided 32 [some (vr (some 32)), some (vi a), some (vi b), some (vi acc), some (vi z), x5, x6, x7, x8] [] (I, L, R, n) (0, 0) Q := by
    intro hok
    intro tt
    induction tt with
    | zero =>
      intro k z acc x5 x6 x7 x8 hkt hz e0
      obtain rfl : k = 60 := by omega
      refine Wp.iload rfl dX12_lopsided_32 ?_
      refine Wp.bipush rfl dX12_lopsided_34 ?_
      refine Wp.icmp_ge (tgt := 132) dX12_lopsided_36 (by decide) (by first | omega | exact bI_R _ | exact cmp_R _ _ | assumption) (by first | omega | exact bI_R _ | exact cmp_R _ _ | assumption) (fun c36 => ?_) (fun c36 => ?_)
      · refine Wp.iload_n rfl dX12_lopsided_132 ?_
        refine Wp.ireturn dX12_lopsided_133 rfl ?_
        first | (exfalso; omega) | (exact qI hq (by unfold aLop; rw [if_pos ⟨hok.1, hok.2.1⟩, if_neg hok.2.2]; exact e0))
      · exfalso; omega
    | succ tt ih =>
      intro k z acc x5 x6 x7 x8 hkt hz e0
      subst hz
      subst e0
      have h126 : ∀ (q : Int) (x5 x6 x7 x8 : Option AV), q = lpN I (I 32 11) a b (k + 1) → Wp mX12_lopsided 126 [some (vr (some 32)), some (vi a), some (vi b), some (vi q), some (vi k), x5, x6, x7, x8] [] (I, L, R, n) (0, 0) Q := by
        intro q x5 x6 x7 x8 hqq
        refine Wp.iinc (ls' := [_, _, _, _, _, _, _, _, _]) rfl dX12_lopsided_126 (by decide) rfl ?_
        refine Wp.goto (tgt := 32) dX12_lopsided_129 (by decide) ?_
        exact ih (k + 1) _ _ _ _ _ _ (by omega) (by omega) hqq
      refine Wp.iload rfl dX12_lopsided_32 ?_
      refine Wp.bipush rfl dX12_lopsided_34 ?_
      refine Wp.icmp_ge (tgt := 132) dX12_lopsided_36 (by decide) (by first | omega | exact bI_R _ | exact cmp_R _ _ | assumption) (by first | omega | exact bI_R _ | exact cmp_R _ _ | assumption) (fun c36 => ?_) (fun c36 => ?_)
      · exfalso; omega
      · refine Wp.aload_n rfl dX12_lopsided_39 ?_
        refine Wp.iload_n rfl dX12_lopsided_40 ?_
        refine Wp.iload rfl dX12_lopsided_41 ?_
        refine Wp.iload_n rfl dX12_lopsided_43 ?_
        refine Wp.callV (As := [_, _, _]) (ls0 := [_, _, _, _, _, _, _, _]) (bd := (0, 0)) (bd' := (0, 0)) dX12_lopsided_44 kmX12_giving lkX12_191 (by decide) (by decide) (Nat.le_of_ble_eq_true rfl) (by first | rfl | exact kd_b0 _ | exact kd_b1 _ | exact kd_b2 _ | exact kd_b3 _ | exact kd_b4 _ | exact kd_b5 _ | exact kd_b6 _) (by omega) rfl rfl (Nat.le_of_ble_eq_true rfl) rfl ?_
        refine ct_X12_giving hn hFx hW (by omega) (by omega) (by omega) (by omega) ?_
        show Wp _ _ _ (_ :: _) _ _ _
        refine Wp.lstore (ls' := [_, _, _, _, _, _, _, _, _]) dX12_lopsided_47 (by decide) rfl ?_
        refine Wp.iconst dX12_lopsided_49 ?_
        refine Wp.istore (ls' := [_, _, _, _, _, _, _, _, _]) dX12_lopsided_50 (by decide) rfl ?_
        exact li k _ (by omega) (fun x7 x8 => h126 _ _ _ _ _ rfl) 60 0 _ _ _ (by omega) (by omega) (Int.add_zero _).symm
  refine Wp.iload_n rfl dX12_lopsided_0 ?_
  refine Wp.callS (As := [_]) (ls0 := [_]) (bd := (0, 0)) (bd' := (0, 0)) dX12_lopsided_1 kmX12_isTongue lkX12_147 (by decide) (by decide) (Nat.le_of_ble_eq_true rfl) rfl rfl (Nat.le_of_ble_eq_true rfl) rfl ?_
  refine ct_X12_isTongue (by omega) ?_
  show Wp _ _ _ (_ :: _) _ _ _
  refine Wp.if_eqB (tgt := 14) dX12_lopsided_4 (by decide) (fun c4 => ?_) (fun c4 => ?_)
  · refine Wp.sipush rfl dX12_lopsided_14 ?_
    refine Wp.ireturn dX12_lopsided_17 rfl ?_
    first | (exfalso; omega) | (exact qI hq (by unfold aLop; (repeat' split) <;> first | (exfalso; omega) | rfl))
  · refine Wp.iload_n rfl dX12_lopsided_7 ?_
    refine Wp.callS (As := [_]) (ls0 := [_]) (bd := (0, 0)) (bd' := (0, 0)) dX12_lopsided_8 kmX12_isTongue lkX12_147 (by decide) (by decide) (Nat.le_of_ble_eq_true rfl) rfl rfl (Nat.le_of_ble_eq_true rfl) rfl ?_
    refine ct_X12_isTongue (by omega) ?_
    show Wp _ _ _ (_ :: _) _ _ _
    refine Wp.if_neB (tgt := 18) dX12_lopsided_11 (by decide) (fun c11 => ?_) (fun c11 => ?_)
    · refine Wp.iload_n rfl dX12_lopsided_18 ?_
      refine Wp.iload_n rfl dX12_lopsided_19 ?_
      refine Wp.icmp_ne (tgt := 27) dX12_lopsided_20 (by decide) (by first | omega | exact bI_R _ | exact cmp_R _ _ | assumption) (by first | omega | exact bI_R _ | exact cmp_R _ _ | assumption) (fun c20 => ?_) (fun c20 => ?_)
      · refine Wp.iconst dX12_lopsided_27 ?_
        refine Wp.istore_n (ls' := [_, _, _, _, _, _, _, _, _]) dX12_lopsided_28 (by decide) rfl ?_
        refine Wp.iconst dX12_lopsided_29 ?_
        refine Wp.istore (ls' := [_, _, _, _, _, _, _, _, _]) dX12_lopsided_30 (by decide) rfl ?_
        exact lo ⟨by omega, by omega, by omega⟩ 60 0 _ _ _ _ _ _ (by omega) (by omega) rfl
      · refine Wp.sipush rfl dX12_lopsided_23 ?_
        refine Wp.ireturn dX12_lopsided_26 rfl ?_
        first | (exfalso; omega) | (exact qI hq (by unfold aLop; (repeat' split) <;> first | (exfalso; omega) | rfl))
    · refine Wp.sipush rfl dX12_lopsided_14 ?_
      refine Wp.ireturn dX12_lopsided_17 rfl ?_
      first | (exfalso; omega) | (exact qI hq (by unfold aLop; (repeat' split) <;> first | (exfalso; omega) | rfl))
theorem hsS_B (I : Nat → Int → Int) (lk a w b v : Int) : 0 ≤ hsS I lk a w b v ∧ hsS I lk a w b v ≤ 2 := by
  unfold hsS; (repeat' split) <;> omega
theorem ct_X12_has {a w b v : Int} (hn : 57 ≤ n) (hFx : Fx R) (hW : RW I) (ha : inR a) (hb : inR b) (hw0 : 0 ≤ w) (hw1 : w < 60) (hv0 : 0 ≤ v) (hv1 : v < 60) (hq : Q (some (vi (hsS I (I 32 11) a w b v))) (I, L, R, n)) : Wp mX12_has 0 [some (vr (some 32)), some (vi a), some (vi w), some (vi b), some (vi v)] [] (I, L, R, n) (0, 0) Q := by
  have hEB : -1 ≤ ent I (I 32 11) a w b ∧ ent I (I 32 11) a w b < 480 := by
    rcases hW.entOk (lk := I 32 11) (a := a) (b := b) hw0 hw1 with h | h
    · rw [h]; omega
    · have := h.1; omega
  refine Wp.aload_n rfl dX12_has_0 ?_
  refine Wp.iload_n rfl dX12_has_1 ?_
  refine Wp.iload_n rfl dX12_has_2 ?_
  refine Wp.iload_n rfl dX12_has_3 ?_
  refine Wp.callV (As := [_, _, _]) (ls0 := [_, _, _, _, _, _, _]) (bd := (0, 0)) (bd' := (0, 0)) dX12_has_4 kmX12_entryOf lkX12_174 (by decide) (by decide) (Nat.le_of_ble_eq_true rfl) (by first | rfl | exact kd_b0 _ | exact kd_b1 _ | exact kd_b2 _ | exact kd_b3 _ | exact kd_b4 _ | exact kd_b5 _ | exact kd_b6 _) (by omega) rfl rfl (Nat.le_of_ble_eq_true rfl) rfl ?_
  refine ct_X12_entryOf hn hFx hW (by omega) (by omega) (by omega) (by omega) ?_
  show Wp _ _ _ (_ :: _) _ _ _
  refine Wp.if_ge (tgt := 14) dX12_has_7 (by decide) (by first | omega | exact bI_R _ | exact cmp_R _ _ | assumption) (fun c7 => ?_) (fun c7 => ?_)
  · refine Wp.aload_n rfl dX12_has_14 ?_
    refine Wp.iload_n rfl dX12_has_15 ?_
    refine Wp.iload_n rfl dX12_has_16 ?_
    refine Wp.iload_n rfl dX12_has_17 ?_
    refine Wp.callV (As := [_, _, _]) (ls0 := [_, _, _, _, _, _, _, _]) (bd := (0, 0)) (bd' := (0, 0)) dX12_has_18 kmX12_giving lkX12_191 (by decide) (by decide) (Nat.le_of_ble_eq_true rfl) (by first | rfl | exact kd_b0 _ | exact kd_b1 _ | exact kd_b2 _ | exact kd_b3 _ | exact kd_b4 _ | exact kd_b5 _ | exact kd_b6 _) (by omega) rfl rfl (Nat.le_of_ble_eq_true rfl) rfl ?_
    refine ct_X12_giving hn hFx hW (by omega) (by omega) (by omega) (by omega) ?_
    show Wp _ _ _ (_ :: _) _ _ _
    refine Wp.iload rfl dX12_has_21 ?_
    refine Wp.lshr (by omega) (by omega) dX12_has_23 ?_
    refine Wp.lconst1 dX12_has_24 ?_
    refine Wp.land dX12_has_25 ?_
    refine Wp.lconst1 dX12_has_26 ?_
    refine Wp.lcmp dX12_has_27 ?_
    refine Wp.if_neC (tgt := 35) dX12_has_28 (by decide) (fun c28 => ?_) (fun c28 => ?_)
    · refine Wp.iconst dX12_has_35 ?_
      refine Wp.ireturn dX12_has_36 rfl ?_
      first | (exfalso; omega) | (first | exact qI hq (if_pos (by omega)).symm | exact qI hq (((if_neg (by omega)).trans (if_pos ((b_s1 (by omega)).mp c28))).symm) | exact qI hq (((if_neg (by omega)).trans (if_neg (fun q => c28 ((b_s1 (by omega)).mpr q)))).symm))
    · refine Wp.iconst dX12_has_31 ?_
      refine Wp.goto (tgt := 36) dX12_has_32 (by decide) ?_
      refine Wp.ireturn dX12_has_36 rfl ?_
      first | (exfalso; omega) | (first | exact qI hq (if_pos (by omega)).symm | exact qI hq (((if_neg (by omega)).trans (if_pos ((b_s1 (by omega)).mp c28))).symm) | exact qI hq (((if_neg (by omega)).trans (if_neg (fun q => c28 ((b_s1 (by omega)).mpr q)))).symm))
  · refine Wp.iconst dX12_has_10 ?_
    refine Wp.goto (tgt := 36) dX12_has_11 (by decide) ?_
    refine Wp.ireturn dX12_has_36 rfl ?_
    first | (exfalso; omega) | (first | exact qI hq (if_pos (by omega)).symm | exact qI hq (((if_neg (by omega)).trans (if_pos ((b_s1 (by omega)).mp c28))).symm) | exact qI hq (((if_neg (by omega)).trans (if_neg (fun q => c28 ((b_s1 (by omega)).mpr q)))).symm))
theorem ct_X12_friendOf {i : Int} (hn : 57 ≤ n) (hFx : Fx R) (hW : RW I) (hK : AkW (I 43) (I 44) (I 45) (I 46) (I 32 25)) (hi0 : 0 ≤ i) (hi1 : i < I 32 25) (hq : Q (some (vi (frO I (I 32 11) (I 43 i) (I 44 i) (I 45 i) (I 46 i)))) (I, L, R, n)) : Wp mX12_friendOf 0 [some (vr (some 32)), some (vi i), none, none] [] (I, L, R, n) (0, 0) Q := by
  obtain ⟨k0, k1, kj⟩ := hK
  obtain ⟨j, rfl⟩ := Int.eq_ofNat_of_zero_le hi0
  have hj := kj j hi1
  have h1 := hsS_B I (I 32 11) (I 43 j) (I 44 j) (I 45 j) (I 46 j)
  have h2 := hsS_B I (I 32 11) (I 45 j) (I 46 j) (I 43 j) (I 44 j)
  refine Wp.aload_n rfl dX12_friendOf_0 ?_
  refine Wp.aload_n rfl dX12_friendOf_1 ?_
  refine Wp.gr (kz := 26) rfl dX12_friendOf_2 fkX12_56 (by first | rfl | exact kd_b0 _ | exact kd_b1 _ | exact kd_b2 _ | exact kd_b3 _ | exact kd_b4 _ | exact kd_b5 _ | exact kd_b6 _) (by omega) (by first | exact hFx _ 26 _ rfl | assumption | exact hBk.1 | exact hBk.2.1 | exact hBk.2.2.1 | exact hBk.2.2.2.1 | exact hBk.2.2.2.2.1 | exact hBk.2.2.2.2.2) ?_
  refine Wp.iload_n rfl dX12_friendOf_5 ?_
  refine Wp.iaload dX12_friendOf_6 (by first | rfl | exact kd_b0 _ | exact kd_b1 _ | exact kd_b2 _ | exact kd_b3 _ | exact kd_b4 _ | exact kd_b5 _ | exact kd_b6 _) (by omega) (by omega) (by omega) ?_
  refine Wp.aload_n rfl dX12_friendOf_7 ?_
  refine Wp.gr (kz := 27) rfl dX12_friendOf_8 fkX12_59 (by first | rfl | exact kd_b0 _ | exact kd_b1 _ | exact kd_b2 _ | exact kd_b3 _ | exact kd_b4 _ | exact kd_b5 _ | exact kd_b6 _) (by omega) (by first | exact hFx _ 27 _ rfl | assumption | exact hBk.1 | exact hBk.2.1 | exact hBk.2.2.1 | exact hBk.2.2.2.1 | exact hBk.2.2.2.2.1 | exact hBk.2.2.2.2.2) ?_
  refine Wp.iload_n rfl dX12_friendOf_11 ?_
  refine Wp.iaload dX12_friendOf_12 (by first | rfl | exact kd_b0 _ | exact kd_b1 _ | exact kd_b2 _ | exact kd_b3 _ | exact kd_b4 _ | exact kd_b5 _ | exact kd_b6 _) (by omega) (by omega) (by omega) ?_
  refine Wp.aload_n rfl dX12_friendOf_13 ?_
  refine Wp.gr (kz := 28) rfl dX12_friendOf_14 fkX12_62 (by first | rfl | exact kd_b0 _ | exact kd_b1 _ | exact kd_b2 _ | exact kd_b3 _ | exact kd_b4 _ | exact kd_b5 _ | exact kd_b6 _) (by omega) (by first | exact hFx _ 28 _ rfl | assumption | exact hBk.1 | exact hBk.2.1 | exact hBk.2.2.1 | exact hBk.2.2.2.1 | exact hBk.2.2.2.2.1 | exact hBk.2.2.2.2.2) ?_
  refine Wp.iload_n rfl dX12_friendOf_17 ?_
  refine Wp.iaload dX12_friendOf_18 (by first | rfl | exact kd_b0 _ | exact kd_b1 _ | exact kd_b2 _ | exact kd_b3 _ | exact kd_b4 _ | exact kd_b5 _ | exact kd_b6 _) (by omega) (by omega) (by omega) ?_
  refine Wp.aload_n rfl dX12_friendOf_19 ?_
  refine Wp.gr (kz := 29) rfl dX12_friendOf_20 fkX12_65 (by first | rfl | exact kd_b0 _ | exact kd_b1 _ | exact kd_b2 _ | exact kd_b3 _ | exact kd_b4 _ | exact kd_b5 _ | exact kd_b6 _) (by omega) (by first | exact hFx _ 29 _ rfl | assumption | exact hBk.1 | exact hBk.2.1 | exact hBk.2.2.1 | exact hBk.2.2.2.1 | exact hBk.2.2.2.2.1 | exact hBk.2.2.2.2.2) ?_
  refine Wp.iload_n rfl dX12_friendOf_23 ?_
  refine Wp.iaload dX12_friendOf_24 (by first | rfl | exact kd_b0 _ | exact kd_b1 _ | exact kd_b2 _ | exact kd_b3 _ | exact kd_b4 _ | exact kd_b5 _ | exact kd_b6 _) (by omega) (by omega) (by omega) ?_
  refine Wp.callV (As := [_, _, _, _]) (ls0 := [_, _, _, _, _]) (bd := (0, 0)) (bd' := (0, 0)) dX12_friendOf_25 kmX12_has lkX12_245 (by decide) (by decide) (Nat.le_of_ble_eq_true rfl) (by first | rfl | exact kd_b0 _ | exact kd_b1 _ | exact kd_b2 _ | exact kd_b3 _ | exact kd_b4 _ | exact kd_b5 _ | exact kd_b6 _) (by omega) rfl rfl (Nat.le_of_ble_eq_true rfl) rfl ?_
  refine ct_X12_has hn hFx hW (by omega) (by omega) (by omega) (by omega) (by omega) (by omega) ?_
  show Wp _ _ _ (_ :: _) _ _ _
  refine Wp.istore_n (ls' := [_, _, _, _]) dX12_friendOf_28 (by decide) rfl ?_
  refine Wp.aload_n rfl dX12_friendOf_29 ?_
  refine Wp.aload_n rfl dX12_friendOf_30 ?_
  refine Wp.gr (kz := 28) rfl dX12_friendOf_31 fkX12_62 (by first | rfl | exact kd_b0 _ | exact kd_b1 _ | exact kd_b2 _ | exact kd_b3 _ | exact kd_b4 _ | exact kd_b5 _ | exact kd_b6 _) (by omega) (by first | exact hFx _ 28 _ rfl | assumption | exact hBk.1 | exact hBk.2.1 | exact hBk.2.2.1 | exact hBk.2.2.2.1 | exact hBk.2.2.2.2.1 | exact hBk.2.2.2.2.2) ?_
  refine Wp.iload_n rfl dX12_friendOf_34 ?_
  refine Wp.iaload dX12_friendOf_35 (by first | rfl | exact kd_b0 _ | exact kd_b1 _ | exact kd_b2 _ | exact kd_b3 _ | exact kd_b4 _ | exact kd_b5 _ | exact kd_b6 _) (by omega) (by omega) (by omega) ?_
  refine Wp.aload_n rfl dX12_friendOf_36 ?_
  refine Wp.gr (kz := 29) rfl dX12_friendOf_37 fkX12_65 (by first | rfl | exact kd_b0 _ | exact kd_b1 _ | exact kd_b2 _ | exact kd_b3 _ | exact kd_b4 _ | exact kd_b5 _ | exact kd_b6 _) (by omega) (by first | exact hFx _ 29 _ rfl | assumption | exact hBk.1 | exact hBk.2.1 | exact hBk.2.2.1 | exact hBk.2.2.2.1 | exact hBk.2.2.2.2.1 | exact hBk.2.2.2.2.2) ?_
  refine Wp.iload_n rfl dX12_friendOf_40 ?_
  refine Wp.iaload dX12_friendOf_41 (by first | rfl | exact kd_b0 _ | exact kd_b1 _ | exact kd_b2 _ | exact kd_b3 _ | exact kd_b4 _ | exact kd_b5 _ | exact kd_b6 _) (by omega) (by omega) (by omega) ?_
  refine Wp.aload_n rfl dX12_friendOf_42 ?_
  refine Wp.gr (kz := 26) rfl dX12_friendOf_43 fkX12_56 (by first | rfl | exact kd_b0 _ | exact kd_b1 _ | exact kd_b2 _ | exact kd_b3 _ | exact kd_b4 _ | exact kd_b5 _ | exact kd_b6 _) (by omega) (by first | exact hFx _ 26 _ rfl | assumption | exact hBk.1 | exact hBk.2.1 | exact hBk.2.2.1 | exact hBk.2.2.2.1 | exact hBk.2.2.2.2.1 | exact hBk.2.2.2.2.2) ?_
  refine Wp.iload_n rfl dX12_friendOf_46 ?_
  refine Wp.iaload dX12_friendOf_47 (by first | rfl | exact kd_b0 _ | exact kd_b1 _ | exact kd_b2 _ | exact kd_b3 _ | exact kd_b4 _ | exact kd_b5 _ | exact kd_b6 _) (by omega) (by omega) (by omega) ?_
  refine Wp.aload_n rfl dX12_friendOf_48 ?_
  refine Wp.gr (kz := 27) rfl dX12_friendOf_49 fkX12_59 (by first | rfl | exact kd_b0 _ | exact kd_b1 _ | exact kd_b2 _ | exact kd_b3 _ | exact kd_b4 _ | exact kd_b5 _ | exact kd_b6 _) (by omega) (by first | exact hFx _ 27 _ rfl | assumption | exact hBk.1 | exact hBk.2.1 | exact hBk.2.2.1 | exact hBk.2.2.2.1 | exact hBk.2.2.2.2.1 | exact hBk.2.2.2.2.2) ?_
  refine Wp.iload_n rfl dX12_friendOf_52 ?_
  refine Wp.iaload dX12_friendOf_53 (by first | rfl | exact kd_b0 _ | exact kd_b1 _ | exact kd_b2 _ | exact kd_b3 _ | exact kd_b4 _ | exact kd_b5 _ | exact kd_b6 _) (by omega) (by omega) (by omega) ?_
  refine Wp.callV (As := [_, _, _, _]) (ls0 := [_, _, _, _, _]) (bd := (0, 0)) (bd' := (0, 0)) dX12_friendOf_54 kmX12_has lkX12_245 (by decide) (by decide) (Nat.le_of_ble_eq_true rfl) (by first | rfl | exact kd_b0 _ | exact kd_b1 _ | exact kd_b2 _ | exact kd_b3 _ | exact kd_b4 _ | exact kd_b5 _ | exact kd_b6 _) (by omega) rfl rfl (Nat.le_of_ble_eq_true rfl) rfl ?_
  refine ct_X12_has hn hFx hW (by omega) (by omega) (by omega) (by omega) (by omega) (by omega) ?_
  show Wp _ _ _ (_ :: _) _ _ _
  refine Wp.istore_n (ls' := [_, _, _, _]) dX12_friendOf_57 (by decide) rfl ?_
  refine Wp.iload_n rfl dX12_friendOf_58 ?_
  refine Wp.iload_n rfl dX12_friendOf_59 ?_
  refine Wp.icmp_le (tgt := 67) dX12_friendOf_60 (by decide) (by first | omega | exact bI_R _ | exact cmp_R _ _ | assumption) (by first | omega | exact bI_R _ | exact cmp_R _ _ | assumption) (fun c60 => ?_) (fun c60 => ?_)
  · refine Wp.iload_n rfl dX12_friendOf_67 ?_
    refine Wp.ireturn dX12_friendOf_68 rfl ?_
    first | (exfalso; omega) | (exact qI hq (by unfold frO; omega))
  · refine Wp.iload_n rfl dX12_friendOf_63 ?_
    refine Wp.goto (tgt := 68) dX12_friendOf_64 (by decide) ?_
    refine Wp.ireturn dX12_friendOf_68 rfl ?_
    first | (exfalso; omega) | (exact qI hq (by unfold frO; omega))
theorem frO_B (I : Nat → Int → Int) (lk a w b v : Int) : 0 ≤ frO I lk a w b v ∧ frO I lk a w b v ≤ 2 := by
  have h1 := hsS_B I lk a w b v
  have h2 := hsS_B I lk b v a w
  unfold frO; omega
theorem frN_t {lk : Int} {A W B V : Int → Int} {k : Nat} (h : frO I lk (A k) (W k) (B k) (V k) = 2) : frN I lk A W B V k + 1 = frN I lk A W B V (k + 1) := by simp only [frN]; rw [if_pos h]
theorem frN_f {lk : Int} {A W B V : Int → Int} {k : Nat} (h : ¬ frO I lk (A k) (W k) (B k) (V k) = 2) : frN I lk A W B V k + 0 = frN I lk A W B V (k + 1) := by simp only [frN]; rw [if_neg h]
theorem ct_X12_friends {i : Int} (hn : 57 ≤ n) (hFx : Fx R) (hW : RW I) (hK : AkW (I 43) (I 44) (I 45) (I 46) (I 32 25)) (hi : inR i) (hq : Q (some (vi (aFriends I (I 32 11) (I 43) (I 44) (I 45) (I 46) (I 32 25) i))) (I, L, R, n)) : Wp mX12_friends 0 [some (vr (some 32)), some (vi i), none, none] [] (I, L, R, n) (0, 0) Q := by
  have k0 := hK.1
  have k1 := hK.2.1
  have lp : ∀ (hi1 : i = -1) , ∀ (tt k : Nat) (z : Int) (acc : Int), k + tt = (I 32 25).toNat → z = k → acc = frN I (I 32 11) (I 43) (I 44) (I 45) (I 46) k → Wp mX12_friends 37 [some (vr (some 32)), some (vi i), some (vi acc), some (vi z)] [] (I, L, R, n) (0, 0) Q := by
    intro hi1
    intro tt
    induction tt with
    | zero =>
      intro k z acc hkt hz e0
      obtain rfl : k = (I 32 25).toNat := by omega
      refine Wp.iload_n rfl dX12_friends_37 ?_
      refine Wp.aload_n rfl dX12_friends_38 ?_
      refine Wp.gi (kz := 25) rfl dX12_friends_39 fkX12_159 (by first | rfl | exact kd_b0 _ | exact kd_b1 _ | exact kd_b2 _ | exact kd_b3 _ | exact kd_b4 _ | exact kd_b5 _ | exact kd_b6 _) (by omega) ?_
      refine Wp.icmp_ge (tgt := 68) dX12_friends_42 (by decide) (by first | omega | exact bI_R _ | exact cmp_R _ _ | assumption) (by first | omega | exact bI_R _ | exact cmp_R _ _ | assumption) (fun c42 => ?_) (fun c42 => ?_)
      · refine Wp.iload_n rfl dX12_friends_68 ?_
        refine Wp.ireturn dX12_friends_69 rfl ?_
        first | (exfalso; omega) | (exact qI hq (by unfold aFriends; rw [if_pos (by omega), if_pos hi1]; exact e0))
      · exfalso; omega
    | succ tt ih =>
      intro k z acc hkt hz e0
      subst hz
      subst e0
      have hB := frO_B I (I 32 11) (I 43 k) (I 44 k) (I 45 k) (I 46 k)
      refine Wp.iload_n rfl dX12_friends_37 ?_
      refine Wp.aload_n rfl dX12_friends_38 ?_
      refine Wp.gi (kz := 25) rfl dX12_friends_39 fkX12_159 (by first | rfl | exact kd_b0 _ | exact kd_b1 _ | exact kd_b2 _ | exact kd_b3 _ | exact kd_b4 _ | exact kd_b5 _ | exact kd_b6 _) (by omega) ?_
      refine Wp.icmp_ge (tgt := 68) dX12_friends_42 (by decide) (by first | omega | exact bI_R _ | exact cmp_R _ _ | assumption) (by first | omega | exact bI_R _ | exact cmp_R _ _ | assumption) (fun c42 => ?_) (fun c42 => ?_)
      · exfalso; omega
      · refine Wp.iload_n rfl dX12_friends_45 ?_
        refine Wp.aload_n rfl dX12_friends_46 ?_
        refine Wp.iload_n rfl dX12_friends_47 ?_
        refine Wp.callV (As := [_]) (ls0 := [_, _, _, _]) (bd := (0, 0)) (bd' := (0, 0)) dX12_friends_48 kmX12_friendOf lkX12_249 (by decide) (by decide) (Nat.le_of_ble_eq_true rfl) (by first | rfl | exact kd_b0 _ | exact kd_b1 _ | exact kd_b2 _ | exact kd_b3 _ | exact kd_b4 _ | exact kd_b5 _ | exact kd_b6 _) (by omega) rfl rfl (Nat.le_of_ble_eq_true rfl) rfl ?_
        refine ct_X12_friendOf hn hFx hW hK (by omega) (by omega) ?_
        show Wp _ _ _ (_ :: _) _ _ _
        refine Wp.iconst dX12_friends_51 ?_
        refine Wp.icmp_ne (tgt := 59) dX12_friends_52 (by decide) (by first | omega | exact bI_R _ | exact cmp_R _ _ | assumption) (by first | omega | exact bI_R _ | exact cmp_R _ _ | assumption) (fun c52 => ?_) (fun c52 => ?_)
        · refine Wp.iconst dX12_friends_59 ?_
          refine Wp.iadd dX12_friends_60 ?_
          refine Wp.istore_n (ls' := [_, _, _, _]) dX12_friends_61 (by decide) rfl ?_
          refine Wp.iinc (ls' := [_, _, _, _]) rfl dX12_friends_62 (by decide) rfl ?_
          refine Wp.goto (tgt := 37) dX12_friends_65 (by decide) ?_
          first | exact ih (k + 1) _ _ (by omega) (by omega) (frN_t c52) | exact ih (k + 1) _ _ (by omega) (by omega) (frN_f c52) | (exfalso; omega)
        · refine Wp.iconst dX12_friends_55 ?_
          refine Wp.goto (tgt := 60) dX12_friends_56 (by decide) ?_
          refine Wp.iadd dX12_friends_60 ?_
          refine Wp.istore_n (ls' := [_, _, _, _]) dX12_friends_61 (by decide) rfl ?_
          refine Wp.iinc (ls' := [_, _, _, _]) rfl dX12_friends_62 (by decide) rfl ?_
          refine Wp.goto (tgt := 37) dX12_friends_65 (by decide) ?_
          first | exact ih (k + 1) _ _ (by omega) (by omega) (frN_t c52) | exact ih (k + 1) _ _ (by omega) (by omega) (frN_f c52) | (exfalso; omega)
  refine Wp.iload_n rfl dX12_friends_0 ?_
  refine Wp.i2l (by first | omega | exact bI_R _ | exact cmp_R _ _ | assumption) dX12_friends_1 ?_
  refine Wp.ldc2_w (b := 18446744073709551615#64) ckX12_206 rfl dX12_friends_2 ?_
  refine Wp.aload_n rfl dX12_friends_5 ?_
  refine Wp.gi (kz := 25) rfl dX12_friends_6 fkX12_159 (by first | rfl | exact kd_b0 _ | exact kd_b1 _ | exact kd_b2 _ | exact kd_b3 _ | exact kd_b4 _ | exact kd_b5 _ | exact kd_b6 _) (by omega) ?_
  refine Wp.iconst dX12_friends_9 ?_
  refine Wp.isub dX12_friends_10 ?_
  refine Wp.i2l (by first | omega | exact bI_R _ | exact cmp_R _ _ | assumption) dX12_friends_11 ?_
  refine Wp.callS (As := [_, _, _]) (ls0 := [_, _, _, _, _, _]) (bd := (0, 0)) (bd' := (0, 0)) dX12_friends_12 kmX12_in lkX12_100 (by decide) (by decide) (Nat.le_of_ble_eq_true rfl) rfl rfl (Nat.le_of_ble_eq_true rfl) rfl ?_
  refine ct_X12_in (a := -1) (b := I 32 25 - 1) (ofI_toInt hi) rfl (ofI_toInt (by omega)) ?_
  show Wp _ _ _ (_ :: _) _ _ _
  refine Wp.if_neB (tgt := 22) dX12_friends_15 (by decide) (fun c15 => ?_) (fun c15 => ?_)
  · refine Wp.iload_n rfl dX12_friends_22 ?_
    refine Wp.iconst dX12_friends_23 ?_
    refine Wp.icmp_eq (tgt := 33) dX12_friends_24 (by decide) (by first | omega | exact bI_R _ | exact cmp_R _ _ | assumption) (by first | omega | exact bI_R _ | exact cmp_R _ _ | assumption) (fun c24 => ?_) (fun c24 => ?_)
    · refine Wp.iconst dX12_friends_33 ?_
      refine Wp.istore_n (ls' := [_, _, _, _]) dX12_friends_34 (by decide) rfl ?_
      refine Wp.iconst dX12_friends_35 ?_
      refine Wp.istore_n (ls' := [_, _, _, _]) dX12_friends_36 (by decide) rfl ?_
      exact lp (by omega) (I 32 25).toNat 0 _ _ (by omega) (by omega) rfl
    · refine Wp.aload_n rfl dX12_friends_27 ?_
      refine Wp.iload_n rfl dX12_friends_28 ?_
      refine Wp.callV (As := [_]) (ls0 := [_, _, _, _]) (bd := (0, 0)) (bd' := (0, 0)) dX12_friends_29 kmX12_friendOf lkX12_249 (by decide) (by decide) (Nat.le_of_ble_eq_true rfl) (by first | rfl | exact kd_b0 _ | exact kd_b1 _ | exact kd_b2 _ | exact kd_b3 _ | exact kd_b4 _ | exact kd_b5 _ | exact kd_b6 _) (by omega) rfl rfl (Nat.le_of_ble_eq_true rfl) rfl ?_
      refine ct_X12_friendOf hn hFx hW hK (by omega) (by omega) ?_
      show Wp _ _ _ (_ :: _) _ _ _
      refine Wp.ireturn dX12_friends_32 rfl ?_
      first | (exfalso; omega) | (exact qI hq (by unfold aFriends; (repeat' split) <;> first | (exfalso; omega) | rfl))
  · refine Wp.sipush rfl dX12_friends_18 ?_
    refine Wp.ireturn dX12_friends_21 rfl ?_
    first | (exfalso; omega) | (exact qI hq (by unfold aFriends; (repeat' split) <;> first | (exfalso; omega) | rfl))
end

