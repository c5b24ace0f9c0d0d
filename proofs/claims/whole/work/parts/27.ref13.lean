/-! ===== the reference: promise 27, 28 ===== -/
/-- what w of the first tongue comes to by j steps of a chain -/
def cmN (I : Nat → Int → Int) (lk : Int) (ch : Int → Int) (w : Int) : Nat → BitVec 64
  | 0 => 1#64 <<< w.toNat
  | j + 1 => gaN I lk (ch j) (cmN I lk ch w j) (ch (j + 1)) 60
abbrev acP (I : Nat → Int → Int) (lk a b : Int) (s : CS) (what w : Int) : Prop := (what = 0 ∧ 0 < s.1 ∧ ¬ cmN I lk (chAt a b s) w (s.1 - 1).toNat = 0#64) ∨ (what ≠ 0 ∧ hsB I lk a w = true ∧ ent I lk a w b < 0)
def acN (I : Nat → Int → Int) (lk a b : Int) (s : CS) (what : Int) : Nat → BitVec 64
  | 0 => 0#64
  | w + 1 => acN I lk a b s what w ||| (if acP I lk a b s what w then 1#64 <<< w else 0#64)
def aAcross (I : Nat → Int → Int) (lk a b what : Int) : BitVec 64 := if tgP a ∧ tgP b then (if a ≠ b ∧ 0 ≤ what ∧ what ≤ 1 then acN I lk a b (chS (ldB I lk) a b) what 60 else 18446744073709550614#64) else 18446744073709550615#64
theorem acN_t {I : Nat → Int → Int} {lk a b : Int} {s : CS} {what : Int} {k : Nat} (h : acP I lk a b s what k) : acN I lk a b s what k ||| (1#64 <<< k) = acN I lk a b s what (k + 1) := by
  simp only [acN]; rw [if_pos h]
theorem acN_f {I : Nat → Int → Int} {lk a b : Int} {s : CS} {what : Int} {k : Nat} (h : ¬ acP I lk a b s what k) : acN I lk a b s what k ||| 0#64 = acN I lk a b s what (k + 1) := by
  simp only [acN]; rw [if_neg h]
section
variable {I : Nat → Int → Int} {L : Nat → Int → BitVec 64} {R : Nat → Int → Option Nat} {n : Nat} {m : Mm} {Q : Option AV → Mm → Prop}
theorem cmN_cg {J : Nat → Int → Int} (h : SE I J) (lk : Int) (ch : Int → Int) (w : Int) : ∀ j, cmN J lk ch w j = cmN I lk ch w j
  | 0 => rfl
  | j + 1 => by simp only [cmN, cmN_cg h lk ch w j, gaN_cg h]
theorem acN_cg {J : Nat → Int → Int} (h : SE I J) (lk a b : Int) (s : CS) (what : Int) : ∀ j, acN J lk a b s what j = acN I lk a b s what j
  | 0 => rfl
  | j + 1 => by simp only [acN, acP, acN_cg h lk a b s what j, cmN_cg h, hsB_cg h, ent_cg h]
theorem chAt_B {a b : Int} {s : CS} (ha : tgP a) (hb : tgP b) (hs : csOk s) (i : Int) : tgP (chAt a b s i) := by
  unfold csOk at hs; unfold chAt; (repeat' split) <;> omega
set_option maxHeartbeats 1000000 in
theorem ac43 {a b what : Int} {s : CS} (hn : 57 ≤ n) (hFx : Fx R) (hW : RW I) (ha : tgP a) (hb : tgP b) (hwh : 0 ≤ what ∧ what ≤ 1) (hs : csOk s) (hc : cSt I a b s) (hq : Q (some (vl (acN I (I 32 11) a b s what 60))) (I, L, R, n)) (x4 x5 x6 x7 x8 x9 : Option AV) : Wp mX12_across 43 [some (vr (some 32)), some (vi a), some (vi b), some (vi what), x4, x5, x6, x7, x8, x9] [] (I, L, R, n) (0, 0) Q := by
  have hc0 := hc.1
  have hs0 := hs.1
  have hs4 := hs.2.1
  have hEB : ∀ w : Int, 0 ≤ w → w < 60 → -1 ≤ ent I (I 32 11) a w b ∧ ent I (I 32 11) a w b < 480 := fun w h0 h1 => by
    rcases hW.entOk (lk := I 32 11) (a := a) (b := b) h0 h1 with h | h
    · rw [h]; omega
    · have := h.1; omega
  have li : ∀ (w : Nat) (acc : BitVec 64) (hw : w < 60) (hc' : ∀ (x9 : Int), Wp mX12_across 106 [some (vr (some 32)), some (vi a), some (vi b), some (vi what), some (vl acc), none, some (vi w), some (vl (cmN I (I 32 11) (chAt a b s) w (s.1 - 1).toNat)), none, some (vi x9)] [] (I, L, R, n) (0, 0) Q) , ∀ (tt k : Nat) (z : Int) (x : BitVec 64), k + tt = (s.1 - 1).toNat → z = k → x = cmN I (I 32 11) (chAt a b s) w k → Wp mX12_across 65 [some (vr (some 32)), some (vi a), some (vi b), some (vi what), some (vl acc), none, some (vi w), some (vl x), none, some (vi z)] [] (I, L, R, n) (0, 0) Q := by
    intro w acc hw hc'
    intro tt
    induction tt with
    | zero =>
      intro k z x hkt hz e0
      obtain rfl : k = (s.1 - 1).toNat := by omega
      refine Wp.iload rfl dX12_across_65 ?_
      refine Wp.aload_n rfl dX12_across_67 ?_
      refine Wp.gi (kz := 42) rfl dX12_across_68 fkX12_270 (by first | rfl | exact kd_b0 _ | exact kd_b1 _ | exact kd_b2 _ | exact kd_b3 _ | exact kd_b4 _ | exact kd_b5 _ | exact kd_b6 _) (by omega) ?_
      refine Wp.iconst dX12_across_71 ?_
      refine Wp.isub dX12_across_72 ?_
      refine Wp.icmp_ge (tgt := 106) dX12_across_73 (by decide) (by first | omega | exact bI_R _ | exact cmp_R _ _ | assumption) (by first | omega | exact bI_R _ | exact cmp_R _ _ | assumption) (fun c73 => ?_) (fun c73 => ?_)
      · subst e0; exact hc' _
      · exfalso; omega
    | succ tt ih =>
      intro k z x hkt hz e0
      subst hz
      subst e0
      have hk1 := cSt_at hc hs4 (i := k) (by omega) (by omega)
      have hk2 := cSt_at hc hs4 (i := k + 1) (by omega) (by omega)
      have hb1 := chAt_B ha hb hs k
      have hb2 := chAt_B ha hb hs (k + 1)
      refine Wp.iload rfl dX12_across_65 ?_
      refine Wp.aload_n rfl dX12_across_67 ?_
      refine Wp.gi (kz := 42) rfl dX12_across_68 fkX12_270 (by first | rfl | exact kd_b0 _ | exact kd_b1 _ | exact kd_b2 _ | exact kd_b3 _ | exact kd_b4 _ | exact kd_b5 _ | exact kd_b6 _) (by omega) ?_
      refine Wp.iconst dX12_across_71 ?_
      refine Wp.isub dX12_across_72 ?_
      refine Wp.icmp_ge (tgt := 106) dX12_across_73 (by decide) (by first | omega | exact bI_R _ | exact cmp_R _ _ | assumption) (by first | omega | exact bI_R _ | exact cmp_R _ _ | assumption) (fun c73 => ?_) (fun c73 => ?_)
      · exfalso; omega
      · refine Wp.aload_n rfl dX12_across_76 ?_
        refine Wp.aload_n rfl dX12_across_77 ?_
        refine Wp.gr (kz := 41) rfl dX12_across_78 fkX12_92 (by first | rfl | exact kd_b0 _ | exact kd_b1 _ | exact kd_b2 _ | exact kd_b3 _ | exact kd_b4 _ | exact kd_b5 _ | exact kd_b6 _) (by omega) (by first | exact hFx _ 41 _ rfl | assumption | exact hBk.1 | exact hBk.2.1 | exact hBk.2.2.1 | exact hBk.2.2.2.1 | exact hBk.2.2.2.2.1 | exact hBk.2.2.2.2.2) ?_
        refine Wp.iload rfl dX12_across_81 ?_
        refine Wp.iaload dX12_across_83 (by first | rfl | exact kd_b0 _ | exact kd_b1 _ | exact kd_b2 _ | exact kd_b3 _ | exact kd_b4 _ | exact kd_b5 _ | exact kd_b6 _) (by omega) (by omega) (by omega) ?_
        rw [hk1]
        refine Wp.lload rfl dX12_across_84 ?_
        refine Wp.aload_n rfl dX12_across_86 ?_
        refine Wp.gr (kz := 41) rfl dX12_across_87 fkX12_92 (by first | rfl | exact kd_b0 _ | exact kd_b1 _ | exact kd_b2 _ | exact kd_b3 _ | exact kd_b4 _ | exact kd_b5 _ | exact kd_b6 _) (by omega) (by first | exact hFx _ 41 _ rfl | assumption | exact hBk.1 | exact hBk.2.1 | exact hBk.2.2.1 | exact hBk.2.2.2.1 | exact hBk.2.2.2.2.1 | exact hBk.2.2.2.2.2) ?_
        refine Wp.iload rfl dX12_across_90 ?_
        refine Wp.iconst dX12_across_92 ?_
        refine Wp.iadd dX12_across_93 ?_
        refine Wp.iaload dX12_across_94 (by first | rfl | exact kd_b0 _ | exact kd_b1 _ | exact kd_b2 _ | exact kd_b3 _ | exact kd_b4 _ | exact kd_b5 _ | exact kd_b6 _) (by omega) (by omega) (by omega) ?_
        rw [hk2]
        refine Wp.callV (As := [_, _, _]) (ls0 := [_, _, _, _, _, _, _, _]) (bd := (0, 0)) (bd' := (0, 0)) dX12_across_95 kmX12_givingAll lkX12_200 (by decide) (by decide) (Nat.le_of_ble_eq_true rfl) (by first | rfl | exact kd_b0 _ | exact kd_b1 _ | exact kd_b2 _ | exact kd_b3 _ | exact kd_b4 _ | exact kd_b5 _ | exact kd_b6 _) (by omega) rfl rfl (Nat.le_of_ble_eq_true rfl) rfl ?_
        refine ct_X12_givingAll hn hFx hW (by omega) (by omega) ?_
        show Wp _ _ _ (_ :: _) _ _ _
        refine Wp.lstore (ls' := [_, _, _, _, _, _, _, _, _, _]) dX12_across_98 (by decide) rfl ?_
        refine Wp.iinc (ls' := [_, _, _, _, _, _, _, _, _, _]) rfl dX12_across_100 (by decide) rfl ?_
        refine Wp.goto (tgt := 65) dX12_across_103 (by decide) ?_
        exact ih (k + 1) _ _ (by omega) (by omega) rfl
  have lo : ∀ (tt k : Nat) (z : Int) (acc : BitVec 64) (x7 : Option AV) (x8 : Option AV) (x9 : Option AV), k + tt = 60 → z = k → acc = acN I (I 32 11) a b s what k → Wp mX12_across 49 [some (vr (some 32)), some (vi a), some (vi b), some (vi what), some (vl acc), none, some (vi z), x7, x8, x9] [] (I, L, R, n) (0, 0) Q := by
    intro tt
    induction tt with
    | zero =>
      intro k z acc x7 x8 x9 hkt hz e0
      obtain rfl : k = 60 := by omega
      refine Wp.iload rfl dX12_across_49 ?_
      refine Wp.bipush rfl dX12_across_51 ?_
      refine Wp.icmp_ge (tgt := 184) dX12_across_53 (by decide) (by first | omega | exact bI_R _ | exact cmp_R _ _ | assumption) (by first | omega | exact bI_R _ | exact cmp_R _ _ | assumption) (fun c53 => ?_) (fun c53 => ?_)
      · refine Wp.lload rfl dX12_across_184 ?_
        refine Wp.lreturn dX12_across_186 rfl ?_
        first | (exfalso; omega) | (exact qL hq e0)
      · exfalso; omega
    | succ tt ih =>
      intro k z acc x7 x8 x9 hkt hz e0
      subst hz
      subst e0
      have hEk := hEB k (by omega) (by omega)
      have h106 : ∀ (x9 : Int), Wp mX12_across 106 [some (vr (some 32)), some (vi a), some (vi b), some (vi what), some (vl (acN I (I 32 11) a b s what k)), none, some (vi k), some (vl (cmN I (I 32 11) (chAt a b s) k (s.1 - 1).toNat)), none, some (vi x9)] [] (I, L, R, n) (0, 0) Q := by
        intro x9
        refine Wp.iload_n rfl dX12_across_106 ?_
        refine Wp.if_ne (tgt := 132) dX12_across_107 (by decide) (by first | omega | exact bI_R _ | exact cmp_R _ _ | assumption) (fun c107 => ?_) (fun c107 => ?_)
        · refine Wp.aload_n rfl dX12_across_132 ?_
          refine Wp.iload_n rfl dX12_across_133 ?_
          refine Wp.iload rfl dX12_across_134 ?_
          refine Wp.callV (As := [_, _]) (ls0 := [_, _, _, _, _]) (bd := (0, 0)) (bd' := (0, 0)) dX12_across_136 kmX12_hasSome lkX12_281 (by decide) (by decide) (Nat.le_of_ble_eq_true rfl) (by first | rfl | exact kd_b0 _ | exact kd_b1 _ | exact kd_b2 _ | exact kd_b3 _ | exact kd_b4 _ | exact kd_b5 _ | exact kd_b6 _) (by omega) rfl rfl (Nat.le_of_ble_eq_true rfl) rfl ?_
          refine ct_X12_hasSome hn hFx hW (by omega) (by omega) (by omega) ?_
          show Wp _ _ _ (_ :: _) _ _ _
          refine Wp.if_eqB (tgt := 157) dX12_across_139 (by decide) (fun c139 => ?_) (fun c139 => ?_)
          · refine Wp.iconst dX12_across_157 ?_
            refine Wp.istore (ls' := [_, _, _, _, _, _, _, _, _, _]) dX12_across_158 (by decide) rfl ?_
            refine Wp.lload rfl dX12_across_160 ?_
            refine Wp.iload rfl dX12_across_162 ?_
            refine Wp.if_eq (tgt := 174) dX12_across_164 (by decide) (by first | omega | exact bI_R _ | exact cmp_R _ _ | assumption) (fun c164 => ?_) (fun c164 => ?_)
            · refine Wp.lconst0 dX12_across_174 ?_
              refine Wp.lor dX12_across_175 ?_
              refine Wp.lstore (ls' := [_, _, _, _, _, _, _, _, _, _]) dX12_across_176 (by decide) rfl ?_
              refine Wp.iinc (ls' := [_, _, _, _, _, _, _, _, _, _]) rfl dX12_across_178 (by decide) rfl ?_
              refine Wp.goto (tgt := 49) dX12_across_181 (by decide) ?_
              first | exact ih (k + 1) _ _ _ _ _ (by omega) (by omega) (acN_t (Or.inl ⟨c107, by omega, c121⟩)) | exact ih (k + 1) _ _ _ _ _ (by omega) (by omega) (acN_t (Or.inr ⟨c107, c139, by omega⟩)) | exact ih (k + 1) _ _ _ _ _ (by omega) (by omega) (acN_f (fun q => q.elim (fun q => q.2.2 c121) (fun q => q.1 c107))) | exact ih (k + 1) _ _ _ _ _ (by omega) (by omega) (acN_f (fun q => q.elim (fun q => absurd q.2.1 (by omega)) (fun q => q.1 c107))) | exact ih (k + 1) _ _ _ _ _ (by omega) (by omega) (acN_f (fun q => q.elim (fun q => c107 q.1) (fun q => c139 q.2.1))) | exact ih (k + 1) _ _ _ _ _ (by omega) (by omega) (acN_f (fun q => q.elim (fun q => c107 q.1) (fun q => absurd q.2.2 (by omega)))) | (exfalso; omega)
            · refine Wp.lconst1 dX12_across_167 ?_
              refine Wp.iload rfl dX12_across_168 ?_
              refine Wp.lshl (by omega) (by omega) dX12_across_170 ?_
              refine Wp.goto (tgt := 175) dX12_across_171 (by decide) ?_
              refine Wp.lor dX12_across_175 ?_
              refine Wp.lstore (ls' := [_, _, _, _, _, _, _, _, _, _]) dX12_across_176 (by decide) rfl ?_
              refine Wp.iinc (ls' := [_, _, _, _, _, _, _, _, _, _]) rfl dX12_across_178 (by decide) rfl ?_
              refine Wp.goto (tgt := 49) dX12_across_181 (by decide) ?_
              first | exact ih (k + 1) _ _ _ _ _ (by omega) (by omega) (acN_t (Or.inl ⟨c107, by omega, c121⟩)) | exact ih (k + 1) _ _ _ _ _ (by omega) (by omega) (acN_t (Or.inr ⟨c107, c139, by omega⟩)) | exact ih (k + 1) _ _ _ _ _ (by omega) (by omega) (acN_f (fun q => q.elim (fun q => q.2.2 c121) (fun q => q.1 c107))) | exact ih (k + 1) _ _ _ _ _ (by omega) (by omega) (acN_f (fun q => q.elim (fun q => absurd q.2.1 (by omega)) (fun q => q.1 c107))) | exact ih (k + 1) _ _ _ _ _ (by omega) (by omega) (acN_f (fun q => q.elim (fun q => c107 q.1) (fun q => c139 q.2.1))) | exact ih (k + 1) _ _ _ _ _ (by omega) (by omega) (acN_f (fun q => q.elim (fun q => c107 q.1) (fun q => absurd q.2.2 (by omega)))) | (exfalso; omega)
          · refine Wp.aload_n rfl dX12_across_142 ?_
            refine Wp.iload_n rfl dX12_across_143 ?_
            refine Wp.iload rfl dX12_across_144 ?_
            refine Wp.iload_n rfl dX12_across_146 ?_
            refine Wp.callV (As := [_, _, _]) (ls0 := [_, _, _, _, _, _, _]) (bd := (0, 0)) (bd' := (0, 0)) dX12_across_147 kmX12_entryOf lkX12_174 (by decide) (by decide) (Nat.le_of_ble_eq_true rfl) (by first | rfl | exact kd_b0 _ | exact kd_b1 _ | exact kd_b2 _ | exact kd_b3 _ | exact kd_b4 _ | exact kd_b5 _ | exact kd_b6 _) (by omega) rfl rfl (Nat.le_of_ble_eq_true rfl) rfl ?_
            refine ct_X12_entryOf hn hFx hW (by omega) (by omega) (by omega) (by omega) ?_
            show Wp _ _ _ (_ :: _) _ _ _
            refine Wp.if_ge (tgt := 157) dX12_across_150 (by decide) (by first | omega | exact bI_R _ | exact cmp_R _ _ | assumption) (fun c150 => ?_) (fun c150 => ?_)
            · refine Wp.iconst dX12_across_157 ?_
              refine Wp.istore (ls' := [_, _, _, _, _, _, _, _, _, _]) dX12_across_158 (by decide) rfl ?_
              refine Wp.lload rfl dX12_across_160 ?_
              refine Wp.iload rfl dX12_across_162 ?_
              refine Wp.if_eq (tgt := 174) dX12_across_164 (by decide) (by first | omega | exact bI_R _ | exact cmp_R _ _ | assumption) (fun c164 => ?_) (fun c164 => ?_)
              · refine Wp.lconst0 dX12_across_174 ?_
                refine Wp.lor dX12_across_175 ?_
                refine Wp.lstore (ls' := [_, _, _, _, _, _, _, _, _, _]) dX12_across_176 (by decide) rfl ?_
                refine Wp.iinc (ls' := [_, _, _, _, _, _, _, _, _, _]) rfl dX12_across_178 (by decide) rfl ?_
                refine Wp.goto (tgt := 49) dX12_across_181 (by decide) ?_
                first | exact ih (k + 1) _ _ _ _ _ (by omega) (by omega) (acN_t (Or.inl ⟨c107, by omega, c121⟩)) | exact ih (k + 1) _ _ _ _ _ (by omega) (by omega) (acN_t (Or.inr ⟨c107, c139, by omega⟩)) | exact ih (k + 1) _ _ _ _ _ (by omega) (by omega) (acN_f (fun q => q.elim (fun q => q.2.2 c121) (fun q => q.1 c107))) | exact ih (k + 1) _ _ _ _ _ (by omega) (by omega) (acN_f (fun q => q.elim (fun q => absurd q.2.1 (by omega)) (fun q => q.1 c107))) | exact ih (k + 1) _ _ _ _ _ (by omega) (by omega) (acN_f (fun q => q.elim (fun q => c107 q.1) (fun q => c139 q.2.1))) | exact ih (k + 1) _ _ _ _ _ (by omega) (by omega) (acN_f (fun q => q.elim (fun q => c107 q.1) (fun q => absurd q.2.2 (by omega)))) | (exfalso; omega)
              · refine Wp.lconst1 dX12_across_167 ?_
                refine Wp.iload rfl dX12_across_168 ?_
                refine Wp.lshl (by omega) (by omega) dX12_across_170 ?_
                refine Wp.goto (tgt := 175) dX12_across_171 (by decide) ?_
                refine Wp.lor dX12_across_175 ?_
                refine Wp.lstore (ls' := [_, _, _, _, _, _, _, _, _, _]) dX12_across_176 (by decide) rfl ?_
                refine Wp.iinc (ls' := [_, _, _, _, _, _, _, _, _, _]) rfl dX12_across_178 (by decide) rfl ?_
                refine Wp.goto (tgt := 49) dX12_across_181 (by decide) ?_
                first | exact ih (k + 1) _ _ _ _ _ (by omega) (by omega) (acN_t (Or.inl ⟨c107, by omega, c121⟩)) | exact ih (k + 1) _ _ _ _ _ (by omega) (by omega) (acN_t (Or.inr ⟨c107, c139, by omega⟩)) | exact ih (k + 1) _ _ _ _ _ (by omega) (by omega) (acN_f (fun q => q.elim (fun q => q.2.2 c121) (fun q => q.1 c107))) | exact ih (k + 1) _ _ _ _ _ (by omega) (by omega) (acN_f (fun q => q.elim (fun q => absurd q.2.1 (by omega)) (fun q => q.1 c107))) | exact ih (k + 1) _ _ _ _ _ (by omega) (by omega) (acN_f (fun q => q.elim (fun q => c107 q.1) (fun q => c139 q.2.1))) | exact ih (k + 1) _ _ _ _ _ (by omega) (by omega) (acN_f (fun q => q.elim (fun q => c107 q.1) (fun q => absurd q.2.2 (by omega)))) | (exfalso; omega)
            · refine Wp.iconst dX12_across_153 ?_
              refine Wp.goto (tgt := 158) dX12_across_154 (by decide) ?_
              refine Wp.istore (ls' := [_, _, _, _, _, _, _, _, _, _]) dX12_across_158 (by decide) rfl ?_
              refine Wp.lload rfl dX12_across_160 ?_
              refine Wp.iload rfl dX12_across_162 ?_
              refine Wp.if_eq (tgt := 174) dX12_across_164 (by decide) (by first | omega | exact bI_R _ | exact cmp_R _ _ | assumption) (fun c164 => ?_) (fun c164 => ?_)
              · refine Wp.lconst0 dX12_across_174 ?_
                refine Wp.lor dX12_across_175 ?_
                refine Wp.lstore (ls' := [_, _, _, _, _, _, _, _, _, _]) dX12_across_176 (by decide) rfl ?_
                refine Wp.iinc (ls' := [_, _, _, _, _, _, _, _, _, _]) rfl dX12_across_178 (by decide) rfl ?_
                refine Wp.goto (tgt := 49) dX12_across_181 (by decide) ?_
                first | exact ih (k + 1) _ _ _ _ _ (by omega) (by omega) (acN_t (Or.inl ⟨c107, by omega, c121⟩)) | exact ih (k + 1) _ _ _ _ _ (by omega) (by omega) (acN_t (Or.inr ⟨c107, c139, by omega⟩)) | exact ih (k + 1) _ _ _ _ _ (by omega) (by omega) (acN_f (fun q => q.elim (fun q => q.2.2 c121) (fun q => q.1 c107))) | exact ih (k + 1) _ _ _ _ _ (by omega) (by omega) (acN_f (fun q => q.elim (fun q => absurd q.2.1 (by omega)) (fun q => q.1 c107))) | exact ih (k + 1) _ _ _ _ _ (by omega) (by omega) (acN_f (fun q => q.elim (fun q => c107 q.1) (fun q => c139 q.2.1))) | exact ih (k + 1) _ _ _ _ _ (by omega) (by omega) (acN_f (fun q => q.elim (fun q => c107 q.1) (fun q => absurd q.2.2 (by omega)))) | (exfalso; omega)
              · refine Wp.lconst1 dX12_across_167 ?_
                refine Wp.iload rfl dX12_across_168 ?_
                refine Wp.lshl (by omega) (by omega) dX12_across_170 ?_
                refine Wp.goto (tgt := 175) dX12_across_171 (by decide) ?_
                refine Wp.lor dX12_across_175 ?_
                refine Wp.lstore (ls' := [_, _, _, _, _, _, _, _, _, _]) dX12_across_176 (by decide) rfl ?_
                refine Wp.iinc (ls' := [_, _, _, _, _, _, _, _, _, _]) rfl dX12_across_178 (by decide) rfl ?_
                refine Wp.goto (tgt := 49) dX12_across_181 (by decide) ?_
                first | exact ih (k + 1) _ _ _ _ _ (by omega) (by omega) (acN_t (Or.inl ⟨c107, by omega, c121⟩)) | exact ih (k + 1) _ _ _ _ _ (by omega) (by omega) (acN_t (Or.inr ⟨c107, c139, by omega⟩)) | exact ih (k + 1) _ _ _ _ _ (by omega) (by omega) (acN_f (fun q => q.elim (fun q => q.2.2 c121) (fun q => q.1 c107))) | exact ih (k + 1) _ _ _ _ _ (by omega) (by omega) (acN_f (fun q => q.elim (fun q => absurd q.2.1 (by omega)) (fun q => q.1 c107))) | exact ih (k + 1) _ _ _ _ _ (by omega) (by omega) (acN_f (fun q => q.elim (fun q => c107 q.1) (fun q => c139 q.2.1))) | exact ih (k + 1) _ _ _ _ _ (by omega) (by omega) (acN_f (fun q => q.elim (fun q => c107 q.1) (fun q => absurd q.2.2 (by omega)))) | (exfalso; omega)
        · refine Wp.aload_n rfl dX12_across_110 ?_
          refine Wp.gi (kz := 42) rfl dX12_across_111 fkX12_270 (by first | rfl | exact kd_b0 _ | exact kd_b1 _ | exact kd_b2 _ | exact kd_b3 _ | exact kd_b4 _ | exact kd_b5 _ | exact kd_b6 _) (by omega) ?_
          refine Wp.if_le (tgt := 128) dX12_across_114 (by decide) (by first | omega | exact bI_R _ | exact cmp_R _ _ | assumption) (fun c114 => ?_) (fun c114 => ?_)
          · refine Wp.iconst dX12_across_128 ?_
            refine Wp.goto (tgt := 158) dX12_across_129 (by decide) ?_
            refine Wp.istore (ls' := [_, _, _, _, _, _, _, _, _, _]) dX12_across_158 (by decide) rfl ?_
            refine Wp.lload rfl dX12_across_160 ?_
            refine Wp.iload rfl dX12_across_162 ?_
            refine Wp.if_eq (tgt := 174) dX12_across_164 (by decide) (by first | omega | exact bI_R _ | exact cmp_R _ _ | assumption) (fun c164 => ?_) (fun c164 => ?_)
            · refine Wp.lconst0 dX12_across_174 ?_
              refine Wp.lor dX12_across_175 ?_
              refine Wp.lstore (ls' := [_, _, _, _, _, _, _, _, _, _]) dX12_across_176 (by decide) rfl ?_
              refine Wp.iinc (ls' := [_, _, _, _, _, _, _, _, _, _]) rfl dX12_across_178 (by decide) rfl ?_
              refine Wp.goto (tgt := 49) dX12_across_181 (by decide) ?_
              first | exact ih (k + 1) _ _ _ _ _ (by omega) (by omega) (acN_t (Or.inl ⟨c107, by omega, c121⟩)) | exact ih (k + 1) _ _ _ _ _ (by omega) (by omega) (acN_t (Or.inr ⟨c107, c139, by omega⟩)) | exact ih (k + 1) _ _ _ _ _ (by omega) (by omega) (acN_f (fun q => q.elim (fun q => q.2.2 c121) (fun q => q.1 c107))) | exact ih (k + 1) _ _ _ _ _ (by omega) (by omega) (acN_f (fun q => q.elim (fun q => absurd q.2.1 (by omega)) (fun q => q.1 c107))) | exact ih (k + 1) _ _ _ _ _ (by omega) (by omega) (acN_f (fun q => q.elim (fun q => c107 q.1) (fun q => c139 q.2.1))) | exact ih (k + 1) _ _ _ _ _ (by omega) (by omega) (acN_f (fun q => q.elim (fun q => c107 q.1) (fun q => absurd q.2.2 (by omega)))) | (exfalso; omega)
            · refine Wp.lconst1 dX12_across_167 ?_
              refine Wp.iload rfl dX12_across_168 ?_
              refine Wp.lshl (by omega) (by omega) dX12_across_170 ?_
              refine Wp.goto (tgt := 175) dX12_across_171 (by decide) ?_
              refine Wp.lor dX12_across_175 ?_
              refine Wp.lstore (ls' := [_, _, _, _, _, _, _, _, _, _]) dX12_across_176 (by decide) rfl ?_
              refine Wp.iinc (ls' := [_, _, _, _, _, _, _, _, _, _]) rfl dX12_across_178 (by decide) rfl ?_
              refine Wp.goto (tgt := 49) dX12_across_181 (by decide) ?_
              first | exact ih (k + 1) _ _ _ _ _ (by omega) (by omega) (acN_t (Or.inl ⟨c107, by omega, c121⟩)) | exact ih (k + 1) _ _ _ _ _ (by omega) (by omega) (acN_t (Or.inr ⟨c107, c139, by omega⟩)) | exact ih (k + 1) _ _ _ _ _ (by omega) (by omega) (acN_f (fun q => q.elim (fun q => q.2.2 c121) (fun q => q.1 c107))) | exact ih (k + 1) _ _ _ _ _ (by omega) (by omega) (acN_f (fun q => q.elim (fun q => absurd q.2.1 (by omega)) (fun q => q.1 c107))) | exact ih (k + 1) _ _ _ _ _ (by omega) (by omega) (acN_f (fun q => q.elim (fun q => c107 q.1) (fun q => c139 q.2.1))) | exact ih (k + 1) _ _ _ _ _ (by omega) (by omega) (acN_f (fun q => q.elim (fun q => c107 q.1) (fun q => absurd q.2.2 (by omega)))) | (exfalso; omega)
          · refine Wp.lload rfl dX12_across_117 ?_
            refine Wp.lconst0 dX12_across_119 ?_
            refine Wp.lcmp dX12_across_120 ?_
            refine Wp.if_eqC (tgt := 128) dX12_across_121 (by decide) (fun c121 => ?_) (fun c121 => ?_)
            · refine Wp.iconst dX12_across_128 ?_
              refine Wp.goto (tgt := 158) dX12_across_129 (by decide) ?_
              refine Wp.istore (ls' := [_, _, _, _, _, _, _, _, _, _]) dX12_across_158 (by decide) rfl ?_
              refine Wp.lload rfl dX12_across_160 ?_
              refine Wp.iload rfl dX12_across_162 ?_
              refine Wp.if_eq (tgt := 174) dX12_across_164 (by decide) (by first | omega | exact bI_R _ | exact cmp_R _ _ | assumption) (fun c164 => ?_) (fun c164 => ?_)
              · refine Wp.lconst0 dX12_across_174 ?_
                refine Wp.lor dX12_across_175 ?_
                refine Wp.lstore (ls' := [_, _, _, _, _, _, _, _, _, _]) dX12_across_176 (by decide) rfl ?_
                refine Wp.iinc (ls' := [_, _, _, _, _, _, _, _, _, _]) rfl dX12_across_178 (by decide) rfl ?_
                refine Wp.goto (tgt := 49) dX12_across_181 (by decide) ?_
                first | exact ih (k + 1) _ _ _ _ _ (by omega) (by omega) (acN_t (Or.inl ⟨c107, by omega, c121⟩)) | exact ih (k + 1) _ _ _ _ _ (by omega) (by omega) (acN_t (Or.inr ⟨c107, c139, by omega⟩)) | exact ih (k + 1) _ _ _ _ _ (by omega) (by omega) (acN_f (fun q => q.elim (fun q => q.2.2 c121) (fun q => q.1 c107))) | exact ih (k + 1) _ _ _ _ _ (by omega) (by omega) (acN_f (fun q => q.elim (fun q => absurd q.2.1 (by omega)) (fun q => q.1 c107))) | exact ih (k + 1) _ _ _ _ _ (by omega) (by omega) (acN_f (fun q => q.elim (fun q => c107 q.1) (fun q => c139 q.2.1))) | exact ih (k + 1) _ _ _ _ _ (by omega) (by omega) (acN_f (fun q => q.elim (fun q => c107 q.1) (fun q => absurd q.2.2 (by omega)))) | (exfalso; omega)
              · refine Wp.lconst1 dX12_across_167 ?_
                refine Wp.iload rfl dX12_across_168 ?_
                refine Wp.lshl (by omega) (by omega) dX12_across_170 ?_
                refine Wp.goto (tgt := 175) dX12_across_171 (by decide) ?_
                refine Wp.lor dX12_across_175 ?_
                refine Wp.lstore (ls' := [_, _, _, _, _, _, _, _, _, _]) dX12_across_176 (by decide) rfl ?_
                refine Wp.iinc (ls' := [_, _, _, _, _, _, _, _, _, _]) rfl dX12_across_178 (by decide) rfl ?_
                refine Wp.goto (tgt := 49) dX12_across_181 (by decide) ?_
                first | exact ih (k + 1) _ _ _ _ _ (by omega) (by omega) (acN_t (Or.inl ⟨c107, by omega, c121⟩)) | exact ih (k + 1) _ _ _ _ _ (by omega) (by omega) (acN_t (Or.inr ⟨c107, c139, by omega⟩)) | exact ih (k + 1) _ _ _ _ _ (by omega) (by omega) (acN_f (fun q => q.elim (fun q => q.2.2 c121) (fun q => q.1 c107))) | exact ih (k + 1) _ _ _ _ _ (by omega) (by omega) (acN_f (fun q => q.elim (fun q => absurd q.2.1 (by omega)) (fun q => q.1 c107))) | exact ih (k + 1) _ _ _ _ _ (by omega) (by omega) (acN_f (fun q => q.elim (fun q => c107 q.1) (fun q => c139 q.2.1))) | exact ih (k + 1) _ _ _ _ _ (by omega) (by omega) (acN_f (fun q => q.elim (fun q => c107 q.1) (fun q => absurd q.2.2 (by omega)))) | (exfalso; omega)
            · refine Wp.iconst dX12_across_124 ?_
              refine Wp.goto (tgt := 158) dX12_across_125 (by decide) ?_
              refine Wp.istore (ls' := [_, _, _, _, _, _, _, _, _, _]) dX12_across_158 (by decide) rfl ?_
              refine Wp.lload rfl dX12_across_160 ?_
              refine Wp.iload rfl dX12_across_162 ?_
              refine Wp.if_eq (tgt := 174) dX12_across_164 (by decide) (by first | omega | exact bI_R _ | exact cmp_R _ _ | assumption) (fun c164 => ?_) (fun c164 => ?_)
              · refine Wp.lconst0 dX12_across_174 ?_
                refine Wp.lor dX12_across_175 ?_
                refine Wp.lstore (ls' := [_, _, _, _, _, _, _, _, _, _]) dX12_across_176 (by decide) rfl ?_
                refine Wp.iinc (ls' := [_, _, _, _, _, _, _, _, _, _]) rfl dX12_across_178 (by decide) rfl ?_
                refine Wp.goto (tgt := 49) dX12_across_181 (by decide) ?_
                first | exact ih (k + 1) _ _ _ _ _ (by omega) (by omega) (acN_t (Or.inl ⟨c107, by omega, c121⟩)) | exact ih (k + 1) _ _ _ _ _ (by omega) (by omega) (acN_t (Or.inr ⟨c107, c139, by omega⟩)) | exact ih (k + 1) _ _ _ _ _ (by omega) (by omega) (acN_f (fun q => q.elim (fun q => q.2.2 c121) (fun q => q.1 c107))) | exact ih (k + 1) _ _ _ _ _ (by omega) (by omega) (acN_f (fun q => q.elim (fun q => absurd q.2.1 (by omega)) (fun q => q.1 c107))) | exact ih (k + 1) _ _ _ _ _ (by omega) (by omega) (acN_f (fun q => q.elim (fun q => c107 q.1) (fun q => c139 q.2.1))) | exact ih (k + 1) _ _ _ _ _ (by omega) (by omega) (acN_f (fun q => q.elim (fun q => c107 q.1) (fun q => absurd q.2.2 (by omega)))) | (exfalso; omega)
              · refine Wp.lconst1 dX12_across_167 ?_
                refine Wp.iload rfl dX12_across_168 ?_
                refine Wp.lshl (by omega) (by omega) dX12_across_170 ?_
                refine Wp.goto (tgt := 175) dX12_across_171 (by decide) ?_
                refine Wp.lor dX12_across_175 ?_
                refine Wp.lstore (ls' := [_, _, _, _, _, _, _, _, _, _]) dX12_across_176 (by decide) rfl ?_
                refine Wp.iinc (ls' := [_, _, _, _, _, _, _, _, _, _]) rfl dX12_across_178 (by decide) rfl ?_
                refine Wp.goto (tgt := 49) dX12_across_181 (by decide) ?_
                first | exact ih (k + 1) _ _ _ _ _ (by omega) (by omega) (acN_t (Or.inl ⟨c107, by omega, c121⟩)) | exact ih (k + 1) _ _ _ _ _ (by omega) (by omega) (acN_t (Or.inr ⟨c107, c139, by omega⟩)) | exact ih (k + 1) _ _ _ _ _ (by omega) (by omega) (acN_f (fun q => q.elim (fun q => q.2.2 c121) (fun q => q.1 c107))) | exact ih (k + 1) _ _ _ _ _ (by omega) (by omega) (acN_f (fun q => q.elim (fun q => absurd q.2.1 (by omega)) (fun q => q.1 c107))) | exact ih (k + 1) _ _ _ _ _ (by omega) (by omega) (acN_f (fun q => q.elim (fun q => c107 q.1) (fun q => c139 q.2.1))) | exact ih (k + 1) _ _ _ _ _ (by omega) (by omega) (acN_f (fun q => q.elim (fun q => c107 q.1) (fun q => absurd q.2.2 (by omega)))) | (exfalso; omega)
      refine Wp.iload rfl dX12_across_49 ?_
      refine Wp.bipush rfl dX12_across_51 ?_
      refine Wp.icmp_ge (tgt := 184) dX12_across_53 (by decide) (by first | omega | exact bI_R _ | exact cmp_R _ _ | assumption) (by first | omega | exact bI_R _ | exact cmp_R _ _ | assumption) (fun c53 => ?_) (fun c53 => ?_)
      · exfalso; omega
      · refine Wp.lconst1 dX12_across_56 ?_
        refine Wp.iload rfl dX12_across_57 ?_
        refine Wp.lshl (by omega) (by omega) dX12_across_59 ?_
        refine Wp.lstore (ls' := [_, _, _, _, _, _, _, _, _, _]) dX12_across_60 (by decide) rfl ?_
        refine Wp.iconst dX12_across_62 ?_
        refine Wp.istore (ls' := [_, _, _, _, _, _, _, _, _, _]) dX12_across_63 (by decide) rfl ?_
        exact li k _ (by omega) h106 (s.1 - 1).toNat 0 _ _ (by omega) (by omega) rfl
  refine Wp.lconst0 dX12_across_43 ?_
  refine Wp.lstore (ls' := [_, _, _, _, _, _, _, _, _, _]) dX12_across_44 (by decide) rfl ?_
  refine Wp.iconst dX12_across_46 ?_
  refine Wp.istore (ls' := [_, _, _, _, _, _, _, _, _, _]) dX12_across_47 (by decide) rfl ?_
  exact lo 60 0 _ _ _ _ _ (by omega) (by omega) rfl
theorem ct_X12_across {a b what : Int} (hn : 57 ≤ n) (hFx : Fx R) (hW : RW I) (ha : inR a) (hb : inR b) (hi : inR what) (hq : ∀ J, Eqv I J → Q (some (vl (aAcross I (I 32 11) a b what))) (J, L, R, n)) : Wp mX12_across 0 [some (vr (some 32)), some (vi a), some (vi b), some (vi what), none, none, none, none, none, none] [] (I, L, R, n) (0, 0) Q := by
  refine Wp.iload_n rfl dX12_across_0 ?_
  refine Wp.callS (As := [_]) (ls0 := [_]) (bd := (0, 0)) (bd' := (0, 0)) dX12_across_1 kmX12_isTongue lkX12_147 (by decide) (by decide) (Nat.le_of_ble_eq_true rfl) rfl rfl (Nat.le_of_ble_eq_true rfl) rfl ?_
  refine ct_X12_isTongue (by omega) ?_
  show Wp _ _ _ (_ :: _) _ _ _
  refine Wp.if_eqB (tgt := 14) dX12_across_4 (by decide) (fun c4 => ?_) (fun c4 => ?_)
  · refine Wp.ldc2_w (b := 18446744073709550615#64) ckX12_195 rfl dX12_across_14 ?_
    refine Wp.lreturn dX12_across_17 rfl ?_
    first | (exfalso; omega) | (exact qL (hq _ (Eqv.rf I)) (by unfold aAcross; (repeat' split) <;> first | (exfalso; omega) | rfl))
  · refine Wp.iload_n rfl dX12_across_7 ?_
    refine Wp.callS (As := [_]) (ls0 := [_]) (bd := (0, 0)) (bd' := (0, 0)) dX12_across_8 kmX12_isTongue lkX12_147 (by decide) (by decide) (Nat.le_of_ble_eq_true rfl) rfl rfl (Nat.le_of_ble_eq_true rfl) rfl ?_
    refine ct_X12_isTongue (by omega) ?_
    show Wp _ _ _ (_ :: _) _ _ _
    refine Wp.if_neB (tgt := 18) dX12_across_11 (by decide) (fun c11 => ?_) (fun c11 => ?_)
    · refine Wp.iload_n rfl dX12_across_18 ?_
      refine Wp.iload_n rfl dX12_across_19 ?_
      refine Wp.icmp_eq (tgt := 33) dX12_across_20 (by decide) (by first | omega | exact bI_R _ | exact cmp_R _ _ | assumption) (by first | omega | exact bI_R _ | exact cmp_R _ _ | assumption) (fun c20 => ?_) (fun c20 => ?_)
      · refine Wp.ldc2_w (b := 18446744073709550614#64) ckX12_204 rfl dX12_across_33 ?_
        refine Wp.lreturn dX12_across_36 rfl ?_
        first | (exfalso; omega) | (exact qL (hq _ (Eqv.rf I)) (by unfold aAcross; (repeat' split) <;> first | (exfalso; omega) | rfl))
      · refine Wp.iload_n rfl dX12_across_23 ?_
        refine Wp.i2l (by first | omega | exact bI_R _ | exact cmp_R _ _ | assumption) dX12_across_24 ?_
        refine Wp.lconst0 dX12_across_25 ?_
        refine Wp.lconst1 dX12_across_26 ?_
        refine Wp.callS (As := [_, _, _]) (ls0 := [_, _, _, _, _, _]) (bd := (0, 0)) (bd' := (0, 0)) dX12_across_27 kmX12_in lkX12_100 (by decide) (by decide) (Nat.le_of_ble_eq_true rfl) rfl rfl (Nat.le_of_ble_eq_true rfl) rfl ?_
        refine ct_X12_in (a := 0) (b := 1) (ofI_toInt hi) rfl rfl ?_
        show Wp _ _ _ (_ :: _) _ _ _
        refine Wp.if_neB (tgt := 37) dX12_across_30 (by decide) (fun c30 => ?_) (fun c30 => ?_)
        · refine Wp.aload_n rfl dX12_across_37 ?_
          refine Wp.iload_n rfl dX12_across_38 ?_
          refine Wp.iload_n rfl dX12_across_39 ?_
          refine Wp.callV (As := [_, _]) (ls0 := [_, _, _, _, _, _, _, _, _]) (bd := (0, 0)) (bd' := (0, 0)) dX12_across_40 kmX12_findChain lkX12_277 (by decide) (by decide) (Nat.le_of_ble_eq_true rfl) (by first | rfl | exact kd_b0 _ | exact kd_b1 _ | exact kd_b2 _ | exact kd_b3 _ | exact kd_b4 _ | exact kd_b5 _ | exact kd_b6 _) (by omega) rfl rfl (Nat.le_of_ble_eq_true rfl) rfl ?_
          refine ct_X12_findChain hn hFx hW (by omega) (by omega) (fun J hJ hs => ?_)
          show Wp _ _ _ _ _ _ _
          refine ac43 hn hFx (RW_cg hJ.se hW) (by omega) (by omega) (by omega) (fcX_ok (by omega) 4 (by omega)) hs ?_ _ _ _ _ _ _
          have h2 := hq J hJ
          unfold aAcross at h2
          rw [if_pos (by omega), if_pos (by omega)] at h2
          rw [hJ.lk, acN_cg hJ.se]
          exact h2
        · refine Wp.ldc2_w (b := 18446744073709550614#64) ckX12_204 rfl dX12_across_33 ?_
          refine Wp.lreturn dX12_across_36 rfl ?_
          first | (exfalso; omega) | (exact qL (hq _ (Eqv.rf I)) (by unfold aAcross; (repeat' split) <;> first | (exfalso; omega) | rfl))
    · refine Wp.ldc2_w (b := 18446744073709550615#64) ckX12_195 rfl dX12_across_14 ?_
      refine Wp.lreturn dX12_across_17 rfl ?_
      first | (exfalso; omega) | (exact qL (hq _ (Eqv.rf I)) (by unfold aAcross; (repeat' split) <;> first | (exfalso; omega) | rfl))
end

