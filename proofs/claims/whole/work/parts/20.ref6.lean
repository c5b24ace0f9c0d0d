/-! ===== the reference: ways through ===== -/
section
variable {I : Nat → Int → Int} {L : Nat → Int → BitVec 64} {R : Nat → Int → Option Nat} {n : Nat} {m : Mm} {Q : Option AV → Mm → Prop}
theorem cntE_le {e : Int} (h : e = -1 ∨ EOk I e) {k tt : Nat} (hk : k + (tt + 1) = cntE I e) : EOk I e ∧ 0 ≤ e ∧ (k : Int) < I 36 e ∧ cntE I e = (I 36 e).toNat := by
  unfold cntE at *
  rcases h with h | h
  · rw [if_pos (by omega)] at hk; omega
  · have h1 := h.1
    rw [if_neg (by omega)] at *
    exact ⟨h, h1.1, by omega, rfl⟩
theorem cntE_end {e : Int} (h : e = -1 ∨ EOk I e) : e = -1 ∨ (0 ≤ e ∧ e < 480 ∧ (cntE I e : Int) = I 36 e ∧ 0 ≤ I 36 e ∧ I 36 e ≤ 3) := by
  unfold cntE
  rcases h with h | h
  · left; omega
  · have h1 := h.1
    right
    rw [if_neg (by omega)]
    omega
theorem wtU_t {ag s t o n0 : Int} {k : Nat} (h : (I 37 s < 0 ∨ I 37 (3 * o + k) < 0 ∨ I 37 s = I 37 (3 * o + k)) ∧ (ss I ag (3 * o + k)).getLsbD t.toNat = true) : n0 + wtU I ag s t o k + 1 = n0 + wtU I ag s t o (k + 1) := by
  simp only [wtU]; rw [if_pos h]; omega
theorem wtU_f {ag s t o n0 : Int} {k : Nat} (h : ¬ ((I 37 s < 0 ∨ I 37 (3 * o + k) < 0 ∨ I 37 s = I 37 (3 * o + k)) ∧ (ss I ag (3 * o + k)).getLsbD t.toNat = true)) : n0 + wtU I ag s t o k + 0 = n0 + wtU I ag s t o (k + 1) := by
  simp only [wtU]; rw [if_neg h]; omega
theorem wtX_t {lk ag s mm c t n0 : Int} {k : Nat} (h : (ss I ag s).getLsbD k = true) : n0 + wtX I lk ag s mm c t k + wtU I ag s t (ent I lk mm k c) (cntE I (ent I lk mm k c)) = n0 + wtX I lk ag s mm c t (k + 1) := by
  simp only [wtX]; rw [if_pos h]; omega
theorem wtX_f {lk ag s mm c t n0 : Int} {k : Nat} (h : ¬ (ss I ag s).getLsbD k = true) : n0 + wtX I lk ag s mm c t k + wtU I ag s t (-1) (cntE I (-1)) = n0 + wtX I lk ag s mm c t (k + 1) := by
  simp only [wtX]; rw [if_neg h]; simp [cntE, wtU]
set_option maxHeartbeats 1000000 in
theorem ct_X12_weightOf {a w mm c t : Int} (hn : 57 ≤ n) (hFx : Fx R) (hW : RW I) (ha : inR a) (hm : inR mm) (hc : inR c) (hw0 : 0 ≤ w) (hw1 : w < 60) (ht0 : 0 ≤ t) (ht1 : t < 60) (hq : Q (some (vi (wt I (I 32 11) a w mm c t))) (I, L, R, n)) : Wp mX12_weightOf 0 [some (vr (some 32)), some (vi a), some (vi w), some (vi mm), some (vi c), some (vi t), none, none, none, none, none, none, none, none, none] [] (I, L, R, n) (0, 0) Q := by
  have hA := hW.2.2.2.2.1
  have lu : ∀ (e : Int) (n0 : Int) (s : Int) (set : BitVec 64) (x : Int) (o : Int) (ho : o = -1 ∨ EOk I o) (hs : SOk I s) (hc' : ∀ (x13 x14 : Option AV), Wp mX12_weightOf 194 [some (vr (some 32)), some (vi a), some (vi w), some (vi mm), some (vi c), some (vi t), some (vi e), some (vi (n0 + wtU I (I 32 10) s t o (cntE I o))), some (vi s), some (vl set), none, some (vi x), some (vi o), x13, x14] [] (I, L, R, n) (0, 0) Q) , ∀ (tt k : Nat) (z : Int) (acc : Int) (x14 : Option AV), k + tt = (cntE I o) → z = 3 * o + k → acc = n0 + wtU I (I 32 10) s t o k → Wp mX12_weightOf 91 [some (vr (some 32)), some (vi a), some (vi w), some (vi mm), some (vi c), some (vi t), some (vi e), some (vi acc), some (vi s), some (vl set), none, some (vi x), some (vi o), some (vi z), x14] [] (I, L, R, n) (0, 0) Q := by
    intro e n0 s set x o ho hs hc'
    intro tt
    induction tt with
    | zero =>
      intro k z acc x14 hkt hz e0
      obtain rfl : k = (cntE I o) := by omega
      have hce := cntE_end ho
      refine Wp.iload rfl dX12_weightOf_91 ?_
      refine Wp.if_lt (tgt := 194) dX12_weightOf_93 (by decide) (by first | omega | exact bI_R _ | exact cmp_R _ _ | assumption) (fun c93 => ?_) (fun c93 => ?_)
      · subst e0; exact hc' _ _
      · refine Wp.iload rfl dX12_weightOf_96 ?_
        refine Wp.iconst dX12_weightOf_98 ?_
        refine Wp.iload rfl dX12_weightOf_99 ?_
        refine Wp.imul dX12_weightOf_101 ?_
        refine Wp.aload_n rfl dX12_weightOf_102 ?_
        refine Wp.gr (kz := 4) rfl dX12_weightOf_103 fkX12_19 (by first | rfl | exact kd_b0 _ | exact kd_b1 _ | exact kd_b2 _ | exact kd_b3 _ | exact kd_b4 _ | exact kd_b5 _ | exact kd_b6 _) (by omega) (by first | exact hFx _ 4 _ rfl | assumption | exact hBk.1 | exact hBk.2.1 | exact hBk.2.2.1 | exact hBk.2.2.2.1 | exact hBk.2.2.2.2.1 | exact hBk.2.2.2.2.2) ?_
        refine Wp.iload rfl dX12_weightOf_106 ?_
        refine Wp.iaload dX12_weightOf_108 (by first | rfl | exact kd_b0 _ | exact kd_b1 _ | exact kd_b2 _ | exact kd_b3 _ | exact kd_b4 _ | exact kd_b5 _ | exact kd_b6 _) (by omega) (by omega) (by omega) ?_
        refine Wp.iadd dX12_weightOf_109 ?_
        refine Wp.icmp_ge (tgt := 194) dX12_weightOf_110 (by decide) (by first | omega | exact bI_R _ | exact cmp_R _ _ | assumption) (by first | omega | exact bI_R _ | exact cmp_R _ _ | assumption) (fun c110 => ?_) (fun c110 => ?_)
        · subst e0; exact hc' _ _
        · exfalso; omega
    | succ tt ih =>
      intro k z acc x14 hkt hz e0
      subst hz
      subst e0
      obtain ⟨hE, ho0, hk1, hcn⟩ := cntE_le ho hkt
      have hE1 := hE.1
      have hs1 := hs.1
      have hu := (hE.2 k (by omega) hk1).1
      refine Wp.iload rfl dX12_weightOf_91 ?_
      refine Wp.if_lt (tgt := 194) dX12_weightOf_93 (by decide) (by first | omega | exact bI_R _ | exact cmp_R _ _ | assumption) (fun c93 => ?_) (fun c93 => ?_)
      · exfalso; omega
      · refine Wp.iload rfl dX12_weightOf_96 ?_
        refine Wp.iconst dX12_weightOf_98 ?_
        refine Wp.iload rfl dX12_weightOf_99 ?_
        refine Wp.imul dX12_weightOf_101 ?_
        refine Wp.aload_n rfl dX12_weightOf_102 ?_
        refine Wp.gr (kz := 4) rfl dX12_weightOf_103 fkX12_19 (by first | rfl | exact kd_b0 _ | exact kd_b1 _ | exact kd_b2 _ | exact kd_b3 _ | exact kd_b4 _ | exact kd_b5 _ | exact kd_b6 _) (by omega) (by first | exact hFx _ 4 _ rfl | assumption | exact hBk.1 | exact hBk.2.1 | exact hBk.2.2.1 | exact hBk.2.2.2.1 | exact hBk.2.2.2.2.1 | exact hBk.2.2.2.2.2) ?_
        refine Wp.iload rfl dX12_weightOf_106 ?_
        refine Wp.iaload dX12_weightOf_108 (by first | rfl | exact kd_b0 _ | exact kd_b1 _ | exact kd_b2 _ | exact kd_b3 _ | exact kd_b4 _ | exact kd_b5 _ | exact kd_b6 _) (by omega) (by omega) (by omega) ?_
        refine Wp.iadd dX12_weightOf_109 ?_
        refine Wp.icmp_ge (tgt := 194) dX12_weightOf_110 (by decide) (by first | omega | exact bI_R _ | exact cmp_R _ _ | assumption) (by first | omega | exact bI_R _ | exact cmp_R _ _ | assumption) (fun c110 => ?_) (fun c110 => ?_)
        · exfalso; omega
        · refine Wp.aload_n rfl dX12_weightOf_113 ?_
          refine Wp.gr (kz := 5) rfl dX12_weightOf_114 fkX12_22 (by first | rfl | exact kd_b0 _ | exact kd_b1 _ | exact kd_b2 _ | exact kd_b3 _ | exact kd_b4 _ | exact kd_b5 _ | exact kd_b6 _) (by omega) (by first | exact hFx _ 5 _ rfl | assumption | exact hBk.1 | exact hBk.2.1 | exact hBk.2.2.1 | exact hBk.2.2.2.1 | exact hBk.2.2.2.2.1 | exact hBk.2.2.2.2.2) ?_
          refine Wp.iload rfl dX12_weightOf_117 ?_
          refine Wp.iaload dX12_weightOf_119 (by first | rfl | exact kd_b0 _ | exact kd_b1 _ | exact kd_b2 _ | exact kd_b3 _ | exact kd_b4 _ | exact kd_b5 _ | exact kd_b6 _) (by omega) (by omega) (by omega) ?_
          refine Wp.if_lt (tgt := 150) dX12_weightOf_120 (by decide) (by first | omega | exact bI_R _ | exact cmp_R _ _ | assumption) (fun c120 => ?_) (fun c120 => ?_)
          · refine Wp.iconst dX12_weightOf_150 ?_
            refine Wp.goto (tgt := 155) dX12_weightOf_151 (by decide) ?_
            refine Wp.istore (ls' := [_, _, _, _, _, _, _, _, _, _, _, _, _, _, _]) dX12_weightOf_155 (by decide) rfl ?_
            refine Wp.iload rfl dX12_weightOf_157 ?_
            refine Wp.iload rfl dX12_weightOf_159 ?_
            refine Wp.if_eq (tgt := 184) dX12_weightOf_161 (by decide) (by first | omega | exact bI_R _ | exact cmp_R _ _ | assumption) (fun c161 => ?_) (fun c161 => ?_)
            · refine Wp.iconst dX12_weightOf_184 ?_
              refine Wp.iadd dX12_weightOf_185 ?_
              refine Wp.istore (ls' := [_, _, _, _, _, _, _, _, _, _, _, _, _, _, _]) dX12_weightOf_186 (by decide) rfl ?_
              refine Wp.iinc (ls' := [_, _, _, _, _, _, _, _, _, _, _, _, _, _, _]) rfl dX12_weightOf_188 (by decide) rfl ?_
              refine Wp.goto (tgt := 91) dX12_weightOf_191 (by decide) ?_
              first | exact ih (k + 1) _ _ _ (by omega) (by omega) (wtU_t ⟨by omega, (b_s1 (by omega)).mp c177⟩) | exact ih (k + 1) _ _ _ (by omega) (by omega) (wtU_f (fun q => c177 ((b_s1 (by omega)).mpr q.2))) | exact ih (k + 1) _ _ _ (by omega) (by omega) (wtU_f (fun q => by omega)) | (exfalso; omega)
            · refine Wp.aload_n rfl dX12_weightOf_164 ?_
              refine Wp.iload rfl dX12_weightOf_165 ?_
              refine Wp.callV (As := [_]) (ls0 := [_, _, _, _, _]) (bd := (0, 0)) (bd' := (0, 0)) dX12_weightOf_167 kmX12_senseSet lkX12_178 (by decide) (by decide) (Nat.le_of_ble_eq_true rfl) (by first | rfl | exact kd_b0 _ | exact kd_b1 _ | exact kd_b2 _ | exact kd_b3 _ | exact kd_b4 _ | exact kd_b5 _ | exact kd_b6 _) (by omega) rfl rfl (Nat.le_of_ble_eq_true rfl) rfl ?_
              refine ct_X12_senseSet hn hFx (by first | assumption | exact hE.2 _ (by omega) (by omega)) hA ?_
              show Wp _ _ _ (_ :: _) _ _ _
              refine Wp.iload rfl dX12_weightOf_170 ?_
              refine Wp.lshr (by omega) (by omega) dX12_weightOf_172 ?_
              refine Wp.lconst1 dX12_weightOf_173 ?_
              refine Wp.land dX12_weightOf_174 ?_
              refine Wp.lconst1 dX12_weightOf_175 ?_
              refine Wp.lcmp dX12_weightOf_176 ?_
              refine Wp.if_neC (tgt := 184) dX12_weightOf_177 (by decide) (fun c177 => ?_) (fun c177 => ?_)
              · refine Wp.iconst dX12_weightOf_184 ?_
                refine Wp.iadd dX12_weightOf_185 ?_
                refine Wp.istore (ls' := [_, _, _, _, _, _, _, _, _, _, _, _, _, _, _]) dX12_weightOf_186 (by decide) rfl ?_
                refine Wp.iinc (ls' := [_, _, _, _, _, _, _, _, _, _, _, _, _, _, _]) rfl dX12_weightOf_188 (by decide) rfl ?_
                refine Wp.goto (tgt := 91) dX12_weightOf_191 (by decide) ?_
                first | exact ih (k + 1) _ _ _ (by omega) (by omega) (wtU_t ⟨by omega, (b_s1 (by omega)).mp c177⟩) | exact ih (k + 1) _ _ _ (by omega) (by omega) (wtU_f (fun q => c177 ((b_s1 (by omega)).mpr q.2))) | exact ih (k + 1) _ _ _ (by omega) (by omega) (wtU_f (fun q => by omega)) | (exfalso; omega)
              · refine Wp.iconst dX12_weightOf_180 ?_
                refine Wp.goto (tgt := 185) dX12_weightOf_181 (by decide) ?_
                refine Wp.iadd dX12_weightOf_185 ?_
                refine Wp.istore (ls' := [_, _, _, _, _, _, _, _, _, _, _, _, _, _, _]) dX12_weightOf_186 (by decide) rfl ?_
                refine Wp.iinc (ls' := [_, _, _, _, _, _, _, _, _, _, _, _, _, _, _]) rfl dX12_weightOf_188 (by decide) rfl ?_
                refine Wp.goto (tgt := 91) dX12_weightOf_191 (by decide) ?_
                first | exact ih (k + 1) _ _ _ (by omega) (by omega) (wtU_t ⟨by omega, (b_s1 (by omega)).mp c177⟩) | exact ih (k + 1) _ _ _ (by omega) (by omega) (wtU_f (fun q => c177 ((b_s1 (by omega)).mpr q.2))) | exact ih (k + 1) _ _ _ (by omega) (by omega) (wtU_f (fun q => by omega)) | (exfalso; omega)
          · refine Wp.aload_n rfl dX12_weightOf_123 ?_
            refine Wp.gr (kz := 5) rfl dX12_weightOf_124 fkX12_22 (by first | rfl | exact kd_b0 _ | exact kd_b1 _ | exact kd_b2 _ | exact kd_b3 _ | exact kd_b4 _ | exact kd_b5 _ | exact kd_b6 _) (by omega) (by first | exact hFx _ 5 _ rfl | assumption | exact hBk.1 | exact hBk.2.1 | exact hBk.2.2.1 | exact hBk.2.2.2.1 | exact hBk.2.2.2.2.1 | exact hBk.2.2.2.2.2) ?_
            refine Wp.iload rfl dX12_weightOf_127 ?_
            refine Wp.iaload dX12_weightOf_129 (by first | rfl | exact kd_b0 _ | exact kd_b1 _ | exact kd_b2 _ | exact kd_b3 _ | exact kd_b4 _ | exact kd_b5 _ | exact kd_b6 _) (by omega) (by omega) (by omega) ?_
            refine Wp.if_lt (tgt := 150) dX12_weightOf_130 (by decide) (by omega) (fun c130 => ?_) (fun c130 => ?_)
            · refine Wp.iconst dX12_weightOf_150 ?_
              refine Wp.goto (tgt := 155) dX12_weightOf_151 (by decide) ?_
              refine Wp.istore (ls' := [_, _, _, _, _, _, _, _, _, _, _, _, _, _, _]) dX12_weightOf_155 (by decide) rfl ?_
              refine Wp.iload rfl dX12_weightOf_157 ?_
              refine Wp.iload rfl dX12_weightOf_159 ?_
              refine Wp.if_eq (tgt := 184) dX12_weightOf_161 (by decide) (by first | omega | exact bI_R _ | exact cmp_R _ _ | assumption) (fun c161 => ?_) (fun c161 => ?_)
              · refine Wp.iconst dX12_weightOf_184 ?_
                refine Wp.iadd dX12_weightOf_185 ?_
                refine Wp.istore (ls' := [_, _, _, _, _, _, _, _, _, _, _, _, _, _, _]) dX12_weightOf_186 (by decide) rfl ?_
                refine Wp.iinc (ls' := [_, _, _, _, _, _, _, _, _, _, _, _, _, _, _]) rfl dX12_weightOf_188 (by decide) rfl ?_
                refine Wp.goto (tgt := 91) dX12_weightOf_191 (by decide) ?_
                first | exact ih (k + 1) _ _ _ (by omega) (by omega) (wtU_t ⟨by omega, (b_s1 (by omega)).mp c177⟩) | exact ih (k + 1) _ _ _ (by omega) (by omega) (wtU_f (fun q => c177 ((b_s1 (by omega)).mpr q.2))) | exact ih (k + 1) _ _ _ (by omega) (by omega) (wtU_f (fun q => by omega)) | (exfalso; omega)
              · refine Wp.aload_n rfl dX12_weightOf_164 ?_
                refine Wp.iload rfl dX12_weightOf_165 ?_
                refine Wp.callV (As := [_]) (ls0 := [_, _, _, _, _]) (bd := (0, 0)) (bd' := (0, 0)) dX12_weightOf_167 kmX12_senseSet lkX12_178 (by decide) (by decide) (Nat.le_of_ble_eq_true rfl) (by first | rfl | exact kd_b0 _ | exact kd_b1 _ | exact kd_b2 _ | exact kd_b3 _ | exact kd_b4 _ | exact kd_b5 _ | exact kd_b6 _) (by omega) rfl rfl (Nat.le_of_ble_eq_true rfl) rfl ?_
                refine ct_X12_senseSet hn hFx (by first | assumption | exact hE.2 _ (by omega) (by omega)) hA ?_
                show Wp _ _ _ (_ :: _) _ _ _
                refine Wp.iload rfl dX12_weightOf_170 ?_
                refine Wp.lshr (by omega) (by omega) dX12_weightOf_172 ?_
                refine Wp.lconst1 dX12_weightOf_173 ?_
                refine Wp.land dX12_weightOf_174 ?_
                refine Wp.lconst1 dX12_weightOf_175 ?_
                refine Wp.lcmp dX12_weightOf_176 ?_
                refine Wp.if_neC (tgt := 184) dX12_weightOf_177 (by decide) (fun c177 => ?_) (fun c177 => ?_)
                · refine Wp.iconst dX12_weightOf_184 ?_
                  refine Wp.iadd dX12_weightOf_185 ?_
                  refine Wp.istore (ls' := [_, _, _, _, _, _, _, _, _, _, _, _, _, _, _]) dX12_weightOf_186 (by decide) rfl ?_
                  refine Wp.iinc (ls' := [_, _, _, _, _, _, _, _, _, _, _, _, _, _, _]) rfl dX12_weightOf_188 (by decide) rfl ?_
                  refine Wp.goto (tgt := 91) dX12_weightOf_191 (by decide) ?_
                  first | exact ih (k + 1) _ _ _ (by omega) (by omega) (wtU_t ⟨by omega, (b_s1 (by omega)).mp c177⟩) | exact ih (k + 1) _ _ _ (by omega) (by omega) (wtU_f (fun q => c177 ((b_s1 (by omega)).mpr q.2))) | exact ih (k + 1) _ _ _ (by omega) (by omega) (wtU_f (fun q => by omega)) | (exfalso; omega)
                · refine Wp.iconst dX12_weightOf_180 ?_
                  refine Wp.goto (tgt := 185) dX12_weightOf_181 (by decide) ?_
                  refine Wp.iadd dX12_weightOf_185 ?_
                  refine Wp.istore (ls' := [_, _, _, _, _, _, _, _, _, _, _, _, _, _, _]) dX12_weightOf_186 (by decide) rfl ?_
                  refine Wp.iinc (ls' := [_, _, _, _, _, _, _, _, _, _, _, _, _, _, _]) rfl dX12_weightOf_188 (by decide) rfl ?_
                  refine Wp.goto (tgt := 91) dX12_weightOf_191 (by decide) ?_
                  first | exact ih (k + 1) _ _ _ (by omega) (by omega) (wtU_t ⟨by omega, (b_s1 (by omega)).mp c177⟩) | exact ih (k + 1) _ _ _ (by omega) (by omega) (wtU_f (fun q => c177 ((b_s1 (by omega)).mpr q.2))) | exact ih (k + 1) _ _ _ (by omega) (by omega) (wtU_f (fun q => by omega)) | (exfalso; omega)
            · refine Wp.aload_n rfl dX12_weightOf_133 ?_
              refine Wp.gr (kz := 5) rfl dX12_weightOf_134 fkX12_22 (by first | rfl | exact kd_b0 _ | exact kd_b1 _ | exact kd_b2 _ | exact kd_b3 _ | exact kd_b4 _ | exact kd_b5 _ | exact kd_b6 _) (by omega) (by first | exact hFx _ 5 _ rfl | assumption | exact hBk.1 | exact hBk.2.1 | exact hBk.2.2.1 | exact hBk.2.2.2.1 | exact hBk.2.2.2.2.1 | exact hBk.2.2.2.2.2) ?_
              refine Wp.iload rfl dX12_weightOf_137 ?_
              refine Wp.iaload dX12_weightOf_139 (by first | rfl | exact kd_b0 _ | exact kd_b1 _ | exact kd_b2 _ | exact kd_b3 _ | exact kd_b4 _ | exact kd_b5 _ | exact kd_b6 _) (by omega) (by omega) (by omega) ?_
              refine Wp.aload_n rfl dX12_weightOf_140 ?_
              refine Wp.gr (kz := 5) rfl dX12_weightOf_141 fkX12_22 (by first | rfl | exact kd_b0 _ | exact kd_b1 _ | exact kd_b2 _ | exact kd_b3 _ | exact kd_b4 _ | exact kd_b5 _ | exact kd_b6 _) (by omega) (by first | exact hFx _ 5 _ rfl | assumption | exact hBk.1 | exact hBk.2.1 | exact hBk.2.2.1 | exact hBk.2.2.2.1 | exact hBk.2.2.2.2.1 | exact hBk.2.2.2.2.2) ?_
              refine Wp.iload rfl dX12_weightOf_144 ?_
              refine Wp.iaload dX12_weightOf_146 (by first | rfl | exact kd_b0 _ | exact kd_b1 _ | exact kd_b2 _ | exact kd_b3 _ | exact kd_b4 _ | exact kd_b5 _ | exact kd_b6 _) (by omega) (by omega) (by omega) ?_
              refine Wp.icmp_ne (tgt := 154) dX12_weightOf_147 (by decide) (by omega) (by omega) (fun c147 => ?_) (fun c147 => ?_)
              · refine Wp.iconst dX12_weightOf_154 ?_
                refine Wp.istore (ls' := [_, _, _, _, _, _, _, _, _, _, _, _, _, _, _]) dX12_weightOf_155 (by decide) rfl ?_
                refine Wp.iload rfl dX12_weightOf_157 ?_
                refine Wp.iload rfl dX12_weightOf_159 ?_
                refine Wp.if_eq (tgt := 184) dX12_weightOf_161 (by decide) (by first | omega | exact bI_R _ | exact cmp_R _ _ | assumption) (fun c161 => ?_) (fun c161 => ?_)
                · refine Wp.iconst dX12_weightOf_184 ?_
                  refine Wp.iadd dX12_weightOf_185 ?_
                  refine Wp.istore (ls' := [_, _, _, _, _, _, _, _, _, _, _, _, _, _, _]) dX12_weightOf_186 (by decide) rfl ?_
                  refine Wp.iinc (ls' := [_, _, _, _, _, _, _, _, _, _, _, _, _, _, _]) rfl dX12_weightOf_188 (by decide) rfl ?_
                  refine Wp.goto (tgt := 91) dX12_weightOf_191 (by decide) ?_
                  first | exact ih (k + 1) _ _ _ (by omega) (by omega) (wtU_t ⟨by omega, (b_s1 (by omega)).mp c177⟩) | exact ih (k + 1) _ _ _ (by omega) (by omega) (wtU_f (fun q => c177 ((b_s1 (by omega)).mpr q.2))) | exact ih (k + 1) _ _ _ (by omega) (by omega) (wtU_f (fun q => by omega)) | (exfalso; omega)
                · refine Wp.aload_n rfl dX12_weightOf_164 ?_
                  refine Wp.iload rfl dX12_weightOf_165 ?_
                  refine Wp.callV (As := [_]) (ls0 := [_, _, _, _, _]) (bd := (0, 0)) (bd' := (0, 0)) dX12_weightOf_167 kmX12_senseSet lkX12_178 (by decide) (by decide) (Nat.le_of_ble_eq_true rfl) (by first | rfl | exact kd_b0 _ | exact kd_b1 _ | exact kd_b2 _ | exact kd_b3 _ | exact kd_b4 _ | exact kd_b5 _ | exact kd_b6 _) (by omega) rfl rfl (Nat.le_of_ble_eq_true rfl) rfl ?_
                  refine ct_X12_senseSet hn hFx (by first | assumption | exact hE.2 _ (by omega) (by omega)) hA ?_
                  show Wp _ _ _ (_ :: _) _ _ _
                  refine Wp.iload rfl dX12_weightOf_170 ?_
                  refine Wp.lshr (by omega) (by omega) dX12_weightOf_172 ?_
                  refine Wp.lconst1 dX12_weightOf_173 ?_
                  refine Wp.land dX12_weightOf_174 ?_
                  refine Wp.lconst1 dX12_weightOf_175 ?_
                  refine Wp.lcmp dX12_weightOf_176 ?_
                  refine Wp.if_neC (tgt := 184) dX12_weightOf_177 (by decide) (fun c177 => ?_) (fun c177 => ?_)
                  · refine Wp.iconst dX12_weightOf_184 ?_
                    refine Wp.iadd dX12_weightOf_185 ?_
                    refine Wp.istore (ls' := [_, _, _, _, _, _, _, _, _, _, _, _, _, _, _]) dX12_weightOf_186 (by decide) rfl ?_
                    refine Wp.iinc (ls' := [_, _, _, _, _, _, _, _, _, _, _, _, _, _, _]) rfl dX12_weightOf_188 (by decide) rfl ?_
                    refine Wp.goto (tgt := 91) dX12_weightOf_191 (by decide) ?_
                    first | exact ih (k + 1) _ _ _ (by omega) (by omega) (wtU_t ⟨by omega, (b_s1 (by omega)).mp c177⟩) | exact ih (k + 1) _ _ _ (by omega) (by omega) (wtU_f (fun q => c177 ((b_s1 (by omega)).mpr q.2))) | exact ih (k + 1) _ _ _ (by omega) (by omega) (wtU_f (fun q => by omega)) | (exfalso; omega)
                  · refine Wp.iconst dX12_weightOf_180 ?_
                    refine Wp.goto (tgt := 185) dX12_weightOf_181 (by decide) ?_
                    refine Wp.iadd dX12_weightOf_185 ?_
                    refine Wp.istore (ls' := [_, _, _, _, _, _, _, _, _, _, _, _, _, _, _]) dX12_weightOf_186 (by decide) rfl ?_
                    refine Wp.iinc (ls' := [_, _, _, _, _, _, _, _, _, _, _, _, _, _, _]) rfl dX12_weightOf_188 (by decide) rfl ?_
                    refine Wp.goto (tgt := 91) dX12_weightOf_191 (by decide) ?_
                    first | exact ih (k + 1) _ _ _ (by omega) (by omega) (wtU_t ⟨by omega, (b_s1 (by omega)).mp c177⟩) | exact ih (k + 1) _ _ _ (by omega) (by omega) (wtU_f (fun q => c177 ((b_s1 (by omega)).mpr q.2))) | exact ih (k + 1) _ _ _ (by omega) (by omega) (wtU_f (fun q => by omega)) | (exfalso; omega)
              · refine Wp.iconst dX12_weightOf_150 ?_
                refine Wp.goto (tgt := 155) dX12_weightOf_151 (by decide) ?_
                refine Wp.istore (ls' := [_, _, _, _, _, _, _, _, _, _, _, _, _, _, _]) dX12_weightOf_155 (by decide) rfl ?_
                refine Wp.iload rfl dX12_weightOf_157 ?_
                refine Wp.iload rfl dX12_weightOf_159 ?_
                refine Wp.if_eq (tgt := 184) dX12_weightOf_161 (by decide) (by first | omega | exact bI_R _ | exact cmp_R _ _ | assumption) (fun c161 => ?_) (fun c161 => ?_)
                · refine Wp.iconst dX12_weightOf_184 ?_
                  refine Wp.iadd dX12_weightOf_185 ?_
                  refine Wp.istore (ls' := [_, _, _, _, _, _, _, _, _, _, _, _, _, _, _]) dX12_weightOf_186 (by decide) rfl ?_
                  refine Wp.iinc (ls' := [_, _, _, _, _, _, _, _, _, _, _, _, _, _, _]) rfl dX12_weightOf_188 (by decide) rfl ?_
                  refine Wp.goto (tgt := 91) dX12_weightOf_191 (by decide) ?_
                  first | exact ih (k + 1) _ _ _ (by omega) (by omega) (wtU_t ⟨by omega, (b_s1 (by omega)).mp c177⟩) | exact ih (k + 1) _ _ _ (by omega) (by omega) (wtU_f (fun q => c177 ((b_s1 (by omega)).mpr q.2))) | exact ih (k + 1) _ _ _ (by omega) (by omega) (wtU_f (fun q => by omega)) | (exfalso; omega)
                · refine Wp.aload_n rfl dX12_weightOf_164 ?_
                  refine Wp.iload rfl dX12_weightOf_165 ?_
                  refine Wp.callV (As := [_]) (ls0 := [_, _, _, _, _]) (bd := (0, 0)) (bd' := (0, 0)) dX12_weightOf_167 kmX12_senseSet lkX12_178 (by decide) (by decide) (Nat.le_of_ble_eq_true rfl) (by first | rfl | exact kd_b0 _ | exact kd_b1 _ | exact kd_b2 _ | exact kd_b3 _ | exact kd_b4 _ | exact kd_b5 _ | exact kd_b6 _) (by omega) rfl rfl (Nat.le_of_ble_eq_true rfl) rfl ?_
                  refine ct_X12_senseSet hn hFx (by first | assumption | exact hE.2 _ (by omega) (by omega)) hA ?_
                  show Wp _ _ _ (_ :: _) _ _ _
                  refine Wp.iload rfl dX12_weightOf_170 ?_
                  refine Wp.lshr (by omega) (by omega) dX12_weightOf_172 ?_
                  refine Wp.lconst1 dX12_weightOf_173 ?_
                  refine Wp.land dX12_weightOf_174 ?_
                  refine Wp.lconst1 dX12_weightOf_175 ?_
                  refine Wp.lcmp dX12_weightOf_176 ?_
                  refine Wp.if_neC (tgt := 184) dX12_weightOf_177 (by decide) (fun c177 => ?_) (fun c177 => ?_)
                  · refine Wp.iconst dX12_weightOf_184 ?_
                    refine Wp.iadd dX12_weightOf_185 ?_
                    refine Wp.istore (ls' := [_, _, _, _, _, _, _, _, _, _, _, _, _, _, _]) dX12_weightOf_186 (by decide) rfl ?_
                    refine Wp.iinc (ls' := [_, _, _, _, _, _, _, _, _, _, _, _, _, _, _]) rfl dX12_weightOf_188 (by decide) rfl ?_
                    refine Wp.goto (tgt := 91) dX12_weightOf_191 (by decide) ?_
                    first | exact ih (k + 1) _ _ _ (by omega) (by omega) (wtU_t ⟨by omega, (b_s1 (by omega)).mp c177⟩) | exact ih (k + 1) _ _ _ (by omega) (by omega) (wtU_f (fun q => c177 ((b_s1 (by omega)).mpr q.2))) | exact ih (k + 1) _ _ _ (by omega) (by omega) (wtU_f (fun q => by omega)) | (exfalso; omega)
                  · refine Wp.iconst dX12_weightOf_180 ?_
                    refine Wp.goto (tgt := 185) dX12_weightOf_181 (by decide) ?_
                    refine Wp.iadd dX12_weightOf_185 ?_
                    refine Wp.istore (ls' := [_, _, _, _, _, _, _, _, _, _, _, _, _, _, _]) dX12_weightOf_186 (by decide) rfl ?_
                    refine Wp.iinc (ls' := [_, _, _, _, _, _, _, _, _, _, _, _, _, _, _]) rfl dX12_weightOf_188 (by decide) rfl ?_
                    refine Wp.goto (tgt := 91) dX12_weightOf_191 (by decide) ?_
                    first | exact ih (k + 1) _ _ _ (by omega) (by omega) (wtU_t ⟨by omega, (b_s1 (by omega)).mp c177⟩) | exact ih (k + 1) _ _ _ (by omega) (by omega) (wtU_f (fun q => c177 ((b_s1 (by omega)).mpr q.2))) | exact ih (k + 1) _ _ _ (by omega) (by omega) (wtU_f (fun q => by omega)) | (exfalso; omega)
  have lx : ∀ (e : Int) (n0 : Int) (s : Int) (hs : SOk I s) (hc' : ∀ (x11 x12 x13 x14 : Option AV), Wp mX12_weightOf 200 [some (vr (some 32)), some (vi a), some (vi w), some (vi mm), some (vi c), some (vi t), some (vi e), some (vi (n0 + wtX I (I 32 11) (I 32 10) s mm c t 60)), some (vi s), some (vl (ss I (I 32 10) s)), none, x11, x12, x13, x14] [] (I, L, R, n) (0, 0) Q) , ∀ (tt k : Nat) (z : Int) (acc : Int) (x12 : Option AV) (x13 : Option AV) (x14 : Option AV), k + tt = 60 → z = k → acc = n0 + wtX I (I 32 11) (I 32 10) s mm c t k → Wp mX12_weightOf 51 [some (vr (some 32)), some (vi a), some (vi w), some (vi mm), some (vi c), some (vi t), some (vi e), some (vi acc), some (vi s), some (vl (ss I (I 32 10) s)), none, some (vi z), x12, x13, x14] [] (I, L, R, n) (0, 0) Q := by
    intro e n0 s hs hc'
    intro tt
    induction tt with
    | zero =>
      intro k z acc x12 x13 x14 hkt hz e0
      obtain rfl : k = 60 := by omega
      refine Wp.iload rfl dX12_weightOf_51 ?_
      refine Wp.bipush rfl dX12_weightOf_53 ?_
      refine Wp.icmp_ge (tgt := 200) dX12_weightOf_55 (by decide) (by first | omega | exact bI_R _ | exact cmp_R _ _ | assumption) (by first | omega | exact bI_R _ | exact cmp_R _ _ | assumption) (fun c55 => ?_) (fun c55 => ?_)
      · subst e0; exact hc' _ _ _ _
      · exfalso; omega
    | succ tt ih =>
      intro k z acc x12 x13 x14 hkt hz e0
      subst hz
      subst e0
      have h194 : ∀ (o q : Int) (x13 x14 : Option AV), q = n0 + wtX I (I 32 11) (I 32 10) s mm c t (k + 1) → Wp mX12_weightOf 194 [some (vr (some 32)), some (vi a), some (vi w), some (vi mm), some (vi c), some (vi t), some (vi e), some (vi q), some (vi s), some (vl (ss I (I 32 10) s)), none, some (vi k), some (vi o), x13, x14] [] (I, L, R, n) (0, 0) Q := by
        intro o q x13 x14 hqq
        refine Wp.iinc (ls' := [_, _, _, _, _, _, _, _, _, _, _, _, _, _, _]) rfl dX12_weightOf_194 (by decide) rfl ?_
        refine Wp.goto (tgt := 51) dX12_weightOf_197 (by decide) ?_
        exact ih (k + 1) _ _ _ _ _ (by omega) (by omega) hqq
      refine Wp.iload rfl dX12_weightOf_51 ?_
      refine Wp.bipush rfl dX12_weightOf_53 ?_
      refine Wp.icmp_ge (tgt := 200) dX12_weightOf_55 (by decide) (by first | omega | exact bI_R _ | exact cmp_R _ _ | assumption) (by first | omega | exact bI_R _ | exact cmp_R _ _ | assumption) (fun c55 => ?_) (fun c55 => ?_)
      · exfalso; omega
      · refine Wp.lload rfl dX12_weightOf_58 ?_
        refine Wp.iload rfl dX12_weightOf_60 ?_
        refine Wp.lshr (by omega) (by omega) dX12_weightOf_62 ?_
        refine Wp.lconst1 dX12_weightOf_63 ?_
        refine Wp.land dX12_weightOf_64 ?_
        refine Wp.lconst1 dX12_weightOf_65 ?_
        refine Wp.lcmp dX12_weightOf_66 ?_
        refine Wp.if_neC (tgt := 82) dX12_weightOf_67 (by decide) (fun c67 => ?_) (fun c67 => ?_)
        · refine Wp.iconst dX12_weightOf_82 ?_
          refine Wp.istore (ls' := [_, _, _, _, _, _, _, _, _, _, _, _, _, _, _]) dX12_weightOf_83 (by decide) rfl ?_
          refine Wp.iconst dX12_weightOf_85 ?_
          refine Wp.iload rfl dX12_weightOf_86 ?_
          refine Wp.imul dX12_weightOf_88 ?_
          refine Wp.istore (ls' := [_, _, _, _, _, _, _, _, _, _, _, _, _, _, _]) dX12_weightOf_89 (by decide) rfl ?_
          first | exact lu e _ s _ _ _ (hW.entOk (by omega) (by omega)) hs (fun x13 x14 => h194 _ _ _ _ (wtX_t ((b_s1 (by omega)).mp c67))) (cntE I (ent I (I 32 11) mm k c)) 0 _ _ _ (by omega) (by omega) (Int.add_zero _).symm | exact lu e _ s _ _ (-1) (Or.inl rfl) hs (fun x13 x14 => h194 _ _ _ _ (wtX_f (fun q => c67 ((b_s1 (by omega)).mpr q)))) 0 0 _ _ _ rfl (by omega) (Int.add_zero _).symm
        · refine Wp.aload_n rfl dX12_weightOf_70 ?_
          refine Wp.iload_n rfl dX12_weightOf_71 ?_
          refine Wp.iload rfl dX12_weightOf_72 ?_
          refine Wp.iload rfl dX12_weightOf_74 ?_
          refine Wp.callV (As := [_, _, _]) (ls0 := [_, _, _, _, _, _, _]) (bd := (0, 0)) (bd' := (0, 0)) dX12_weightOf_76 kmX12_entryOf lkX12_174 (by decide) (by decide) (Nat.le_of_ble_eq_true rfl) (by first | rfl | exact kd_b0 _ | exact kd_b1 _ | exact kd_b2 _ | exact kd_b3 _ | exact kd_b4 _ | exact kd_b5 _ | exact kd_b6 _) (by omega) rfl rfl (Nat.le_of_ble_eq_true rfl) rfl ?_
          refine ct_X12_entryOf hn hFx hW (by omega) (by omega) (by omega) (by omega) ?_
          show Wp _ _ _ (_ :: _) _ _ _
          refine Wp.goto (tgt := 83) dX12_weightOf_79 (by decide) ?_
          refine Wp.istore (ls' := [_, _, _, _, _, _, _, _, _, _, _, _, _, _, _]) dX12_weightOf_83 (by decide) rfl ?_
          refine Wp.iconst dX12_weightOf_85 ?_
          refine Wp.iload rfl dX12_weightOf_86 ?_
          refine Wp.imul dX12_weightOf_88 ?_
          refine Wp.istore (ls' := [_, _, _, _, _, _, _, _, _, _, _, _, _, _, _]) dX12_weightOf_89 (by decide) rfl ?_
          first | exact lu e _ s _ _ _ (hW.entOk (by omega) (by omega)) hs (fun x13 x14 => h194 _ _ _ _ (wtX_t ((b_s1 (by omega)).mp c67))) (cntE I (ent I (I 32 11) mm k c)) 0 _ _ _ (by omega) (by omega) (Int.add_zero _).symm | exact lu e _ s _ _ (-1) (Or.inl rfl) hs (fun x13 x14 => h194 _ _ _ _ (wtX_f (fun q => c67 ((b_s1 (by omega)).mpr q)))) 0 0 _ _ _ rfl (by omega) (Int.add_zero _).symm
  have lS : ∀ (e : Int) (ho : e = -1 ∨ EOk I e) (hq2 : Q (some (vi (wtS I (I 32 11) (I 32 10) e mm c t (cntE I e)))) (I, L, R, n)) , ∀ (tt k : Nat) (z : Int) (acc : Int) (x9 : Option AV) (x10 : Option AV) (x11 : Option AV) (x12 : Option AV) (x13 : Option AV) (x14 : Option AV), k + tt = (cntE I e) → z = 3 * e + k → acc = wtS I (I 32 11) (I 32 10) e mm c t k → Wp mX12_weightOf 18 [some (vr (some 32)), some (vi a), some (vi w), some (vi mm), some (vi c), some (vi t), some (vi e), some (vi acc), some (vi z), x9, x10, x11, x12, x13, x14] [] (I, L, R, n) (0, 0) Q := by
    intro e ho hq2
    intro tt
    induction tt with
    | zero =>
      intro k z acc x9 x10 x11 x12 x13 x14 hkt hz e0
      obtain rfl : k = (cntE I e) := by omega
      have hce := cntE_end ho
      refine Wp.iload rfl dX12_weightOf_18 ?_
      refine Wp.if_lt (tgt := 206) dX12_weightOf_20 (by decide) (by first | omega | exact bI_R _ | exact cmp_R _ _ | assumption) (fun c20 => ?_) (fun c20 => ?_)
      · refine Wp.iload rfl dX12_weightOf_206 ?_
        refine Wp.ireturn dX12_weightOf_208 rfl ?_
        first | (exfalso; omega) | (exact qI hq2 e0)
      · refine Wp.iload rfl dX12_weightOf_23 ?_
        refine Wp.iconst dX12_weightOf_25 ?_
        refine Wp.iload rfl dX12_weightOf_26 ?_
        refine Wp.imul dX12_weightOf_28 ?_
        refine Wp.aload_n rfl dX12_weightOf_29 ?_
        refine Wp.gr (kz := 4) rfl dX12_weightOf_30 fkX12_19 (by first | rfl | exact kd_b0 _ | exact kd_b1 _ | exact kd_b2 _ | exact kd_b3 _ | exact kd_b4 _ | exact kd_b5 _ | exact kd_b6 _) (by omega) (by first | exact hFx _ 4 _ rfl | assumption | exact hBk.1 | exact hBk.2.1 | exact hBk.2.2.1 | exact hBk.2.2.2.1 | exact hBk.2.2.2.2.1 | exact hBk.2.2.2.2.2) ?_
        refine Wp.iload rfl dX12_weightOf_33 ?_
        refine Wp.iaload dX12_weightOf_35 (by first | rfl | exact kd_b0 _ | exact kd_b1 _ | exact kd_b2 _ | exact kd_b3 _ | exact kd_b4 _ | exact kd_b5 _ | exact kd_b6 _) (by omega) (by omega) (by omega) ?_
        refine Wp.iadd dX12_weightOf_36 ?_
        refine Wp.icmp_ge (tgt := 206) dX12_weightOf_37 (by decide) (by first | omega | exact bI_R _ | exact cmp_R _ _ | assumption) (by first | omega | exact bI_R _ | exact cmp_R _ _ | assumption) (fun c37 => ?_) (fun c37 => ?_)
        · refine Wp.iload rfl dX12_weightOf_206 ?_
          refine Wp.ireturn dX12_weightOf_208 rfl ?_
          first | (exfalso; omega) | (exact qI hq2 e0)
        · exfalso; omega
    | succ tt ih =>
      intro k z acc x9 x10 x11 x12 x13 x14 hkt hz e0
      subst hz
      subst e0
      obtain ⟨hE, ho0, hk1, hcn⟩ := cntE_le ho hkt
      have hE1 := hE.1
      have h200 : ∀ (q : Int) (x9 x10 x11 x12 x13 x14 : Option AV), q = wtS I (I 32 11) (I 32 10) e mm c t (k + 1) → Wp mX12_weightOf 200 [some (vr (some 32)), some (vi a), some (vi w), some (vi mm), some (vi c), some (vi t), some (vi e), some (vi q), some (vi (3 * e + k)), x9, x10, x11, x12, x13, x14] [] (I, L, R, n) (0, 0) Q := by
        intro q x9 x10 x11 x12 x13 x14 hqq
        refine Wp.iinc (ls' := [_, _, _, _, _, _, _, _, _, _, _, _, _, _, _]) rfl dX12_weightOf_200 (by decide) rfl ?_
        refine Wp.goto (tgt := 18) dX12_weightOf_203 (by decide) ?_
        exact ih (k + 1) _ _ _ _ _ _ _ _ (by omega) (by omega) hqq
      refine Wp.iload rfl dX12_weightOf_18 ?_
      refine Wp.if_lt (tgt := 206) dX12_weightOf_20 (by decide) (by first | omega | exact bI_R _ | exact cmp_R _ _ | assumption) (fun c20 => ?_) (fun c20 => ?_)
      · exfalso; omega
      · refine Wp.iload rfl dX12_weightOf_23 ?_
        refine Wp.iconst dX12_weightOf_25 ?_
        refine Wp.iload rfl dX12_weightOf_26 ?_
        refine Wp.imul dX12_weightOf_28 ?_
        refine Wp.aload_n rfl dX12_weightOf_29 ?_
        refine Wp.gr (kz := 4) rfl dX12_weightOf_30 fkX12_19 (by first | rfl | exact kd_b0 _ | exact kd_b1 _ | exact kd_b2 _ | exact kd_b3 _ | exact kd_b4 _ | exact kd_b5 _ | exact kd_b6 _) (by omega) (by first | exact hFx _ 4 _ rfl | assumption | exact hBk.1 | exact hBk.2.1 | exact hBk.2.2.1 | exact hBk.2.2.2.1 | exact hBk.2.2.2.2.1 | exact hBk.2.2.2.2.2) ?_
        refine Wp.iload rfl dX12_weightOf_33 ?_
        refine Wp.iaload dX12_weightOf_35 (by first | rfl | exact kd_b0 _ | exact kd_b1 _ | exact kd_b2 _ | exact kd_b3 _ | exact kd_b4 _ | exact kd_b5 _ | exact kd_b6 _) (by omega) (by omega) (by omega) ?_
        refine Wp.iadd dX12_weightOf_36 ?_
        refine Wp.icmp_ge (tgt := 206) dX12_weightOf_37 (by decide) (by first | omega | exact bI_R _ | exact cmp_R _ _ | assumption) (by first | omega | exact bI_R _ | exact cmp_R _ _ | assumption) (fun c37 => ?_) (fun c37 => ?_)
        · exfalso; omega
        · refine Wp.aload_n rfl dX12_weightOf_40 ?_
          refine Wp.iload rfl dX12_weightOf_41 ?_
          refine Wp.callV (As := [_]) (ls0 := [_, _, _, _, _]) (bd := (0, 0)) (bd' := (0, 0)) dX12_weightOf_43 kmX12_senseSet lkX12_178 (by decide) (by decide) (Nat.le_of_ble_eq_true rfl) (by first | rfl | exact kd_b0 _ | exact kd_b1 _ | exact kd_b2 _ | exact kd_b3 _ | exact kd_b4 _ | exact kd_b5 _ | exact kd_b6 _) (by omega) rfl rfl (Nat.le_of_ble_eq_true rfl) rfl ?_
          refine ct_X12_senseSet hn hFx (by first | assumption | exact hE.2 _ (by omega) (by omega)) hA ?_
          show Wp _ _ _ (_ :: _) _ _ _
          refine Wp.lstore (ls' := [_, _, _, _, _, _, _, _, _, _, _, _, _, _, _]) dX12_weightOf_46 (by decide) rfl ?_
          refine Wp.iconst dX12_weightOf_48 ?_
          refine Wp.istore (ls' := [_, _, _, _, _, _, _, _, _, _, _, _, _, _, _]) dX12_weightOf_49 (by decide) rfl ?_
          exact lx e _ (3 * e + k) (hE.2 k (by omega) hk1) (fun x11 x12 x13 x14 => h200 _ _ _ _ _ _ _ rfl) 60 0 _ _ _ _ _ (by omega) (by omega) (Int.add_zero _).symm
  refine Wp.aload_n rfl dX12_weightOf_0 ?_
  refine Wp.iload_n rfl dX12_weightOf_1 ?_
  refine Wp.iload_n rfl dX12_weightOf_2 ?_
  refine Wp.iload_n rfl dX12_weightOf_3 ?_
  refine Wp.callV (As := [_, _, _]) (ls0 := [_, _, _, _, _, _, _]) (bd := (0, 0)) (bd' := (0, 0)) dX12_weightOf_4 kmX12_entryOf lkX12_174 (by decide) (by decide) (Nat.le_of_ble_eq_true rfl) (by first | rfl | exact kd_b0 _ | exact kd_b1 _ | exact kd_b2 _ | exact kd_b3 _ | exact kd_b4 _ | exact kd_b5 _ | exact kd_b6 _) (by omega) rfl rfl (Nat.le_of_ble_eq_true rfl) rfl ?_
  refine ct_X12_entryOf hn hFx hW (by omega) (by omega) (by omega) (by omega) ?_
  show Wp _ _ _ (_ :: _) _ _ _
  refine Wp.istore (ls' := [_, _, _, _, _, _, _, _, _, _, _, _, _, _, _]) dX12_weightOf_7 (by decide) rfl ?_
  refine Wp.iconst dX12_weightOf_9 ?_
  refine Wp.istore (ls' := [_, _, _, _, _, _, _, _, _, _, _, _, _, _, _]) dX12_weightOf_10 (by decide) rfl ?_
  refine Wp.iconst dX12_weightOf_12 ?_
  refine Wp.iload rfl dX12_weightOf_13 ?_
  refine Wp.imul dX12_weightOf_15 ?_
  refine Wp.istore (ls' := [_, _, _, _, _, _, _, _, _, _, _, _, _, _, _]) dX12_weightOf_16 (by decide) rfl ?_
  exact lS _ (hW.entOk hw0 hw1) hq (cntE I (ent I (I 32 11) a w mm)) 0 _ _ _ _ _ _ _ _ (by omega) (by omega) rfl
end

