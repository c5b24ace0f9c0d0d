/-! ===== the reference: promise 5 ===== -/
def agN (I : Nat → Int → Int) (s : Int) : Nat → Int
  | 0 => 0
  | p + 1 => agN I s p + (if I 40 (6 * s + p) = 0 then 0 else 1)
def waN (I : Nat → Int → Int) (e : Int) : Nat → Int
  | 0 => 0
  | j + 1 => waN I e j + I 38 (3 * e + j)
def aeN (I : Nat → Int → Int) (e : Int) : Nat → Int
  | 0 => 0
  | j + 1 => aeN I e j + agN I (3 * e + j) (I 38 (3 * e + j)).toNat
def enN (I : Nat → Int → Int) (b : Int) : Nat → Int
  | 0 => 0
  | k + 1 => enN I b k + (if 0 < I 36 (60 * b + k) then 1 else 0)
def snN (I : Nat → Int → Int) (b : Int) : Nat → Int
  | 0 => 0
  | k + 1 => snN I b k + I 36 (60 * b + k)
def woN (I : Nat → Int → Int) (b : Int) : Nat → Int
  | 0 => 0
  | k + 1 => woN I b k + waN I (60 * b + k) (I 36 (60 * b + k)).toNat
def aoN (I : Nat → Int → Int) (b : Int) : Nat → Int
  | 0 => 0
  | k + 1 => aoN I b k + aeN I (60 * b + k) (I 36 (60 * b + k)).toNat
def aAb (f t d e s w g what : Int) : Int := if what = 0 then f else if what = 1 then t else if what = 2 then d else if what = 3 then e else if what = 4 then s else if what = 5 then w else if what = 6 then g else -1002
def aAbout (I : Nat → Int → Int) (b what : Int) : Int := if 0 ≤ b ∧ b < I 32 0 then aAb (I 33 b) (I 34 b) (I 35 b) (enN I b 60) (snN I b 60) (woN I b 60) (aoN I b 60) what else -1001
section
variable {I : Nat → Int → Int} {L : Nat → Int → BitVec 64} {R : Nat → Int → Option Nat} {n : Nat} {m : Mm} {Q : Option AV → Mm → Prop}
theorem agN_t {s g0 : Int} {k : Nat} (h : I 40 (6 * s + k) = 0) : g0 + agN I s k + 0 = g0 + agN I s (k + 1) := by simp only [agN]; rw [if_pos h]; omega
theorem agN_f {s g0 : Int} {k : Nat} (h : ¬ I 40 (6 * s + k) = 0) : g0 + agN I s k + 1 = g0 + agN I s (k + 1) := by simp only [agN]; rw [if_neg h]; omega
set_option maxHeartbeats 1000000 in
theorem ct_X12_about {b what : Int} (hn : 57 ≤ n) (hFx : Fx R) (hW : RW I) (hb : inR b) (hwh : inR what) (hq : Q (some (vi (aAbout I b what))) (I, L, R, n)) : Wp mX12_about 0 [some (vr (some 32)), some (vi b), some (vi what), none, none, none, none, none, none, none] [] (I, L, R, n) (0, 0) Q := by
  have hN0 := hW.1
  have hN1 := hW.2.1
  have lk : ∀ (v3 : Int) (v4 : Int) (v5 : Int) (g0 : Int) (e : Int) (s : Int) (hs : SOk I s) (hc' : ∀ (x9 : Option AV), Wp mX12_about 165 [some (vr (some 32)), some (vi b), some (vi what), some (vi v3), some (vi v4), some (vi v5), some (vi (g0 + agN I s (I 38 s).toNat)), some (vi e), some (vi s), x9] [] (I, L, R, n) (0, 0) Q) , ∀ (tt k : Nat) (z : Int) (acc : Int), k + tt = (I 38 s).toNat → z = 6 * s + k → acc = g0 + agN I s k → Wp mX12_about 121 [some (vr (some 32)), some (vi b), some (vi what), some (vi v3), some (vi v4), some (vi v5), some (vi acc), some (vi e), some (vi s), some (vi z)] [] (I, L, R, n) (0, 0) Q := by
    intro v3 v4 v5 g0 e s hs hc'
    intro tt
    induction tt with
    | zero =>
      intro k z acc hkt hz e0
      obtain rfl : k = (I 38 s).toNat := by omega
      have hs1 := hs.1
      refine Wp.iload rfl dX12_about_121 ?_
      refine Wp.bipush rfl dX12_about_123 ?_
      refine Wp.iload rfl dX12_about_125 ?_
      refine Wp.imul dX12_about_127 ?_
      refine Wp.aload_n rfl dX12_about_128 ?_
      refine Wp.gr (kz := 6) rfl dX12_about_129 fkX12_25 (by first | rfl | exact kd_b0 _ | exact kd_b1 _ | exact kd_b2 _ | exact kd_b3 _ | exact kd_b4 _ | exact kd_b5 _ | exact kd_b6 _) (by omega) (by first | exact hFx _ 6 _ rfl | assumption | exact hBk.1 | exact hBk.2.1 | exact hBk.2.2.1 | exact hBk.2.2.2.1 | exact hBk.2.2.2.2.1 | exact hBk.2.2.2.2.2) ?_
      refine Wp.iload rfl dX12_about_132 ?_
      refine Wp.iaload dX12_about_134 (by first | rfl | exact kd_b0 _ | exact kd_b1 _ | exact kd_b2 _ | exact kd_b3 _ | exact kd_b4 _ | exact kd_b5 _ | exact kd_b6 _) (by omega) (by omega) (by omega) ?_
      refine Wp.iadd dX12_about_135 ?_
      refine Wp.icmp_ge (tgt := 165) dX12_about_136 (by decide) (by first | omega | exact bI_R _ | exact cmp_R _ _ | assumption) (by first | omega | exact bI_R _ | exact cmp_R _ _ | assumption) (fun c136 => ?_) (fun c136 => ?_)
      · subst e0; exact hc' _
      · exfalso; omega
    | succ tt ih =>
      intro k z acc hkt hz e0
      subst hz
      subst e0
      have hs1 := hs.1
      have hp := hs.2 k (by omega) (by omega)
      refine Wp.iload rfl dX12_about_121 ?_
      refine Wp.bipush rfl dX12_about_123 ?_
      refine Wp.iload rfl dX12_about_125 ?_
      refine Wp.imul dX12_about_127 ?_
      refine Wp.aload_n rfl dX12_about_128 ?_
      refine Wp.gr (kz := 6) rfl dX12_about_129 fkX12_25 (by first | rfl | exact kd_b0 _ | exact kd_b1 _ | exact kd_b2 _ | exact kd_b3 _ | exact kd_b4 _ | exact kd_b5 _ | exact kd_b6 _) (by omega) (by first | exact hFx _ 6 _ rfl | assumption | exact hBk.1 | exact hBk.2.1 | exact hBk.2.2.1 | exact hBk.2.2.2.1 | exact hBk.2.2.2.2.1 | exact hBk.2.2.2.2.2) ?_
      refine Wp.iload rfl dX12_about_132 ?_
      refine Wp.iaload dX12_about_134 (by first | rfl | exact kd_b0 _ | exact kd_b1 _ | exact kd_b2 _ | exact kd_b3 _ | exact kd_b4 _ | exact kd_b5 _ | exact kd_b6 _) (by omega) (by omega) (by omega) ?_
      refine Wp.iadd dX12_about_135 ?_
      refine Wp.icmp_ge (tgt := 165) dX12_about_136 (by decide) (by first | omega | exact bI_R _ | exact cmp_R _ _ | assumption) (by first | omega | exact bI_R _ | exact cmp_R _ _ | assumption) (fun c136 => ?_) (fun c136 => ?_)
      · exfalso; omega
      · refine Wp.iload rfl dX12_about_139 ?_
        refine Wp.aload_n rfl dX12_about_141 ?_
        refine Wp.gr (kz := 8) rfl dX12_about_142 fkX12_31 (by first | rfl | exact kd_b0 _ | exact kd_b1 _ | exact kd_b2 _ | exact kd_b3 _ | exact kd_b4 _ | exact kd_b5 _ | exact kd_b6 _) (by omega) (by first | exact hFx _ 8 _ rfl | assumption | exact hBk.1 | exact hBk.2.1 | exact hBk.2.2.1 | exact hBk.2.2.2.1 | exact hBk.2.2.2.2.1 | exact hBk.2.2.2.2.2) ?_
        refine Wp.iload rfl dX12_about_145 ?_
        refine Wp.baload dX12_about_147 (by first | rfl | exact kd_b0 _ | exact kd_b1 _ | exact kd_b2 _ | exact kd_b3 _ | exact kd_b4 _ | exact kd_b5 _ | exact kd_b6 _) (by omega) (by omega) (by omega) ?_
        refine Wp.if_eq (tgt := 155) dX12_about_148 (by decide) (by first | omega | exact bI_R _ | exact cmp_R _ _ | assumption) (fun c148 => ?_) (fun c148 => ?_)
        · refine Wp.iconst dX12_about_155 ?_
          refine Wp.iadd dX12_about_156 ?_
          refine Wp.istore (ls' := [_, _, _, _, _, _, _, _, _, _]) dX12_about_157 (by decide) rfl ?_
          refine Wp.iinc (ls' := [_, _, _, _, _, _, _, _, _, _]) rfl dX12_about_159 (by decide) rfl ?_
          refine Wp.goto (tgt := 121) dX12_about_162 (by decide) ?_
          first | exact ih (k + 1) _ _ (by omega) (by omega) (agN_t c148) | exact ih (k + 1) _ _ (by omega) (by omega) (agN_f c148) | (exfalso; omega)
        · refine Wp.iconst dX12_about_151 ?_
          refine Wp.goto (tgt := 156) dX12_about_152 (by decide) ?_
          refine Wp.iadd dX12_about_156 ?_
          refine Wp.istore (ls' := [_, _, _, _, _, _, _, _, _, _]) dX12_about_157 (by decide) rfl ?_
          refine Wp.iinc (ls' := [_, _, _, _, _, _, _, _, _, _]) rfl dX12_about_159 (by decide) rfl ?_
          refine Wp.goto (tgt := 121) dX12_about_162 (by decide) ?_
          first | exact ih (k + 1) _ _ (by omega) (by omega) (agN_t c148) | exact ih (k + 1) _ _ (by omega) (by omega) (agN_f c148) | (exfalso; omega)
  have ls : ∀ (v3 : Int) (v4 : Int) (a0 : Int) (g0 : Int) (e : Int) (hE : EOk I e) (hc' : ∀ (x8 x9 : Option AV), Wp mX12_about 171 [some (vr (some 32)), some (vi b), some (vi what), some (vi v3), some (vi v4), some (vi (a0 + waN I e (I 36 e).toNat)), some (vi (g0 + aeN I e (I 36 e).toNat)), some (vi e), x8, x9] [] (I, L, R, n) (0, 0) Q) , ∀ (tt k : Nat) (z : Int) (aa : Int) (gg : Int) (x9 : Option AV), k + tt = (I 36 e).toNat → z = 3 * e + k → aa = a0 + waN I e k → gg = g0 + aeN I e k → Wp mX12_about 85 [some (vr (some 32)), some (vi b), some (vi what), some (vi v3), some (vi v4), some (vi aa), some (vi gg), some (vi e), some (vi z), x9] [] (I, L, R, n) (0, 0) Q := by
    intro v3 v4 a0 g0 e hE hc'
    intro tt
    induction tt with
    | zero =>
      intro k z aa gg x9 hkt hz e0 e1
      obtain rfl : k = (I 36 e).toNat := by omega
      have hE1 := hE.1
      refine Wp.iload rfl dX12_about_85 ?_
      refine Wp.iconst dX12_about_87 ?_
      refine Wp.iload rfl dX12_about_88 ?_
      refine Wp.imul dX12_about_90 ?_
      refine Wp.aload_n rfl dX12_about_91 ?_
      refine Wp.gr (kz := 4) rfl dX12_about_92 fkX12_19 (by first | rfl | exact kd_b0 _ | exact kd_b1 _ | exact kd_b2 _ | exact kd_b3 _ | exact kd_b4 _ | exact kd_b5 _ | exact kd_b6 _) (by omega) (by first | exact hFx _ 4 _ rfl | assumption | exact hBk.1 | exact hBk.2.1 | exact hBk.2.2.1 | exact hBk.2.2.2.1 | exact hBk.2.2.2.2.1 | exact hBk.2.2.2.2.2) ?_
      refine Wp.iload rfl dX12_about_95 ?_
      refine Wp.iaload dX12_about_97 (by first | rfl | exact kd_b0 _ | exact kd_b1 _ | exact kd_b2 _ | exact kd_b3 _ | exact kd_b4 _ | exact kd_b5 _ | exact kd_b6 _) (by omega) (by omega) (by omega) ?_
      refine Wp.iadd dX12_about_98 ?_
      refine Wp.icmp_ge (tgt := 171) dX12_about_99 (by decide) (by first | omega | exact bI_R _ | exact cmp_R _ _ | assumption) (by first | omega | exact bI_R _ | exact cmp_R _ _ | assumption) (fun c99 => ?_) (fun c99 => ?_)
      · subst e0; subst e1; exact hc' _ _
      · exfalso; omega
    | succ tt ih =>
      intro k z aa gg x9 hkt hz e0 e1
      subst hz
      subst e0
      subst e1
      have hE1 := hE.1
      have hS := hE.2 k (by omega) (by omega)
      have hS1 := hS.1
      have h165 : ∀ (w v : Int) (x9 : Option AV), w = a0 + waN I e (k + 1) → v = g0 + aeN I e (k + 1) → Wp mX12_about 165 [some (vr (some 32)), some (vi b), some (vi what), some (vi v3), some (vi v4), some (vi w), some (vi v), some (vi e), some (vi (3 * e + k)), x9] [] (I, L, R, n) (0, 0) Q := by
        intro w v x9 hw hv
        refine Wp.iinc (ls' := [_, _, _, _, _, _, _, _, _, _]) rfl dX12_about_165 (by decide) rfl ?_
        refine Wp.goto (tgt := 85) dX12_about_168 (by decide) ?_
        exact ih (k + 1) _ _ _ _ (by omega) (by omega) hw hv
      refine Wp.iload rfl dX12_about_85 ?_
      refine Wp.iconst dX12_about_87 ?_
      refine Wp.iload rfl dX12_about_88 ?_
      refine Wp.imul dX12_about_90 ?_
      refine Wp.aload_n rfl dX12_about_91 ?_
      refine Wp.gr (kz := 4) rfl dX12_about_92 fkX12_19 (by first | rfl | exact kd_b0 _ | exact kd_b1 _ | exact kd_b2 _ | exact kd_b3 _ | exact kd_b4 _ | exact kd_b5 _ | exact kd_b6 _) (by omega) (by first | exact hFx _ 4 _ rfl | assumption | exact hBk.1 | exact hBk.2.1 | exact hBk.2.2.1 | exact hBk.2.2.2.1 | exact hBk.2.2.2.2.1 | exact hBk.2.2.2.2.2) ?_
      refine Wp.iload rfl dX12_about_95 ?_
      refine Wp.iaload dX12_about_97 (by first | rfl | exact kd_b0 _ | exact kd_b1 _ | exact kd_b2 _ | exact kd_b3 _ | exact kd_b4 _ | exact kd_b5 _ | exact kd_b6 _) (by omega) (by omega) (by omega) ?_
      refine Wp.iadd dX12_about_98 ?_
      refine Wp.icmp_ge (tgt := 171) dX12_about_99 (by decide) (by first | omega | exact bI_R _ | exact cmp_R _ _ | assumption) (by first | omega | exact bI_R _ | exact cmp_R _ _ | assumption) (fun c99 => ?_) (fun c99 => ?_)
      · exfalso; omega
      · refine Wp.iload rfl dX12_about_102 ?_
        refine Wp.aload_n rfl dX12_about_104 ?_
        refine Wp.gr (kz := 6) rfl dX12_about_105 fkX12_25 (by first | rfl | exact kd_b0 _ | exact kd_b1 _ | exact kd_b2 _ | exact kd_b3 _ | exact kd_b4 _ | exact kd_b5 _ | exact kd_b6 _) (by omega) (by first | exact hFx _ 6 _ rfl | assumption | exact hBk.1 | exact hBk.2.1 | exact hBk.2.2.1 | exact hBk.2.2.2.1 | exact hBk.2.2.2.2.1 | exact hBk.2.2.2.2.2) ?_
        refine Wp.iload rfl dX12_about_108 ?_
        refine Wp.iaload dX12_about_110 (by first | rfl | exact kd_b0 _ | exact kd_b1 _ | exact kd_b2 _ | exact kd_b3 _ | exact kd_b4 _ | exact kd_b5 _ | exact kd_b6 _) (by omega) (by omega) (by omega) ?_
        refine Wp.iadd dX12_about_111 ?_
        refine Wp.istore (ls' := [_, _, _, _, _, _, _, _, _, _]) dX12_about_112 (by decide) rfl ?_
        refine Wp.bipush rfl dX12_about_114 ?_
        refine Wp.iload rfl dX12_about_116 ?_
        refine Wp.imul dX12_about_118 ?_
        refine Wp.istore (ls' := [_, _, _, _, _, _, _, _, _, _]) dX12_about_119 (by decide) rfl ?_
        exact lk v3 v4 _ _ e (3 * e + k) hS (fun x9 => h165 _ _ _ (Int.add_assoc _ _ _) (Int.add_assoc _ _ _)) (I 38 (3 * e + k)).toNat 0 _ _ (by omega) (by omega) (Int.add_zero _).symm
  have lo : ∀ (hb0 : 0 ≤ b ∧ b < I 32 0) , ∀ (tt k : Nat) (z : Int) (v3 : Int) (v4 : Int) (v5 : Int) (v6 : Int) (x8 : Option AV) (x9 : Option AV), k + tt = 60 → z = 60 * b + k → v3 = enN I b k → v4 = snN I b k → v5 = woN I b k → v6 = aoN I b k → Wp mX12_about 37 [some (vr (some 32)), some (vi b), some (vi what), some (vi v3), some (vi v4), some (vi v5), some (vi v6), some (vi z), x8, x9] [] (I, L, R, n) (0, 0) Q := by
    intro hb0
    intro tt
    induction tt with
    | zero =>
      intro k z v3 v4 v5 v6 x8 x9 hkt hz e0 e1 e2 e3
      obtain rfl : k = 60 := by omega
      have hq2 : Q (some (vi (aAb (I 33 b) (I 34 b) (I 35 b) v3 v4 v5 v6 what))) (I, L, R, n) := by unfold aAbout at hq; rw [if_pos hb0, ← e0, ← e1, ← e2, ← e3] at hq; exact hq
      refine Wp.iload rfl dX12_about_37 ?_
      refine Wp.bipush rfl dX12_about_39 ?_
      refine Wp.iload_n rfl dX12_about_41 ?_
      refine Wp.imul dX12_about_42 ?_
      refine Wp.bipush rfl dX12_about_43 ?_
      refine Wp.iadd dX12_about_45 ?_
      refine Wp.icmp_ge (tgt := 177) dX12_about_46 (by decide) (by first | omega | exact bI_R _ | exact cmp_R _ _ | assumption) (by first | omega | exact bI_R _ | exact cmp_R _ _ | assumption) (fun c46 => ?_) (fun c46 => ?_)
      · refine Wp.iload_n rfl dX12_about_177 ?_
        rcases (show what < 0 ∨ 6 < what ∨ what = 0 ∨ what = 1 ∨ what = 2 ∨ what = 3 ∨ what = 4 ∨ what = 5 ∨ what = 6 by omega) with c178 | c178 | c178 | c178 | c178 | c178 | c178 | c178 | c178
        · refine Wp.tableOut (tgt := 252) dX12_about_178 (by first | omega | exact bI_R _ | exact cmp_R _ _ | assumption) (by omega) (by decide) ?_
          refine Wp.sipush rfl dX12_about_252 ?_
          refine Wp.ireturn dX12_about_255 rfl ?_
          first | (exfalso; omega) | (exact qI hq2 (by unfold aAb; (repeat' split) <;> first | (exfalso; omega) | rfl))
        · refine Wp.tableOut (tgt := 252) dX12_about_178 (by first | omega | exact bI_R _ | exact cmp_R _ _ | assumption) (by omega) (by decide) ?_
          refine Wp.sipush rfl dX12_about_252 ?_
          refine Wp.ireturn dX12_about_255 rfl ?_
          first | (exfalso; omega) | (exact qI hq2 (by unfold aAb; (repeat' split) <;> first | (exfalso; omega) | rfl))
        · subst c178
          refine Wp.tableIn (tgt := 220) dX12_about_178 (by omega) (by decide) (by decide) rfl (by decide) ?_
          refine Wp.aload_n rfl dX12_about_220 ?_
          refine Wp.gr (kz := 1) rfl dX12_about_221 fkX12_7 (by first | rfl | exact kd_b0 _ | exact kd_b1 _ | exact kd_b2 _ | exact kd_b3 _ | exact kd_b4 _ | exact kd_b5 _ | exact kd_b6 _) (by omega) (by first | exact hFx _ 1 _ rfl | assumption | exact hBk.1 | exact hBk.2.1 | exact hBk.2.2.1 | exact hBk.2.2.2.1 | exact hBk.2.2.2.2.1 | exact hBk.2.2.2.2.2) ?_
          refine Wp.iload_n rfl dX12_about_224 ?_
          refine Wp.iaload dX12_about_225 (by first | rfl | exact kd_b0 _ | exact kd_b1 _ | exact kd_b2 _ | exact kd_b3 _ | exact kd_b4 _ | exact kd_b5 _ | exact kd_b6 _) (by omega) (by omega) (by omega) ?_
          refine Wp.ireturn dX12_about_226 rfl ?_
          first | (exfalso; omega) | (exact qI hq2 (by unfold aAb; (repeat' split) <;> first | (exfalso; omega) | rfl))
        · subst c178
          refine Wp.tableIn (tgt := 227) dX12_about_178 (by omega) (by decide) (by decide) rfl (by decide) ?_
          refine Wp.aload_n rfl dX12_about_227 ?_
          refine Wp.gr (kz := 2) rfl dX12_about_228 fkX12_13 (by first | rfl | exact kd_b0 _ | exact kd_b1 _ | exact kd_b2 _ | exact kd_b3 _ | exact kd_b4 _ | exact kd_b5 _ | exact kd_b6 _) (by omega) (by first | exact hFx _ 2 _ rfl | assumption | exact hBk.1 | exact hBk.2.1 | exact hBk.2.2.1 | exact hBk.2.2.2.1 | exact hBk.2.2.2.2.1 | exact hBk.2.2.2.2.2) ?_
          refine Wp.iload_n rfl dX12_about_231 ?_
          refine Wp.iaload dX12_about_232 (by first | rfl | exact kd_b0 _ | exact kd_b1 _ | exact kd_b2 _ | exact kd_b3 _ | exact kd_b4 _ | exact kd_b5 _ | exact kd_b6 _) (by omega) (by omega) (by omega) ?_
          refine Wp.ireturn dX12_about_233 rfl ?_
          first | (exfalso; omega) | (exact qI hq2 (by unfold aAb; (repeat' split) <;> first | (exfalso; omega) | rfl))
        · subst c178
          refine Wp.tableIn (tgt := 234) dX12_about_178 (by omega) (by decide) (by decide) rfl (by decide) ?_
          refine Wp.aload_n rfl dX12_about_234 ?_
          refine Wp.gr (kz := 3) rfl dX12_about_235 fkX12_16 (by first | rfl | exact kd_b0 _ | exact kd_b1 _ | exact kd_b2 _ | exact kd_b3 _ | exact kd_b4 _ | exact kd_b5 _ | exact kd_b6 _) (by omega) (by first | exact hFx _ 3 _ rfl | assumption | exact hBk.1 | exact hBk.2.1 | exact hBk.2.2.1 | exact hBk.2.2.2.1 | exact hBk.2.2.2.2.1 | exact hBk.2.2.2.2.2) ?_
          refine Wp.iload_n rfl dX12_about_238 ?_
          refine Wp.iaload dX12_about_239 (by first | rfl | exact kd_b0 _ | exact kd_b1 _ | exact kd_b2 _ | exact kd_b3 _ | exact kd_b4 _ | exact kd_b5 _ | exact kd_b6 _) (by omega) (by omega) (by omega) ?_
          refine Wp.ireturn dX12_about_240 rfl ?_
          first | (exfalso; omega) | (exact qI hq2 (by unfold aAb; (repeat' split) <;> first | (exfalso; omega) | rfl))
        · subst c178
          refine Wp.tableIn (tgt := 241) dX12_about_178 (by omega) (by decide) (by decide) rfl (by decide) ?_
          refine Wp.iload_n rfl dX12_about_241 ?_
          refine Wp.ireturn dX12_about_242 rfl ?_
          first | (exfalso; omega) | (exact qI hq2 (by unfold aAb; (repeat' split) <;> first | (exfalso; omega) | rfl))
        · subst c178
          refine Wp.tableIn (tgt := 243) dX12_about_178 (by omega) (by decide) (by decide) rfl (by decide) ?_
          refine Wp.iload rfl dX12_about_243 ?_
          refine Wp.ireturn dX12_about_245 rfl ?_
          first | (exfalso; omega) | (exact qI hq2 (by unfold aAb; (repeat' split) <;> first | (exfalso; omega) | rfl))
        · subst c178
          refine Wp.tableIn (tgt := 246) dX12_about_178 (by omega) (by decide) (by decide) rfl (by decide) ?_
          refine Wp.iload rfl dX12_about_246 ?_
          refine Wp.ireturn dX12_about_248 rfl ?_
          first | (exfalso; omega) | (exact qI hq2 (by unfold aAb; (repeat' split) <;> first | (exfalso; omega) | rfl))
        · subst c178
          refine Wp.tableIn (tgt := 249) dX12_about_178 (by omega) (by decide) (by decide) rfl (by decide) ?_
          refine Wp.iload rfl dX12_about_249 ?_
          refine Wp.ireturn dX12_about_251 rfl ?_
          first | (exfalso; omega) | (exact qI hq2 (by unfold aAb; (repeat' split) <;> first | (exfalso; omega) | rfl))
      · exfalso; omega
    | succ tt ih =>
      intro k z v3 v4 v5 v6 x8 x9 hkt hz e0 e1 e2 e3
      subst hz
      subst e0
      subst e1
      subst e2
      subst e3
      have hE := hW.eok (z := b) (w := k) (by omega) (by omega) (by omega) (by omega)
      have hE1 := hE.1
      have h171 : ∀ (p q w v : Int) (x8 x9 : Option AV), p = enN I b (k + 1) → q = snN I b (k + 1) → w = woN I b (k + 1) → v = aoN I b (k + 1) → Wp mX12_about 171 [some (vr (some 32)), some (vi b), some (vi what), some (vi p), some (vi q), some (vi w), some (vi v), some (vi (60 * b + k)), x8, x9] [] (I, L, R, n) (0, 0) Q := by
        intro p q w v x8 x9 h1 h2 h3 h4
        refine Wp.iinc (ls' := [_, _, _, _, _, _, _, _, _, _]) rfl dX12_about_171 (by decide) rfl ?_
        refine Wp.goto (tgt := 37) dX12_about_174 (by decide) ?_
        exact ih (k + 1) _ _ _ _ _ _ _ (by omega) (by omega) h1 h2 h3 h4
      refine Wp.iload rfl dX12_about_37 ?_
      refine Wp.bipush rfl dX12_about_39 ?_
      refine Wp.iload_n rfl dX12_about_41 ?_
      refine Wp.imul dX12_about_42 ?_
      refine Wp.bipush rfl dX12_about_43 ?_
      refine Wp.iadd dX12_about_45 ?_
      refine Wp.icmp_ge (tgt := 177) dX12_about_46 (by decide) (by first | omega | exact bI_R _ | exact cmp_R _ _ | assumption) (by first | omega | exact bI_R _ | exact cmp_R _ _ | assumption) (fun c46 => ?_) (fun c46 => ?_)
      · exfalso; omega
      · refine Wp.iload_n rfl dX12_about_49 ?_
        refine Wp.aload_n rfl dX12_about_50 ?_
        refine Wp.gr (kz := 4) rfl dX12_about_51 fkX12_19 (by first | rfl | exact kd_b0 _ | exact kd_b1 _ | exact kd_b2 _ | exact kd_b3 _ | exact kd_b4 _ | exact kd_b5 _ | exact kd_b6 _) (by omega) (by first | exact hFx _ 4 _ rfl | assumption | exact hBk.1 | exact hBk.2.1 | exact hBk.2.2.1 | exact hBk.2.2.2.1 | exact hBk.2.2.2.2.1 | exact hBk.2.2.2.2.2) ?_
        refine Wp.iload rfl dX12_about_54 ?_
        refine Wp.iaload dX12_about_56 (by first | rfl | exact kd_b0 _ | exact kd_b1 _ | exact kd_b2 _ | exact kd_b3 _ | exact kd_b4 _ | exact kd_b5 _ | exact kd_b6 _) (by omega) (by omega) (by omega) ?_
        refine Wp.if_le (tgt := 64) dX12_about_57 (by decide) (by first | omega | exact bI_R _ | exact cmp_R _ _ | assumption) (fun c57 => ?_) (fun c57 => ?_)
        · refine Wp.iconst dX12_about_64 ?_
          refine Wp.iadd dX12_about_65 ?_
          refine Wp.istore_n (ls' := [_, _, _, _, _, _, _, _, _, _]) dX12_about_66 (by decide) rfl ?_
          refine Wp.iload rfl dX12_about_67 ?_
          refine Wp.aload_n rfl dX12_about_69 ?_
          refine Wp.gr (kz := 4) rfl dX12_about_70 fkX12_19 (by first | rfl | exact kd_b0 _ | exact kd_b1 _ | exact kd_b2 _ | exact kd_b3 _ | exact kd_b4 _ | exact kd_b5 _ | exact kd_b6 _) (by omega) (by first | exact hFx _ 4 _ rfl | assumption | exact hBk.1 | exact hBk.2.1 | exact hBk.2.2.1 | exact hBk.2.2.2.1 | exact hBk.2.2.2.2.1 | exact hBk.2.2.2.2.2) ?_
          refine Wp.iload rfl dX12_about_73 ?_
          refine Wp.iaload dX12_about_75 (by first | rfl | exact kd_b0 _ | exact kd_b1 _ | exact kd_b2 _ | exact kd_b3 _ | exact kd_b4 _ | exact kd_b5 _ | exact kd_b6 _) (by omega) (by omega) (by omega) ?_
          refine Wp.iadd dX12_about_76 ?_
          refine Wp.istore (ls' := [_, _, _, _, _, _, _, _, _, _]) dX12_about_77 (by decide) rfl ?_
          refine Wp.iconst dX12_about_79 ?_
          refine Wp.iload rfl dX12_about_80 ?_
          refine Wp.imul dX12_about_82 ?_
          refine Wp.istore (ls' := [_, _, _, _, _, _, _, _, _, _]) dX12_about_83 (by decide) rfl ?_
          first | exact ls _ _ _ _ (60 * b + k) hE (fun x8 x9 => h171 _ _ _ _ _ _ (by simp only [enN]; rw [if_neg (by omega)]) rfl rfl rfl) (I 36 (60 * b + k)).toNat 0 _ _ _ _ (by omega) (by omega) (Int.add_zero _).symm (Int.add_zero _).symm | exact ls _ _ _ _ (60 * b + k) hE (fun x8 x9 => h171 _ _ _ _ _ _ (by simp only [enN]; rw [if_pos (by omega)]) rfl rfl rfl) (I 36 (60 * b + k)).toNat 0 _ _ _ _ (by omega) (by omega) (Int.add_zero _).symm (Int.add_zero _).symm
        · refine Wp.iconst dX12_about_60 ?_
          refine Wp.goto (tgt := 65) dX12_about_61 (by decide) ?_
          refine Wp.iadd dX12_about_65 ?_
          refine Wp.istore_n (ls' := [_, _, _, _, _, _, _, _, _, _]) dX12_about_66 (by decide) rfl ?_
          refine Wp.iload rfl dX12_about_67 ?_
          refine Wp.aload_n rfl dX12_about_69 ?_
          refine Wp.gr (kz := 4) rfl dX12_about_70 fkX12_19 (by first | rfl | exact kd_b0 _ | exact kd_b1 _ | exact kd_b2 _ | exact kd_b3 _ | exact kd_b4 _ | exact kd_b5 _ | exact kd_b6 _) (by omega) (by first | exact hFx _ 4 _ rfl | assumption | exact hBk.1 | exact hBk.2.1 | exact hBk.2.2.1 | exact hBk.2.2.2.1 | exact hBk.2.2.2.2.1 | exact hBk.2.2.2.2.2) ?_
          refine Wp.iload rfl dX12_about_73 ?_
          refine Wp.iaload dX12_about_75 (by first | rfl | exact kd_b0 _ | exact kd_b1 _ | exact kd_b2 _ | exact kd_b3 _ | exact kd_b4 _ | exact kd_b5 _ | exact kd_b6 _) (by omega) (by omega) (by omega) ?_
          refine Wp.iadd dX12_about_76 ?_
          refine Wp.istore (ls' := [_, _, _, _, _, _, _, _, _, _]) dX12_about_77 (by decide) rfl ?_
          refine Wp.iconst dX12_about_79 ?_
          refine Wp.iload rfl dX12_about_80 ?_
          refine Wp.imul dX12_about_82 ?_
          refine Wp.istore (ls' := [_, _, _, _, _, _, _, _, _, _]) dX12_about_83 (by decide) rfl ?_
          first | exact ls _ _ _ _ (60 * b + k) hE (fun x8 x9 => h171 _ _ _ _ _ _ (by simp only [enN]; rw [if_neg (by omega)]) rfl rfl rfl) (I 36 (60 * b + k)).toNat 0 _ _ _ _ (by omega) (by omega) (Int.add_zero _).symm (Int.add_zero _).symm | exact ls _ _ _ _ (60 * b + k) hE (fun x8 x9 => h171 _ _ _ _ _ _ (by simp only [enN]; rw [if_pos (by omega)]) rfl rfl rfl) (I 36 (60 * b + k)).toNat 0 _ _ _ _ (by omega) (by omega) (Int.add_zero _).symm (Int.add_zero _).symm
  refine Wp.iload_n rfl dX12_about_0 ?_
  refine Wp.i2l (by first | omega | exact bI_R _ | exact cmp_R _ _ | assumption) dX12_about_1 ?_
  refine Wp.lconst0 dX12_about_2 ?_
  refine Wp.aload_n rfl dX12_about_3 ?_
  refine Wp.gi (kz := 0) rfl dX12_about_4 fkX12_153 (by first | rfl | exact kd_b0 _ | exact kd_b1 _ | exact kd_b2 _ | exact kd_b3 _ | exact kd_b4 _ | exact kd_b5 _ | exact kd_b6 _) (by omega) ?_
  refine Wp.iconst dX12_about_7 ?_
  refine Wp.isub dX12_about_8 ?_
  refine Wp.i2l (by first | omega | exact bI_R _ | exact cmp_R _ _ | assumption) dX12_about_9 ?_
  refine Wp.callS (As := [_, _, _]) (ls0 := [_, _, _, _, _, _]) (bd := (0, 0)) (bd' := (0, 0)) dX12_about_10 kmX12_in lkX12_100 (by decide) (by decide) (Nat.le_of_ble_eq_true rfl) rfl rfl (Nat.le_of_ble_eq_true rfl) rfl ?_
  refine ct_X12_in (a := 0) (b := I 32 0 - 1) (ofI_toInt hb) rfl (ofI_toInt (by omega)) ?_
  show Wp _ _ _ (_ :: _) _ _ _
  refine Wp.if_neB (tgt := 20) dX12_about_13 (by decide) (fun c13 => ?_) (fun c13 => ?_)
  · refine Wp.iconst dX12_about_20 ?_
    refine Wp.istore_n (ls' := [_, _, _, _, _, _, _, _, _, _]) dX12_about_21 (by decide) rfl ?_
    refine Wp.iconst dX12_about_22 ?_
    refine Wp.istore (ls' := [_, _, _, _, _, _, _, _, _, _]) dX12_about_23 (by decide) rfl ?_
    refine Wp.iconst dX12_about_25 ?_
    refine Wp.istore (ls' := [_, _, _, _, _, _, _, _, _, _]) dX12_about_26 (by decide) rfl ?_
    refine Wp.iconst dX12_about_28 ?_
    refine Wp.istore (ls' := [_, _, _, _, _, _, _, _, _, _]) dX12_about_29 (by decide) rfl ?_
    refine Wp.bipush rfl dX12_about_31 ?_
    refine Wp.iload_n rfl dX12_about_33 ?_
    refine Wp.imul dX12_about_34 ?_
    refine Wp.istore (ls' := [_, _, _, _, _, _, _, _, _, _]) dX12_about_35 (by decide) rfl ?_
    exact lo (by omega) 60 0 _ _ _ _ _ _ _ (by omega) (by omega) rfl rfl rfl rfl
  · refine Wp.sipush rfl dX12_about_16 ?_
    refine Wp.ireturn dX12_about_19 rfl ?_
    first | (exfalso; omega) | (exact qI hq (by unfold aAbout; rw [if_neg (by omega)]))
end

