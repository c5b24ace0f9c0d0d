/-! ===== the reference: findLeading, promise 28 ===== -/
section
variable {I : Nat → Int → Int} {L : Nat → Int → BitVec 64} {R : Nat → Int → Option Nat} {n : Nat} {m : Mm} {Q : Option AV → Mm → Prop}
/-- the words (p', w') that have been looked at in a pass are closed under S -/
def pas (I : Nat → Int → Int) (lk : Int) (S : Int → BitVec 64) (p w : Nat) : Prop := ∀ (p' w' : Nat), p' < 4 → w' < 60 → (p' < p ∨ (p' = p ∧ w' < w)) → ∀ q, tgP q → ¬ gv I lk p' w' q &&& S q = 0#64 → (S p').getLsbD w' = true
/-- where a pass stands: begun with S0, now S, and whether something came -/
def pst (I : Nat → Int → Int) (lk : Int) (S0 S : Int → BitVec 64) (mo : Int) (p w : Nat) : Prop := (mo = 0 ∧ (∀ q, tgP q → S q = S0 q) ∧ pas I lk S p w) ∨ (mo = 1 ∧ cntF S0 < cntF S)
theorem pas_next {lk : Int} {S : Int → BitVec 64} {p w : Nat} (h : pas I lk S p w) (hs : ∀ q, tgP q → ¬ gv I lk p w q &&& S q = 0#64 → (S p).getLsbD w = true) : pas I lk S p (w + 1) := by
  intro p' w' h1 h2 h3 q hq hh
  rcases (show (p' < p ∨ (p' = p ∧ w' < w)) ∨ (p' = p ∧ w' = w) by omega) with h4 | ⟨rfl, rfl⟩
  · exact h p' w' h1 h2 h4 q hq hh
  · exact hs q hq hh
theorem pas_row {lk : Int} {S : Int → BitVec 64} {p : Nat} (h : pas I lk S p 60) : pas I lk S (p + 1) 0 := by
  intro p' w' h1 h2 h3 q hq hh
  exact h p' w' h1 h2 (by omega) q hq hh
theorem upL_add {K : Nat → Int → BitVec 64} {p : Nat} {w : Nat} : (fun q => up K 56 p (K 56 p ||| 1#64 <<< w) 56 q) = addF (K 56) p w := by
  funext q
  unfold addF up
  by_cases h : q = p
  · rw [if_pos ⟨rfl, h⟩, if_pos h]
  · rw [if_neg (fun z => h z.2), if_neg h]
theorem up_or0 {K : Nat → Int → BitVec 64} {p : Int} : up K 56 p (K 56 p ||| 0#64) = K := by
  funext o q
  unfold up
  by_cases h : o = 56 ∧ q = p
  · rw [if_pos h, h.1, h.2]; simp
  · rw [if_neg h]
theorem cntF_cg {S T : Int → BitVec 64} (h : ∀ q, tgP q → S q = T q) : cntF S = cntF T := by
  unfold cntF; rw [h 0 (by omega), h 1 (by omega), h 2 (by omega), h 3 (by omega)]
set_option maxHeartbeats 2000000 in
theorem ct_X12_findLeading {b : Int} (hn : 57 ≤ n) (hFx : Fx R) (hW : RW I) (hb : tgP b) (hq : ∀ K, EqvL L K → Lst I (I 32 11) b (K 56) → Q none (I, K, R, n)) : Wp mX12_findLeading 0 [some (vr (some 32)), some (vi b), none, none, none, none, none, none] [] (I, L, R, n) (0, 0) Q := by
  -- the q loop
  have lq : ∀ (K : Nat → Int → BitVec 64) (mo : Int) (p : Nat) (w : Nat) (hp : p < 4) (hw : w < 60) (hc' : ∀ (x7 : Int), Wp mX12_findLeading 136 [some (vr (some 32)), some (vi b), some (vi mo), some (vi p), some (vi w), some (vi 1), some (vi (bI (anyB (fun j => decide (¬ gv I (I 32 11) p w j &&& K 56 j = 0#64)) 4 = true))), some (vi x7)] [] (I, K, R, n) (0, 0) Q) , ∀ (tt k : Nat) (z : Int) (x : Int), k + tt = 4 → z = k → x = bI (anyB (fun j => decide (¬ gv I (I 32 11) p w j &&& K 56 j = 0#64)) k = true) → Wp mX12_findLeading 85 [some (vr (some 32)), some (vi b), some (vi mo), some (vi p), some (vi w), some (vi 1), some (vi x), some (vi z)] [] (I, K, R, n) (0, 0) Q := by
    intro K mo p w hp hw hc'
    intro tt
    induction tt with
    | zero =>
      intro k z x hkt hz e0
      obtain rfl : k = 4 := by omega
      refine Wp.iload rfl dX12_findLeading_85 ?_
      refine Wp.iconst dX12_findLeading_87 ?_
      refine Wp.icmp_ge (tgt := 136) dX12_findLeading_88 (by decide) (by first | omega | exact bI_R _ | exact cmp_R _ _ | assumption) (by first | omega | exact bI_R _ | exact cmp_R _ _ | assumption) (fun c88 => ?_) (fun c88 => ?_)
      · subst e0; exact hc' _
      · refine Wp.iload rfl dX12_findLeading_91 ?_
        refine Wp.if_eq (tgt := 136) dX12_findLeading_93 (by decide) (by first | omega | exact bI_R _ | exact cmp_R _ _ | assumption) (fun c93 => ?_) (fun c93 => ?_)
        · subst e0; exact hc' _
        · exfalso; omega
    | succ tt ih =>
      intro k z x hkt hz e0
      subst hz
      subst e0
      refine Wp.iload rfl dX12_findLeading_85 ?_
      refine Wp.iconst dX12_findLeading_87 ?_
      refine Wp.icmp_ge (tgt := 136) dX12_findLeading_88 (by decide) (by first | omega | exact bI_R _ | exact cmp_R _ _ | assumption) (by first | omega | exact bI_R _ | exact cmp_R _ _ | assumption) (fun c88 => ?_) (fun c88 => ?_)
      · exfalso; omega
      · refine Wp.iload rfl dX12_findLeading_91 ?_
        refine Wp.if_eq (tgt := 136) dX12_findLeading_93 (by decide) (by first | omega | exact bI_R _ | exact cmp_R _ _ | assumption) (fun c93 => ?_) (fun c93 => ?_)
        · exfalso; omega
        · refine Wp.iload rfl dX12_findLeading_96 ?_
          refine Wp.if_neB (tgt := 123) dX12_findLeading_98 (by decide) (fun c98 => ?_) (fun c98 => ?_)
          · refine Wp.iconst dX12_findLeading_123 ?_
            refine Wp.goto (tgt := 128) dX12_findLeading_124 (by decide) ?_
            refine Wp.istore (ls' := [_, _, _, _, _, _, _, _]) dX12_findLeading_128 (by decide) rfl ?_
            refine Wp.iinc (ls' := [_, _, _, _, _, _, _, _]) rfl dX12_findLeading_130 (by decide) rfl ?_
            refine Wp.goto (tgt := 85) dX12_findLeading_133 (by decide) ?_
            first | exact ih (k + 1) _ _ (by omega) (by omega) (anyS_t (Or.inl c98)) | exact ih (k + 1) _ _ (by omega) (by omega) (anyS_t (Or.inr (decide_eq_true c120))) | exact ih (k + 1) _ _ (by omega) (by omega) (anyS_f c98 (fun q => of_decide_eq_true q c120)) | (exfalso; omega)
          · refine Wp.aload_n rfl dX12_findLeading_101 ?_
            refine Wp.iload_n rfl dX12_findLeading_102 ?_
            refine Wp.iload rfl dX12_findLeading_103 ?_
            refine Wp.iload rfl dX12_findLeading_105 ?_
            refine Wp.callV (As := [_, _, _]) (ls0 := [_, _, _, _, _, _, _, _]) (bd := (0, 0)) (bd' := (0, 0)) dX12_findLeading_107 kmX12_giving lkX12_191 (by decide) (by decide) (Nat.le_of_ble_eq_true rfl) (by first | rfl | exact kd_b0 _ | exact kd_b1 _ | exact kd_b2 _ | exact kd_b3 _ | exact kd_b4 _ | exact kd_b5 _ | exact kd_b6 _) (by omega) rfl rfl (Nat.le_of_ble_eq_true rfl) rfl ?_
            refine ct_X12_giving hn hFx hW (by omega) (by omega) (by omega) (by omega) ?_
            show Wp _ _ _ (_ :: _) _ _ _
            refine Wp.aload_n rfl dX12_findLeading_110 ?_
            refine Wp.gr (kz := 43) rfl dX12_findLeading_111 fkX12_95 (by first | rfl | exact kd_b0 _ | exact kd_b1 _ | exact kd_b2 _ | exact kd_b3 _ | exact kd_b4 _ | exact kd_b5 _ | exact kd_b6 _) (by omega) (by first | exact hFx _ 43 _ rfl | assumption | exact hBk.1 | exact hBk.2.1 | exact hBk.2.2.1 | exact hBk.2.2.2.1 | exact hBk.2.2.2.2.1 | exact hBk.2.2.2.2.2) ?_
            refine Wp.iload rfl dX12_findLeading_114 ?_
            refine Wp.laload dX12_findLeading_116 (by first | rfl | exact kd_b0 _ | exact kd_b1 _ | exact kd_b2 _ | exact kd_b3 _ | exact kd_b4 _ | exact kd_b5 _ | exact kd_b6 _) (by omega) (by omega) (by omega) ?_
            refine Wp.land dX12_findLeading_117 ?_
            refine Wp.lconst0 dX12_findLeading_118 ?_
            refine Wp.lcmp dX12_findLeading_119 ?_
            refine Wp.if_eqC (tgt := 127) dX12_findLeading_120 (by decide) (fun c120 => ?_) (fun c120 => ?_)
            · refine Wp.iconst dX12_findLeading_127 ?_
              refine Wp.istore (ls' := [_, _, _, _, _, _, _, _]) dX12_findLeading_128 (by decide) rfl ?_
              refine Wp.iinc (ls' := [_, _, _, _, _, _, _, _]) rfl dX12_findLeading_130 (by decide) rfl ?_
              refine Wp.goto (tgt := 85) dX12_findLeading_133 (by decide) ?_
              first | exact ih (k + 1) _ _ (by omega) (by omega) (anyS_t (Or.inl c98)) | exact ih (k + 1) _ _ (by omega) (by omega) (anyS_t (Or.inr (decide_eq_true c120))) | exact ih (k + 1) _ _ (by omega) (by omega) (anyS_f c98 (fun q => of_decide_eq_true q c120)) | (exfalso; omega)
            · refine Wp.iconst dX12_findLeading_123 ?_
              refine Wp.goto (tgt := 128) dX12_findLeading_124 (by decide) ?_
              refine Wp.istore (ls' := [_, _, _, _, _, _, _, _]) dX12_findLeading_128 (by decide) rfl ?_
              refine Wp.iinc (ls' := [_, _, _, _, _, _, _, _]) rfl dX12_findLeading_130 (by decide) rfl ?_
              refine Wp.goto (tgt := 85) dX12_findLeading_133 (by decide) ?_
              first | exact ih (k + 1) _ _ (by omega) (by omega) (anyS_t (Or.inl c98)) | exact ih (k + 1) _ _ (by omega) (by omega) (anyS_t (Or.inr (decide_eq_true c120))) | exact ih (k + 1) _ _ (by omega) (by omega) (anyS_f c98 (fun q => of_decide_eq_true q c120)) | (exfalso; omega)
  -- the w loop
  have lw : ∀ (S0 : Int → BitVec 64) (p : Nat) (hp : p < 4) (hc' : ∀ (K : Nat → Int → BitVec 64) (mo : Int) (x4 x5 x6 x7 : Option AV), EqvL L K → Ivl I (I 32 11) b (K 56) → pst I (I 32 11) S0 (K 56) mo p 60 → Wp mX12_findLeading 179 [some (vr (some 32)), some (vi b), some (vi mo), some (vi p), x4, x5, x6, x7] [] (I, K, R, n) (0, 0) Q) , ∀ (tt k : Nat) (z : Int) (K : Nat → Int → BitVec 64) (mo : Int) (x5 : Option AV) (x6 : Option AV) (x7 : Option AV), k + tt = 60 → z = k → EqvL L K → Ivl I (I 32 11) b (K 56) → pst I (I 32 11) S0 (K 56) mo p k → Wp mX12_findLeading 49 [some (vr (some 32)), some (vi b), some (vi mo), some (vi p), some (vi z), x5, x6, x7] [] (I, K, R, n) (0, 0) Q := by
    intro S0 p hp hc'
    intro tt
    induction tt with
    | zero =>
      intro k z K mo x5 x6 x7 hkt hz e0 e1 e2
      obtain rfl : k = 60 := by omega
      refine Wp.iload rfl dX12_findLeading_49 ?_
      refine Wp.bipush rfl dX12_findLeading_51 ?_
      refine Wp.icmp_ge (tgt := 179) dX12_findLeading_53 (by decide) (by first | omega | exact bI_R _ | exact cmp_R _ _ | assumption) (by first | omega | exact bI_R _ | exact cmp_R _ _ | assumption) (fun c53 => ?_) (fun c53 => ?_)
      · exact hc' K mo _ _ _ _ e0 e1 e2
      · exfalso; omega
    | succ tt ih =>
      intro k z K mo x5 x6 x7 hkt hz e0 e1 e2
      subst hz
      have hmo : mo = 0 ∨ mo = 1 := e2.elim (fun h => Or.inl h.1) (fun h => Or.inr h.1)
      have hmoR : inR mo := by omega
      have h136 : ∀ (x is x7 : Int), (x = 0 ∧ ((K 56 p).getLsbD k = true ∨ ∀ q, tgP q → gv I (I 32 11) p k q &&& K 56 q = 0#64)) ∨ (x = 1 ∧ (K 56 p).getLsbD k = false ∧ ∃ q, tgP q ∧ ¬ gv I (I 32 11) p k q &&& K 56 q = 0#64) → Wp mX12_findLeading 136 [some (vr (some 32)), some (vi b), some (vi mo), some (vi p), some (vi k), some (vi is), some (vi x), some (vi x7)] [] (I, K, R, n) (0, 0) Q := by
        intro x is x7 hx
        have hx01 : x = 0 ∨ x = 1 := hx.elim (fun h => Or.inl h.1) (fun h => Or.inr h.1)
        have hno : x = 0 → ∀ (mo' : Int), mo' = mo → ∀ (K' : Nat → Int → BitVec 64), K' = up K 56 p (K 56 p ||| 0#64) → ∀ (x5 x6 x7 : Option AV), Wp mX12_findLeading 49 [some (vr (some 32)), some (vi b), some (vi mo'), some (vi p), some (vi ((k : Int) + 1)), x5, x6, x7] [] (I, K', R, n) (0, 0) Q := by
          intro h0 mo' hmo' K' hK' x5 x6 x7
          subst hmo'
          have hKK : K' = K := hK'.trans up_or0
          subst hKK
          refine ih (k + 1) _ K' mo' _ _ _ (by omega) (by omega) e0 e1 ?_
          rcases e2 with ⟨a1, a2, a3⟩ | ⟨a1, a2⟩
          · refine Or.inl ⟨a1, a2, pas_next a3 (fun q hq hh => ?_)⟩
            rcases hx with ⟨_, hx | hx⟩ | ⟨hx, _⟩
            · exact hx
            · exact absurd (hx q hq) hh
            · omega
          · exact Or.inr ⟨a1, a2⟩
        have hyes : x = 1 → ∀ (K' : Nat → Int → BitVec 64), K' = up K 56 p (K 56 p ||| 1#64 <<< (k : Int).toNat) → ∀ (x5 x6 x7 : Option AV), Wp mX12_findLeading 49 [some (vr (some 32)), some (vi b), some (vi 1), some (vi p), some (vi ((k : Int) + 1)), x5, x6, x7] [] (I, K', R, n) (0, 0) Q := by
          intro h1 K' hK' x5 x6 x7
          obtain ⟨_, hbit, q, hq, hh⟩ := hx.resolve_left (fun h => by omega)
          have hadd : K' 56 = addF (K 56) p k := by rw [hK']; exact upL_add
          refine ih (k + 1) _ K' 1 _ _ _ (by omega) (by omega) ?_ ?_ ?_
          · rw [hK']; exact e0.wr (by omega)
          · rw [hadd]; exact Ivl_add e1 ⟨by omega, by omega⟩ hq hb (by omega) hh
          · refine Or.inr ⟨rfl, ?_⟩
            rw [hadd, cntF_add ⟨by omega, by omega⟩ (by omega) hbit]
            rcases e2 with ⟨a1, a2, a3⟩ | ⟨a1, a2⟩
            · rw [cntF_cg a2]; omega
            · omega
        clear hx
        refine Wp.aload_n rfl dX12_findLeading_136 ?_
        refine Wp.gr (kz := 43) rfl dX12_findLeading_137 fkX12_95 (by first | rfl | exact kd_b0 _ | exact kd_b1 _ | exact kd_b2 _ | exact kd_b3 _ | exact kd_b4 _ | exact kd_b5 _ | exact kd_b6 _) (by omega) (by first | exact hFx _ 43 _ rfl | assumption | exact hBk.1 | exact hBk.2.1 | exact hBk.2.2.1 | exact hBk.2.2.2.1 | exact hBk.2.2.2.2.1 | exact hBk.2.2.2.2.2) ?_
        refine Wp.iload_n rfl dX12_findLeading_140 ?_
        first | refine Wp.dup2IR dX12_findLeading_141 ?_ | refine Wp.dup2II dX12_findLeading_141 ?_
        refine Wp.laload dX12_findLeading_142 (by first | rfl | exact kd_b0 _ | exact kd_b1 _ | exact kd_b2 _ | exact kd_b3 _ | exact kd_b4 _ | exact kd_b5 _ | exact kd_b6 _) (by omega) (by omega) (by omega) ?_
        refine Wp.iload rfl dX12_findLeading_143 ?_
        refine Wp.if_eq (tgt := 155) dX12_findLeading_145 (by decide) (by first | omega | exact bI_R _ | exact cmp_R _ _ | assumption) (fun c145 => ?_) (fun c145 => ?_)
        · refine Wp.lconst0 dX12_findLeading_155 ?_
          refine Wp.lor dX12_findLeading_156 ?_
          refine Wp.lastore dX12_findLeading_157 (by first | rfl | exact kd_b0 _ | exact kd_b1 _ | exact kd_b2 _ | exact kd_b3 _ | exact kd_b4 _ | exact kd_b5 _ | exact kd_b6 _) (by omega) (by omega) (by omega) ?_
          refine Wp.iload_n rfl dX12_findLeading_158 ?_
          refine Wp.if_ne (tgt := 167) dX12_findLeading_159 (by decide) (by first | omega | exact bI_R _ | exact cmp_R _ _ | assumption) (fun c159 => ?_) (fun c159 => ?_)
          · refine Wp.iconst dX12_findLeading_167 ?_
            refine Wp.goto (tgt := 172) dX12_findLeading_168 (by decide) ?_
            refine Wp.istore_n (ls' := [_, _, _, _, _, _, _, _]) dX12_findLeading_172 (by decide) rfl ?_
            refine Wp.iinc (ls' := [_, _, _, _, _, _, _, _]) rfl dX12_findLeading_173 (by decide) rfl ?_
            refine Wp.goto (tgt := 49) dX12_findLeading_176 (by decide) ?_
            first | exact hno (by omega) _ (by omega) _ rfl _ _ _ | exact hyes (by omega) _ rfl _ _ _ | (exfalso; omega)
          · refine Wp.iload rfl dX12_findLeading_162 ?_
            refine Wp.if_eq (tgt := 171) dX12_findLeading_164 (by decide) (by first | omega | exact bI_R _ | exact cmp_R _ _ | assumption) (fun c164 => ?_) (fun c164 => ?_)
            · refine Wp.iconst dX12_findLeading_171 ?_
              refine Wp.istore_n (ls' := [_, _, _, _, _, _, _, _]) dX12_findLeading_172 (by decide) rfl ?_
              refine Wp.iinc (ls' := [_, _, _, _, _, _, _, _]) rfl dX12_findLeading_173 (by decide) rfl ?_
              refine Wp.goto (tgt := 49) dX12_findLeading_176 (by decide) ?_
              first | exact hno (by omega) _ (by omega) _ rfl _ _ _ | exact hyes (by omega) _ rfl _ _ _ | (exfalso; omega)
            · refine Wp.iconst dX12_findLeading_167 ?_
              refine Wp.goto (tgt := 172) dX12_findLeading_168 (by decide) ?_
              refine Wp.istore_n (ls' := [_, _, _, _, _, _, _, _]) dX12_findLeading_172 (by decide) rfl ?_
              refine Wp.iinc (ls' := [_, _, _, _, _, _, _, _]) rfl dX12_findLeading_173 (by decide) rfl ?_
              refine Wp.goto (tgt := 49) dX12_findLeading_176 (by decide) ?_
              first | exact hno (by omega) _ (by omega) _ rfl _ _ _ | exact hyes (by omega) _ rfl _ _ _ | (exfalso; omega)
        · refine Wp.lconst1 dX12_findLeading_148 ?_
          refine Wp.iload rfl dX12_findLeading_149 ?_
          refine Wp.lshl (by omega) (by omega) dX12_findLeading_151 ?_
          refine Wp.goto (tgt := 156) dX12_findLeading_152 (by decide) ?_
          refine Wp.lor dX12_findLeading_156 ?_
          refine Wp.lastore dX12_findLeading_157 (by first | rfl | exact kd_b0 _ | exact kd_b1 _ | exact kd_b2 _ | exact kd_b3 _ | exact kd_b4 _ | exact kd_b5 _ | exact kd_b6 _) (by omega) (by omega) (by omega) ?_
          refine Wp.iload_n rfl dX12_findLeading_158 ?_
          refine Wp.if_ne (tgt := 167) dX12_findLeading_159 (by decide) (by first | omega | exact bI_R _ | exact cmp_R _ _ | assumption) (fun c159 => ?_) (fun c159 => ?_)
          · refine Wp.iconst dX12_findLeading_167 ?_
            refine Wp.goto (tgt := 172) dX12_findLeading_168 (by decide) ?_
            refine Wp.istore_n (ls' := [_, _, _, _, _, _, _, _]) dX12_findLeading_172 (by decide) rfl ?_
            refine Wp.iinc (ls' := [_, _, _, _, _, _, _, _]) rfl dX12_findLeading_173 (by decide) rfl ?_
            refine Wp.goto (tgt := 49) dX12_findLeading_176 (by decide) ?_
            first | exact hno (by omega) _ (by omega) _ rfl _ _ _ | exact hyes (by omega) _ rfl _ _ _ | (exfalso; omega)
          · refine Wp.iload rfl dX12_findLeading_162 ?_
            refine Wp.if_eq (tgt := 171) dX12_findLeading_164 (by decide) (by first | omega | exact bI_R _ | exact cmp_R _ _ | assumption) (fun c164 => ?_) (fun c164 => ?_)
            · refine Wp.iconst dX12_findLeading_171 ?_
              refine Wp.istore_n (ls' := [_, _, _, _, _, _, _, _]) dX12_findLeading_172 (by decide) rfl ?_
              refine Wp.iinc (ls' := [_, _, _, _, _, _, _, _]) rfl dX12_findLeading_173 (by decide) rfl ?_
              refine Wp.goto (tgt := 49) dX12_findLeading_176 (by decide) ?_
              first | exact hno (by omega) _ (by omega) _ rfl _ _ _ | exact hyes (by omega) _ rfl _ _ _ | (exfalso; omega)
            · refine Wp.iconst dX12_findLeading_167 ?_
              refine Wp.goto (tgt := 172) dX12_findLeading_168 (by decide) ?_
              refine Wp.istore_n (ls' := [_, _, _, _, _, _, _, _]) dX12_findLeading_172 (by decide) rfl ?_
              refine Wp.iinc (ls' := [_, _, _, _, _, _, _, _]) rfl dX12_findLeading_173 (by decide) rfl ?_
              refine Wp.goto (tgt := 49) dX12_findLeading_176 (by decide) ?_
              first | exact hno (by omega) _ (by omega) _ rfl _ _ _ | exact hyes (by omega) _ rfl _ _ _ | (exfalso; omega)
      have h85 : (K 56 p).getLsbD k = true → Wp mX12_findLeading 85 [some (vr (some 32)), some (vi b), some (vi mo), some (vi p), some (vi k), some (vi 0), some (vi 0), some (vi 0)] [] (I, K, R, n) (0, 0) Q := by
        intro hbt
        refine Wp.iload rfl dX12_findLeading_85 ?_
        refine Wp.iconst dX12_findLeading_87 ?_
        refine Wp.icmp_ge (tgt := 136) dX12_findLeading_88 (by decide) (by first | omega | exact bI_R _ | exact cmp_R _ _ | assumption) (by first | omega | exact bI_R _ | exact cmp_R _ _ | assumption) (fun c88 => ?_) (fun c88 => ?_)
        · first | exact h136 0 0 _ (Or.inl ⟨rfl, Or.inl hbt⟩) | (exfalso; omega)
        · refine Wp.iload rfl dX12_findLeading_91 ?_
          refine Wp.if_eq (tgt := 136) dX12_findLeading_93 (by decide) (by first | omega | exact bI_R _ | exact cmp_R _ _ | assumption) (fun c93 => ?_) (fun c93 => ?_)
          · first | exact h136 0 0 _ (Or.inl ⟨rfl, Or.inl hbt⟩) | (exfalso; omega)
          · exfalso; omega
      have hx1 : (K 56 p).getLsbD k = false → (bI (anyB (fun j => decide (¬ gv I (I 32 11) p k j &&& K 56 j = 0#64)) 4 = true) = 0 ∧ ((K 56 p).getLsbD k = true ∨ ∀ q, tgP q → gv I (I 32 11) p k q &&& K 56 q = 0#64)) ∨ (bI (anyB (fun j => decide (¬ gv I (I 32 11) p k j &&& K 56 j = 0#64)) 4 = true) = 1 ∧ (K 56 p).getLsbD k = false ∧ ∃ q, tgP q ∧ ¬ gv I (I 32 11) p k q &&& K 56 q = 0#64) := by
        intro hbt
        by_cases h : anyB (fun j => decide (¬ gv I (I 32 11) p k j &&& K 56 j = 0#64)) 4 = true
        · obtain ⟨j, hj, hd⟩ := (anyB_iff _ _).mp h
          exact Or.inr ⟨bI_t h, hbt, j, ⟨by omega, by omega⟩, of_decide_eq_true hd⟩
        · refine Or.inl ⟨bI_f h, Or.inr (fun q hq => Classical.byContradiction (fun hc => h ((anyB_iff _ _).mpr ⟨q.toNat, by omega, ?_⟩)))⟩
          rw [Int.toNat_of_nonneg hq.1]
          exact decide_eq_true hc
      refine Wp.iload rfl dX12_findLeading_49 ?_
      refine Wp.bipush rfl dX12_findLeading_51 ?_
      refine Wp.icmp_ge (tgt := 179) dX12_findLeading_53 (by decide) (by first | omega | exact bI_R _ | exact cmp_R _ _ | assumption) (by first | omega | exact bI_R _ | exact cmp_R _ _ | assumption) (fun c53 => ?_) (fun c53 => ?_)
      · exfalso; omega
      · refine Wp.aload_n rfl dX12_findLeading_56 ?_
        refine Wp.gr (kz := 43) rfl dX12_findLeading_57 fkX12_95 (by first | rfl | exact kd_b0 _ | exact kd_b1 _ | exact kd_b2 _ | exact kd_b3 _ | exact kd_b4 _ | exact kd_b5 _ | exact kd_b6 _) (by omega) (by first | exact hFx _ 43 _ rfl | assumption | exact hBk.1 | exact hBk.2.1 | exact hBk.2.2.1 | exact hBk.2.2.2.1 | exact hBk.2.2.2.2.1 | exact hBk.2.2.2.2.2) ?_
        refine Wp.iload_n rfl dX12_findLeading_60 ?_
        refine Wp.laload dX12_findLeading_61 (by first | rfl | exact kd_b0 _ | exact kd_b1 _ | exact kd_b2 _ | exact kd_b3 _ | exact kd_b4 _ | exact kd_b5 _ | exact kd_b6 _) (by omega) (by omega) (by omega) ?_
        refine Wp.iload rfl dX12_findLeading_62 ?_
        refine Wp.lshr (by omega) (by omega) dX12_findLeading_64 ?_
        refine Wp.lconst1 dX12_findLeading_65 ?_
        refine Wp.land dX12_findLeading_66 ?_
        refine Wp.lconst0 dX12_findLeading_67 ?_
        refine Wp.lcmp dX12_findLeading_68 ?_
        refine Wp.if_neC (tgt := 76) dX12_findLeading_69 (by decide) (fun c69 => ?_) (fun c69 => ?_)
        · refine Wp.iconst dX12_findLeading_76 ?_
          refine Wp.istore (ls' := [_, _, _, _, _, _, _, _]) dX12_findLeading_77 (by decide) rfl ?_
          refine Wp.iconst dX12_findLeading_79 ?_
          refine Wp.istore (ls' := [_, _, _, _, _, _, _, _]) dX12_findLeading_80 (by decide) rfl ?_
          refine Wp.iconst dX12_findLeading_82 ?_
          refine Wp.istore (ls' := [_, _, _, _, _, _, _, _]) dX12_findLeading_83 (by decide) rfl ?_
          first | exact h85 (by have := fun q => c69 ((b_s0 (by omega)).mpr q); simpa using this) | exact lq K mo p k hp (by omega) (fun x7 => h136 _ _ _ (hx1 ((b_s0 (by omega)).mp c69))) 4 0 _ _ (by omega) (by omega) rfl
        · refine Wp.iconst dX12_findLeading_72 ?_
          refine Wp.goto (tgt := 77) dX12_findLeading_73 (by decide) ?_
          refine Wp.istore (ls' := [_, _, _, _, _, _, _, _]) dX12_findLeading_77 (by decide) rfl ?_
          refine Wp.iconst dX12_findLeading_79 ?_
          refine Wp.istore (ls' := [_, _, _, _, _, _, _, _]) dX12_findLeading_80 (by decide) rfl ?_
          refine Wp.iconst dX12_findLeading_82 ?_
          refine Wp.istore (ls' := [_, _, _, _, _, _, _, _]) dX12_findLeading_83 (by decide) rfl ?_
          first | exact h85 (by have := fun q => c69 ((b_s0 (by omega)).mpr q); simpa using this) | exact lq K mo p k hp (by omega) (fun x7 => h136 _ _ _ (hx1 ((b_s0 (by omega)).mp c69))) 4 0 _ _ (by omega) (by omega) rfl
  -- the p loop
  have lp : ∀ (S0 : Int → BitVec 64) (hc' : ∀ (K : Nat → Int → BitVec 64) (mo : Int) (x3 x4 x5 x6 x7 : Option AV), EqvL L K → Ivl I (I 32 11) b (K 56) → pst I (I 32 11) S0 (K 56) mo 4 0 → Wp mX12_findLeading 185 [some (vr (some 32)), some (vi b), some (vi mo), x3, x4, x5, x6, x7] [] (I, K, R, n) (0, 0) Q) , ∀ (tt k : Nat) (z : Int) (K : Nat → Int → BitVec 64) (mo : Int) (x4 : Option AV) (x5 : Option AV) (x6 : Option AV) (x7 : Option AV), k + tt = 4 → z = k → EqvL L K → Ivl I (I 32 11) b (K 56) → pst I (I 32 11) S0 (K 56) mo k 0 → Wp mX12_findLeading 41 [some (vr (some 32)), some (vi b), some (vi mo), some (vi z), x4, x5, x6, x7] [] (I, K, R, n) (0, 0) Q := by
    intro S0 hc'
    intro tt
    induction tt with
    | zero =>
      intro k z K mo x4 x5 x6 x7 hkt hz e0 e1 e2
      obtain rfl : k = 4 := by omega
      refine Wp.iload_n rfl dX12_findLeading_41 ?_
      refine Wp.iconst dX12_findLeading_42 ?_
      refine Wp.icmp_ge (tgt := 185) dX12_findLeading_43 (by decide) (by first | omega | exact bI_R _ | exact cmp_R _ _ | assumption) (by first | omega | exact bI_R _ | exact cmp_R _ _ | assumption) (fun c43 => ?_) (fun c43 => ?_)
      · exact hc' K mo _ _ _ _ _ e0 e1 e2
      · exfalso; omega
    | succ tt ih =>
      intro k z K mo x4 x5 x6 x7 hkt hz e0 e1 e2
      subst hz
      have h179 : ∀ (K : Nat → Int → BitVec 64) (mo : Int) (x4 x5 x6 x7 : Option AV), EqvL L K → Ivl I (I 32 11) b (K 56) → pst I (I 32 11) S0 (K 56) mo k 60 → Wp mX12_findLeading 179 [some (vr (some 32)), some (vi b), some (vi mo), some (vi k), x4, x5, x6, x7] [] (I, K, R, n) (0, 0) Q := by
        intro K mo x4 x5 x6 x7 f0 f1 f2
        refine Wp.iinc (ls' := [_, _, _, _, _, _, _, _]) rfl dX12_findLeading_179 (by decide) rfl ?_
        refine Wp.goto (tgt := 41) dX12_findLeading_182 (by decide) ?_
        exact ih (k + 1) _ K mo _ _ _ _ (by omega) (by omega) f0 f1 (f2.elim (fun h => Or.inl ⟨h.1, h.2.1, pas_row h.2.2⟩) Or.inr)
      refine Wp.iload_n rfl dX12_findLeading_41 ?_
      refine Wp.iconst dX12_findLeading_42 ?_
      refine Wp.icmp_ge (tgt := 185) dX12_findLeading_43 (by decide) (by first | omega | exact bI_R _ | exact cmp_R _ _ | assumption) (by first | omega | exact bI_R _ | exact cmp_R _ _ | assumption) (fun c43 => ?_) (fun c43 => ?_)
      · exfalso; omega
      · refine Wp.iconst dX12_findLeading_46 ?_
        refine Wp.istore (ls' := [_, _, _, _, _, _, _, _]) dX12_findLeading_47 (by decide) rfl ?_
        exact lw S0 k (by omega) h179 60 0 _ K mo _ _ _ (by omega) (by omega) e0 e1 e2
  have wl : ∀ (tt : Nat) (K : Nat → Int → BitVec 64) (mo : Int) (x3 x4 x5 x6 x7 : Option AV), EqvL L K → Ivl I (I 32 11) b (K 56) → ((mo = 0 ∧ Clo I (I 32 11) b (K 56)) ∨ (mo = 1 ∧ 240 - cntF (K 56) < tt)) → Wp mX12_findLeading 33 [some (vr (some 32)), some (vi b), some (vi mo), x3, x4, x5, x6, x7] [] (I, K, R, n) (0, 0) Q := by
    intro tt
    induction tt with
    | zero =>
      intro K mo x3 x4 x5 x6 x7 f0 f1 f2
      have hB := cntF_B (K 56)
      obtain ⟨hm, hcl⟩ := f2.resolve_right (fun h => by omega)
      refine Wp.iload_n rfl dX12_findLeading_33 ?_
      refine Wp.if_eq (tgt := 188) dX12_findLeading_34 (by decide) (by first | omega | exact bI_R _ | exact cmp_R _ _ | assumption) (fun c34 => ?_) (fun c34 => ?_)
      · refine Wp.vreturn dX12_findLeading_188 rfl ?_
        first | (exfalso; omega) | (exact hq K f0 ⟨f1, hcl⟩)
      · exfalso; omega
    | succ tt ih =>
      intro K mo x3 x4 x5 x6 x7 f0 f1 f2
      have hmo : mo = 0 ∨ mo = 1 := f2.elim (fun h => Or.inl h.1) (fun h => Or.inr h.1)
      have h185 : mo = 1 → ∀ (K' : Nat → Int → BitVec 64) (mo' : Int) (x3 x4 x5 x6 x7 : Option AV), EqvL L K' → Ivl I (I 32 11) b (K' 56) → pst I (I 32 11) (K 56) (K' 56) mo' 4 0 → Wp mX12_findLeading 185 [some (vr (some 32)), some (vi b), some (vi mo'), x3, x4, x5, x6, x7] [] (I, K', R, n) (0, 0) Q := by
        intro hm1 K' mo' x3 x4 x5 x6 x7 g0 g1 g2
        have hcnt := (f2.resolve_left (fun h => by omega)).2
        refine Wp.goto (tgt := 33) dX12_findLeading_185 (by decide) ?_
        refine ih K' mo' _ _ _ _ _ g0 g1 (g2.elim (fun h => Or.inl ⟨h.1, ?_⟩) (fun h => Or.inr ⟨h.1, by have := h.2; omega⟩))
        refine ⟨fun w hw => by rw [g1.1, ALLW_bit]; simpa using hw, fun p w q hp hw hqq hh => ?_⟩
        have h2 := h.2.2 p.toNat w (by omega) hw (Or.inl (by omega)) q hqq
        rw [Int.toNat_of_nonneg hp.1] at h2
        exact h2 hh
      refine Wp.iload_n rfl dX12_findLeading_33 ?_
      refine Wp.if_eq (tgt := 188) dX12_findLeading_34 (by decide) (by first | omega | exact bI_R _ | exact cmp_R _ _ | assumption) (fun c34 => ?_) (fun c34 => ?_)
      · refine Wp.vreturn dX12_findLeading_188 rfl ?_
        first | (exfalso; omega) | (exact hq K f0 ⟨f1, (f2.resolve_right (fun h => by omega)).2⟩)
      · refine Wp.iconst dX12_findLeading_37 ?_
        refine Wp.istore_n (ls' := [_, _, _, _, _, _, _, _]) dX12_findLeading_38 (by decide) rfl ?_
        refine Wp.iconst dX12_findLeading_39 ?_
        refine Wp.istore_n (ls' := [_, _, _, _, _, _, _, _]) dX12_findLeading_40 (by decide) rfl ?_
        exact lp (K 56) (h185 (by omega)) 4 0 _ K _ _ _ _ _ (by omega) (by omega) f0 f1 (Or.inl ⟨rfl, fun _ _ => rfl, fun p' w' h1 h2 h3 => by omega⟩)
  have l0 : ∀ (tt k : Nat) (z : Int) (K : Nat → Int → BitVec 64), k + tt = 4 → z = k → EqvL L K → (∀ q : Int, 0 ≤ q → q < k → K 56 q = if q = b then ALLW else 0#64) → Wp mX12_findLeading 2 [some (vr (some 32)), some (vi b), some (vi z), none, none, none, none, none] [] (I, K, R, n) (0, 0) Q := by
    intro tt
    induction tt with
    | zero =>
      intro k z K hkt hz e0 e1
      obtain rfl : k = 4 := by omega
      refine Wp.iload_n rfl dX12_findLeading_2 ?_
      refine Wp.iconst dX12_findLeading_3 ?_
      refine Wp.icmp_ge (tgt := 31) dX12_findLeading_4 (by decide) (by first | omega | exact bI_R _ | exact cmp_R _ _ | assumption) (by first | omega | exact bI_R _ | exact cmp_R _ _ | assumption) (fun c4 => ?_) (fun c4 => ?_)
      · refine Wp.iconst dX12_findLeading_31 ?_
        refine Wp.istore_n (ls' := [_, _, _, _, _, _, _, _]) dX12_findLeading_32 (by decide) rfl ?_
        refine wl 241 K 1 _ _ _ _ _ e0 ⟨by rw [e1 b (by omega) (by omega), if_pos rfl], ?_, ?_⟩ (Or.inr ⟨rfl, by have := cntF_B (K 56); omega⟩)
        · intro p hp i hi
          rw [e1 p (by omega) (by omega)]
          split
          · rw [ALLW_bit]; simp; omega
          · simp
        · intro T hT p hp w hw hbt
          rw [e1 p (by omega) (by omega)] at hbt
          split at hbt
          · rename_i e; rw [e]; exact hT.1 w hw
          · simp at hbt
      · exfalso; omega
    | succ tt ih =>
      intro k z K hkt hz e0 e1
      subst hz
      refine Wp.iload_n rfl dX12_findLeading_2 ?_
      refine Wp.iconst dX12_findLeading_3 ?_
      refine Wp.icmp_ge (tgt := 31) dX12_findLeading_4 (by decide) (by first | omega | exact bI_R _ | exact cmp_R _ _ | assumption) (by first | omega | exact bI_R _ | exact cmp_R _ _ | assumption) (fun c4 => ?_) (fun c4 => ?_)
      · exfalso; omega
      · refine Wp.aload_n rfl dX12_findLeading_7 ?_
        refine Wp.gr (kz := 43) rfl dX12_findLeading_8 fkX12_95 (by first | rfl | exact kd_b0 _ | exact kd_b1 _ | exact kd_b2 _ | exact kd_b3 _ | exact kd_b4 _ | exact kd_b5 _ | exact kd_b6 _) (by omega) (by first | exact hFx _ 43 _ rfl | assumption | exact hBk.1 | exact hBk.2.1 | exact hBk.2.2.1 | exact hBk.2.2.2.1 | exact hBk.2.2.2.2.1 | exact hBk.2.2.2.2.2) ?_
        refine Wp.iload_n rfl dX12_findLeading_11 ?_
        refine Wp.iload_n rfl dX12_findLeading_12 ?_
        refine Wp.iload_n rfl dX12_findLeading_13 ?_
        refine Wp.icmp_ne (tgt := 23) dX12_findLeading_14 (by decide) (by first | omega | exact bI_R _ | exact cmp_R _ _ | assumption) (by first | omega | exact bI_R _ | exact cmp_R _ _ | assumption) (fun c14 => ?_) (fun c14 => ?_)
        · refine Wp.lconst0 dX12_findLeading_23 ?_
          refine Wp.lastore dX12_findLeading_24 (by first | rfl | exact kd_b0 _ | exact kd_b1 _ | exact kd_b2 _ | exact kd_b3 _ | exact kd_b4 _ | exact kd_b5 _ | exact kd_b6 _) (by omega) (by omega) (by omega) ?_
          refine Wp.iinc (ls' := [_, _, _, _, _, _, _, _]) rfl dX12_findLeading_25 (by decide) rfl ?_
          refine Wp.goto (tgt := 2) dX12_findLeading_28 (by decide) ?_
          refine ih (k + 1) _ _ (by omega) (by omega) (e0.wr (by omega)) (fun q h0 h1 => ?_)
          unfold up
          by_cases hqk : q = k
          · rw [if_pos ⟨rfl, hqk⟩]; first | rw [if_pos (by omega)] | rw [if_neg (by omega)]
          · rw [if_neg (fun z => hqk z.2)]; exact e1 q h0 (by omega)
        · refine Wp.ldc2_w (b := 1152921504606846975#64) ckX12_284 rfl dX12_findLeading_17 ?_
          refine Wp.goto (tgt := 24) dX12_findLeading_20 (by decide) ?_
          refine Wp.lastore dX12_findLeading_24 (by first | rfl | exact kd_b0 _ | exact kd_b1 _ | exact kd_b2 _ | exact kd_b3 _ | exact kd_b4 _ | exact kd_b5 _ | exact kd_b6 _) (by omega) (by omega) (by omega) ?_
          refine Wp.iinc (ls' := [_, _, _, _, _, _, _, _]) rfl dX12_findLeading_25 (by decide) rfl ?_
          refine Wp.goto (tgt := 2) dX12_findLeading_28 (by decide) ?_
          refine ih (k + 1) _ _ (by omega) (by omega) (e0.wr (by omega)) (fun q h0 h1 => ?_)
          unfold up
          by_cases hqk : q = k
          · rw [if_pos ⟨rfl, hqk⟩]; first | rw [if_pos (by omega)] | rw [if_neg (by omega)]
          · rw [if_neg (fun z => hqk z.2)]; exact e1 q h0 (by omega)
  refine Wp.iconst dX12_findLeading_0 ?_
  refine Wp.istore_n (ls' := [_, _, _, _, _, _, _, _]) dX12_findLeading_1 (by decide) rfl ?_
  exact l0 4 0 _ L (by omega) (by omega) (EqvL.rf L) (fun q h0 h1 => by omega)
end

