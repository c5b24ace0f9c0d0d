/-! ===== the reference: promises 1, 3: a book ===== -/
/-- the draft before the text is read: the arrays as they lie there, with no senses -/
def dr0 (I : Nat → Int → Int) (kb : Int) : Dr := fun o k => if o = 37 ∨ o = 38 then I o (180 * kb + k) else if o = 39 ∨ o = 40 then I o (1080 * kb + k) else 0
def tB (kb : Int) (o : Nat) (k : Int) : Prop := tC kb o k ∨ (o = 32 ∧ (k = 13 ∨ k = 0)) ∨ ((o = 33 ∨ o = 34 ∨ o = 35) ∧ k = kb)
def FrB (kb : Int) (I J : Nat → Int → Int) : Prop := ∀ (o : Nat) (k : Int), ¬ tB kb o k → J o k = I o k
theorem FrB.of {kb : Int} {I J : Nat → Int → Int} (h : FrC kb I J) : FrB kb I J := fun o k hs => h o k (fun q => hs (Or.inl q))
theorem FrB.wr {kb : Int} {I J : Nat → Int → Int} (h : FrB kb I J) {o : Nat} {k v : Int} (hs : tB kb o k) : FrB kb I (up J o k v) := fun o' k' hs' => by
  unfold up
  rw [if_neg (fun q => hs' (by rw [q.1, q.2]; exact hs))]
  exact h o' k' hs'
theorem RDr_0 (I : Nat → Int → Int) (kb : Int) : RDr I kb (dr0 I kb) := ⟨fun i _ _ => ⟨rfl, rfl⟩, fun i _ _ => ⟨rfl, rfl⟩⟩
theorem MI_0 (I : Nat → Int → Int) (kb : Int) : MI 0 (-1) (dr0 I kb) := by
  have h36 : ∀ w, dr0 I kb 36 w = 0 := fun w => rfl
  have h41 : ∀ w, dr0 I kb 41 w = 0 := fun w => rfl
  refine ⟨by omega, fun q => absurd rfl q, fun q => absurd q (by decide), fun q => absurd q (by decide), fun q => absurd q (by decide), fun w _ _ => ⟨⟨⟨by rw [h36]; decide, by rw [h36]; decide, Or.inl (h41 w)⟩, fun q => ?_, fun q _ => ?_⟩, fun s hs0 hs1 => ?_⟩⟩
  · rw [h36] at q; omega
  · rw [h41] at q; omega
  · rw [h36] at hs1; omega
section
variable {I : Nat → Int → Int} {L : Nat → Int → BitVec 64} {R : Nat → Int → Option Nat} {n : Nat} {m : Mm} {Q : Option AV → Mm → Prop}
abbrev okBook (kb a b day : Int) : Prop := tgP a ∧ tgP b ∧ ¬ a = b ∧ 0 ≤ day ∧ day ≤ 999 ∧ kb < 8
def noBook (a b day : Int) : Int := if tgP a ∧ tgP b then (if a = b ∨ ¬ (0 ≤ day ∧ day ≤ 999) then -1002 else -1004) else -1001
set_option maxHeartbeats 4000000 in
theorem ct_X12_book {a b day : Int} {O : Int × Int × Dr} (hn : 57 ≤ n) (hFx : Fx R) (hT : TxW I) (ha : inR a) (hb : inR b) (hdy : inR day) (hk0 : 0 ≤ I 32 0) (hk1 : I 32 0 ≤ 8) (hO : O = out (I 41) (I 32 13) 0 (-1) 0 (dr0 I (I 32 0)))
    (hno : ¬ okBook (I 32 0) a b day → Q (some (vi (noBook a b day))) (I, L, R, n))
    (hf : ∀ J, okBook (I 32 0) a b day → FrB (I 32 0) I J → J 32 0 = I 32 0 → J 32 13 = 0 → J 32 14 = O.2.1 → 1 ≤ O.1 → O.1 ≤ 5 → Q (some (vi (-10 - O.1))) (J, L, R, n))
    (hq : ∀ J hd, okBook (I 32 0) a b day → FrB (I 32 0) I J → J 32 0 = I 32 0 + 1 → J 32 13 = 0 → J 32 14 = O.2.1 → O.2.1 = -1 → O.1 = 0 → RDr J (I 32 0) O.2.2 → R36 J (I 32 0) O.2.2 → MI 0 hd O.2.2 → J 33 (I 32 0) = a → J 34 (I 32 0) = b → J 35 (I 32 0) = day → Q (some (vi (I 32 0))) (J, L, R, n)) :
    Wp mX12_book 0 [some (vr (some 32)), some (vi a), some (vi b), some (vi day), none] [] (I, L, R, n) (0, 0) Q := by
  obtain ⟨kb, hkb⟩ : ∃ kb, kb = I 32 0 := ⟨_, rfl⟩
  obtain ⟨T, hJT⟩ : ∃ T, T = I 41 := ⟨_, rfl⟩
  obtain ⟨N, hJN⟩ : ∃ N, N = I 32 13 := ⟨_, rfl⟩
  rw [← hkb] at hno hf hq hk0 hk1 hO
  rw [← hJT, ← hJN] at hO
  have hN : 0 ≤ N ∧ N ≤ 240 := by rw [hJN]; exact ⟨hT.1, hT.2.1⟩
  have c0 : ∀ {J : Nat → Int → Int}, FrC kb I J → J 32 0 = kb := fun h => by rw [h 32 0 (by unfold tC tW; omega)]; exact hkb.symm
  have hfin : ∀ (J : Nat → Int → Int) (f : Int), okBook kb a b day → FrC kb I J → (1 ≤ f ∧ f ≤ 5 ∧ O.1 = f ∧ J 32 14 = O.2.1 ∨ f = 0 ∧ O.1 = 0 ∧ O.2.1 = -1 ∧ J 32 14 = -1 ∧ ∃ hd, RDr J kb O.2.2 ∧ R36 J kb O.2.2 ∧ MI 0 hd O.2.2) → Wp mX12_book 122 [some (vr (some 32)), some (vi a), some (vi b), some (vi day), some (vi f)] [] (J, L, R, n) (0, 0) Q := by
    intro J f hok hF hcase
    have h0 := c0 hF
    have hf01 : 0 ≤ f ∧ f ≤ 5 := by rcases hcase with h | h <;> omega
    have hret : 1 ≤ f → ∀ v, v = -10 - f → Q (some (vi v)) (up J 32 13 0, L, R, n) := fun h1 v hv => by
      have h2 := hcase.resolve_right (fun q => absurd q.1 (by omega))
      have h3 := hf (up J 32 13 0) hok ((FrB.of hF).wr (by unfold tB; omega)) (by rw [up_k _ _ _ _ (by omega)]; exact h0) (up_same _ _ _ _) (by rw [up_k _ _ _ _ (by omega)]; exact h2.2.2.2) (by rw [h2.2.2.1]; exact h1) (by rw [h2.2.2.1]; exact h2.2.1)
      rw [h2.2.2.1, ← hv] at h3
      exact h3
    have hret2 : f = 0 → ∀ (v v2 : Int), v = kb → v2 = kb + 1 → Q (some (vi v)) (up (up (up (up (up J 32 13 0) 33 kb a) 34 kb b) 35 kb day) 32 0 v2, L, R, n) := fun h1 v v2 hv hv2 => by
      obtain ⟨_, h2, h3, h4, hd, h5, h6, h7⟩ := hcase.resolve_left (fun q => absurd q.1 (by omega))
      rw [hv, hv2]
      refine hq _ hd hok ((((((FrB.of hF).wr (by unfold tB; omega)).wr (by unfold tB; omega)).wr (by unfold tB; omega)).wr (by unfold tB; omega)).wr (by unfold tB; omega)) (up_same _ _ _ _) ?_ ?_ h3 h2 ?_ ?_ h7 ?_ ?_ ?_
      · simp (disch := omega) only [up_same, up_o, up_k]
      · simp (disch := omega) only [up_same, up_o, up_k]; rw [h4, h3]
      · exact ⟨fun i q0 q1 => by simp (disch := omega) only [up_same, up_o, up_k]; exact h5.1 i q0 q1, fun i q0 q1 => by simp (disch := omega) only [up_same, up_o, up_k]; exact h5.2 i q0 q1⟩
      · exact fun w q0 q1 => by simp (disch := omega) only [up_same, up_o, up_k]; exact h6 w q0 q1
      · simp (disch := omega) only [up_same, up_o, up_k]
      · simp (disch := omega) only [up_same, up_o, up_k]
      · simp (disch := omega) only [up_same, up_o, up_k]
    clear hcase
    refine Wp.aload_n rfl dX12_book_122 ?_
    refine Wp.iconst dX12_book_123 ?_
    refine Wp.pi (kz := 13) rfl dX12_book_124 fkX12_108 (Or.inl rfl) (Or.inl rfl) (by first | rfl | exact kd_b0 _ | exact kd_b1 _ | exact kd_b2 _ | exact kd_b3 _ | exact kd_b4 _ | exact kd_b5 _ | exact kd_b6 _) (by omega) ?_
    refine Wp.iload rfl dX12_book_127 ?_
    refine Wp.if_le (tgt := 138) dX12_book_129 (by decide) (by first | omega | exact bI_R _ | exact cmp_R _ _ | assumption) (fun c129 => ?_) (fun c129 => ?_)
    · rw [show up J 32 13 0 = up J 32 13 0 from rfl]
      refine Wp.aload_n rfl dX12_book_138 ?_
      refine Wp.gr (kz := 1) rfl dX12_book_139 fkX12_7 (by first | rfl | exact kd_b0 _ | exact kd_b1 _ | exact kd_b2 _ | exact kd_b3 _ | exact kd_b4 _ | exact kd_b5 _ | exact kd_b6 _) (by omega) (by first | exact hFx _ 1 _ rfl | assumption | exact hBk.1 | exact hBk.2.1 | exact hBk.2.2.1 | exact hBk.2.2.2.1 | exact hBk.2.2.2.2.1 | exact hBk.2.2.2.2.2) ?_
      try simp (disch := omega) only [up_same, up_o, up_k]
      refine Wp.aload_n rfl dX12_book_142 ?_
      refine Wp.gi (kz := 0) rfl dX12_book_143 fkX12_153 (by first | rfl | exact kd_b0 _ | exact kd_b1 _ | exact kd_b2 _ | exact kd_b3 _ | exact kd_b4 _ | exact kd_b5 _ | exact kd_b6 _) (by omega) ?_
      try simp (disch := omega) only [up_same, up_o, up_k]
      refine Wp.iload_n rfl dX12_book_146 ?_
      refine Wp.iastore dX12_book_147 (by first | rfl | exact kd_b0 _ | exact kd_b1 _ | exact kd_b2 _ | exact kd_b3 _ | exact kd_b4 _ | exact kd_b5 _ | exact kd_b6 _) (by omega) (by omega) (by omega) ?_
      refine Wp.aload_n rfl dX12_book_148 ?_
      refine Wp.gr (kz := 2) rfl dX12_book_149 fkX12_13 (by first | rfl | exact kd_b0 _ | exact kd_b1 _ | exact kd_b2 _ | exact kd_b3 _ | exact kd_b4 _ | exact kd_b5 _ | exact kd_b6 _) (by omega) (by first | exact hFx _ 2 _ rfl | assumption | exact hBk.1 | exact hBk.2.1 | exact hBk.2.2.1 | exact hBk.2.2.2.1 | exact hBk.2.2.2.2.1 | exact hBk.2.2.2.2.2) ?_
      try simp (disch := omega) only [up_same, up_o, up_k]
      refine Wp.aload_n rfl dX12_book_152 ?_
      refine Wp.gi (kz := 0) rfl dX12_book_153 fkX12_153 (by first | rfl | exact kd_b0 _ | exact kd_b1 _ | exact kd_b2 _ | exact kd_b3 _ | exact kd_b4 _ | exact kd_b5 _ | exact kd_b6 _) (by omega) ?_
      try simp (disch := omega) only [up_same, up_o, up_k]
      refine Wp.iload_n rfl dX12_book_156 ?_
      refine Wp.iastore dX12_book_157 (by first | rfl | exact kd_b0 _ | exact kd_b1 _ | exact kd_b2 _ | exact kd_b3 _ | exact kd_b4 _ | exact kd_b5 _ | exact kd_b6 _) (by omega) (by omega) (by omega) ?_
      refine Wp.aload_n rfl dX12_book_158 ?_
      refine Wp.gr (kz := 3) rfl dX12_book_159 fkX12_16 (by first | rfl | exact kd_b0 _ | exact kd_b1 _ | exact kd_b2 _ | exact kd_b3 _ | exact kd_b4 _ | exact kd_b5 _ | exact kd_b6 _) (by omega) (by first | exact hFx _ 3 _ rfl | assumption | exact hBk.1 | exact hBk.2.1 | exact hBk.2.2.1 | exact hBk.2.2.2.1 | exact hBk.2.2.2.2.1 | exact hBk.2.2.2.2.2) ?_
      try simp (disch := omega) only [up_same, up_o, up_k]
      refine Wp.aload_n rfl dX12_book_162 ?_
      refine Wp.gi (kz := 0) rfl dX12_book_163 fkX12_153 (by first | rfl | exact kd_b0 _ | exact kd_b1 _ | exact kd_b2 _ | exact kd_b3 _ | exact kd_b4 _ | exact kd_b5 _ | exact kd_b6 _) (by omega) ?_
      try simp (disch := omega) only [up_same, up_o, up_k]
      refine Wp.iload_n rfl dX12_book_166 ?_
      refine Wp.iastore dX12_book_167 (by first | rfl | exact kd_b0 _ | exact kd_b1 _ | exact kd_b2 _ | exact kd_b3 _ | exact kd_b4 _ | exact kd_b5 _ | exact kd_b6 _) (by omega) (by omega) (by omega) ?_
      refine Wp.aload_n rfl dX12_book_168 ?_
      first | refine Wp.dupR dX12_book_169 ?_ | refine Wp.dupI dX12_book_169 ?_
      refine Wp.gi (kz := 0) rfl dX12_book_170 fkX12_153 (by first | rfl | exact kd_b0 _ | exact kd_b1 _ | exact kd_b2 _ | exact kd_b3 _ | exact kd_b4 _ | exact kd_b5 _ | exact kd_b6 _) (by omega) ?_
      try simp (disch := omega) only [up_same, up_o, up_k]
      refine Wp.iconst dX12_book_173 ?_
      refine Wp.iadd dX12_book_174 ?_
      refine Wp.pi (kz := 0) rfl dX12_book_175 fkX12_153 (Or.inl rfl) (Or.inl rfl) (by first | rfl | exact kd_b0 _ | exact kd_b1 _ | exact kd_b2 _ | exact kd_b3 _ | exact kd_b4 _ | exact kd_b5 _ | exact kd_b6 _) (by omega) ?_
      refine Wp.aload_n rfl dX12_book_178 ?_
      refine Wp.gi (kz := 0) rfl dX12_book_179 fkX12_153 (by first | rfl | exact kd_b0 _ | exact kd_b1 _ | exact kd_b2 _ | exact kd_b3 _ | exact kd_b4 _ | exact kd_b5 _ | exact kd_b6 _) (by omega) ?_
      try simp (disch := omega) only [up_same, up_o, up_k]
      refine Wp.iconst dX12_book_182 ?_
      refine Wp.isub dX12_book_183 ?_
      refine Wp.ireturn dX12_book_184 rfl ?_
      first | (exfalso; omega) | (first | exact hret2 (by omega) _ _ (by omega) (by omega) | (rw [h0]; exact hret2 (by omega) _ _ (by omega) (by omega)))
    · refine Wp.bipush rfl dX12_book_132 ?_
      refine Wp.iload rfl dX12_book_134 ?_
      refine Wp.isub dX12_book_136 ?_
      refine Wp.ireturn dX12_book_137 rfl ?_
      first | (exfalso; omega) | (exact hret (by omega) _ rfl)
  have lw : okBook kb a b day → ∀ (tt : Nat) (J : Nat → Int → Int) (hd : Int) (D : Dr), (N - J 32 15).toNat < tt → FrC kb I J → J 32 14 = -1 → 0 ≤ J 32 15 → J 32 15 ≤ N → RDr J kb D → R36 J kb D → MI 0 hd D → O = out T N 0 hd (J 32 15) D → Wp mX12_book 97 [some (vr (some 32)), some (vi a), some (vi b), some (vi day), some (vi 0)] [] (J, L, R, n) (0, 0) Q := by
    intro hok tt
    induction tt with
    | zero => intro J hd D h; omega
    | succ tt ih =>
      intro J hd D hm hF j14 j0 j1 hR hS hM hOJ
      have hJ0 := c0 hF
      rw [out_sk _ _ rfl j1] at hOJ
      have hpB := sk_B (T := T) j1
      obtain ⟨p, hp⟩ : ∃ p, p = sk T N (J 32 15) := ⟨_, rfl⟩
      rw [← hp] at hOJ hpB
      have hsg := sg_B hT hJT.symm hJN.symm (p := p) (by omega)
      have hfault : ∀ (K : Nat → Int → Int) (f : Int), FrC kb I K → 1 ≤ f → f ≤ 5 → O.1 = f → O.2.1 = K 32 14 → Wp mX12_book 97 [some (vr (some 32)), some (vi a), some (vi b), some (vi day), some (vi f)] [] (K, L, R, n) (0, 0) Q := by
        intro K f hFK h1 h5 hO1 hO2
        refine Wp.iload rfl dX12_book_97 ?_
        refine Wp.if_ne (tgt := 122) dX12_book_99 (by decide) (by first | omega | exact bI_R _ | exact cmp_R _ _ | assumption) (fun c99 => ?_) (fun c99 => ?_)
        · exact hfin K f hok hFK (Or.inl ⟨h1, h5, hO1, hO2.symm⟩)
        · exfalso; first | omega | (simp at c99; done) | (simp_all; done)
      refine Wp.iload rfl dX12_book_97 ?_
      refine Wp.if_ne (tgt := 122) dX12_book_99 (by decide) (by first | omega | exact bI_R _ | exact cmp_R _ _ | assumption) (fun c99 => ?_) (fun c99 => ?_)
      · exfalso; first | omega | (simp at c99; done) | (simp_all; done)
      · refine Wp.aload_n rfl dX12_book_102 ?_
        refine Wp.callV (As := []) (ls0 := [_]) (bd := (0, 0)) (bd' := (0, 0)) dX12_book_103 kmX12_here lkX12_116 (by decide) (by decide) (Nat.le_of_ble_eq_true rfl) (by first | rfl | exact kd_b0 _ | exact kd_b1 _ | exact kd_b2 _ | exact kd_b3 _ | exact kd_b4 _ | exact kd_b5 _ | exact kd_b6 _) (by omega) rfl rfl (Nat.le_of_ble_eq_true rfl) rfl ?_
        refine ct_he (T := T) (N := N) hn hFx (TxW_cg hF.t.1 hF.t.2 hT) (by rw [hF.t.1]; exact hJT.symm) (by rw [hF.t.2]; exact hJN.symm) (by omega) (by omega) (fun K hFK g14 g16 g17 g15 => ?_)
        rw [← hp] at g15 ⊢
        have hF2 := hF.fn hFK
        have hK0 := c0 hF2
        have hR2 := RDr_fn hR hFK
        have hS2 := R36_fn hS hFK
        show Wp _ _ _ (_ :: _) _ _ _
        refine Wp.if_lt (tgt := 122) dX12_book_106 (by decide) (by first | omega | exact bI_R _ | exact cmp_R _ _ | assumption) (fun c106 => ?_) (fun c106 => ?_)
        · have hend := out_end (T := T) (nx := 0) (hd := hd) (D := D) (show N ≤ p by omega)
          rw [if_pos rfl] at hend
          rw [hend] at hOJ
          exact hfin K 0 hok hF2 (Or.inr ⟨rfl, by rw [hOJ], by rw [hOJ], by omega, hd, by rw [hOJ]; exact hR2, by rw [hOJ]; exact hS2, by rw [hOJ]; exact hM⟩)
        · refine Wp.aload_n rfl dX12_book_109 ?_
          refine Wp.aload_n rfl dX12_book_110 ?_
          refine Wp.gi (kz := 0) rfl dX12_book_111 fkX12_153 (by first | rfl | exact kd_b0 _ | exact kd_b1 _ | exact kd_b2 _ | exact kd_b3 _ | exact kd_b4 _ | exact kd_b5 _ | exact kd_b6 _) (by omega) ?_
          rw [hK0]
          refine Wp.callV (As := [_]) (ls0 := [_, _, _, _, _]) (bd := (0, 0)) (bd' := (0, 0)) dX12_book_114 kmX12_readClause lkX12_156 (by decide) (by decide) (Nat.le_of_ble_eq_true rfl) (by first | rfl | exact kd_b0 _ | exact kd_b1 _ | exact kd_b2 _ | exact kd_b3 _ | exact kd_b4 _ | exact kd_b5 _ | exact kd_b6 _) (by omega) rfl rfl (Nat.le_of_ble_eq_true rfl) rfl ?_
          refine ct_X12_readClause (T := T) (N := N) (hd0 := hd) (D := D) hn hFx (TxW_cg hF2.t.1 hF2.t.2 hT) (by rw [hF2.t.1]; exact hJT.symm) (by rw [hF2.t.2]; exact hJN.symm) (by omega) hM hR2 hS2 (by omega) (by omega) (by rw [g15]; exact hpB.2.2) (fun K3 f hf0 hf1 hrc => ?_)
          rw [g15] at hrc
          show Wp _ _ _ (_ :: _) _ _ _
          refine Wp.istore (ls' := [_, _, _, _, _]) dX12_book_117 (by decide) rfl ?_
          refine Wp.goto (tgt := 97) dX12_book_119 (by decide) ?_
          rcases hrc.2 with h2 | ⟨h2, hd', D', a1, a2, a3, a4, a5, a6, a7⟩
          · exact hfault K3 f (hF2.tr hrc.1) h2.1 h2.2.1 (by rw [hOJ]; exact h2.2.2.1) (by rw [hOJ]; exact h2.2.2.2)
          · subst h2
            exact ih K3 hd' D' (by omega) (hF2.tr hrc.1) (by omega) (by omega) a3 a4 a5 a6 (by rw [hOJ]; exact a7)
  have lz : ∀ (hok : okBook kb a b day) , ∀ (tt k : Nat) (z : Int) (J : Nat → Int → Int), k + tt = 60 → z = k → FrC kb I J → J 32 14 = -1 → J 32 15 = 0 → RDr J kb (dr0 I kb) → (∀ j : Nat, j < k → J 36 (60 * kb + j) = 0) → Wp mX12_book 65 [some (vr (some 32)), some (vi a), some (vi b), some (vi day), some (vi z)] [] (J, L, R, n) (0, 0) Q := by
    intro hok
    intro tt
    induction tt with
    | zero =>
      intro k z J hkt hz e0 e1 e2 e3 e4
      obtain rfl : k = 60 := by omega
      refine Wp.iload rfl dX12_book_65 ?_
      refine Wp.bipush rfl dX12_book_67 ?_
      refine Wp.icmp_ge (tgt := 94) dX12_book_69 (by decide) (by first | omega | exact bI_R _ | exact cmp_R _ _ | assumption) (by first | omega | exact bI_R _ | exact cmp_R _ _ | assumption) (fun c69 => ?_) (fun c69 => ?_)
      · refine Wp.iconst dX12_book_94 ?_
        refine Wp.istore (ls' := [_, _, _, _, _]) dX12_book_95 (by decide) rfl ?_
        exact lw hok _ J (-1) (dr0 I kb) (Nat.lt_succ_self _) e0 e1 (by omega) (by omega) e3 (fun w h0 h1 => by have := e4 w.toNat (by omega); rw [show ((w.toNat : Nat) : Int) = w by omega] at this; exact this) (MI_0 I kb) (by rw [e2]; exact hO)
      · exfalso; omega
    | succ tt ih =>
      intro k z J hkt hz e0 e1 e2 e3 e4
      subst hz
      have hJ0 := c0 e0
      refine Wp.iload rfl dX12_book_65 ?_
      refine Wp.bipush rfl dX12_book_67 ?_
      refine Wp.icmp_ge (tgt := 94) dX12_book_69 (by decide) (by first | omega | exact bI_R _ | exact cmp_R _ _ | assumption) (by first | omega | exact bI_R _ | exact cmp_R _ _ | assumption) (fun c69 => ?_) (fun c69 => ?_)
      · exfalso; omega
      · refine Wp.aload_n rfl dX12_book_72 ?_
        refine Wp.gr (kz := 4) rfl dX12_book_73 fkX12_19 (by first | rfl | exact kd_b0 _ | exact kd_b1 _ | exact kd_b2 _ | exact kd_b3 _ | exact kd_b4 _ | exact kd_b5 _ | exact kd_b6 _) (by omega) (by first | exact hFx _ 4 _ rfl | assumption | exact hBk.1 | exact hBk.2.1 | exact hBk.2.2.1 | exact hBk.2.2.2.1 | exact hBk.2.2.2.2.1 | exact hBk.2.2.2.2.2) ?_
        refine Wp.bipush rfl dX12_book_76 ?_
        refine Wp.aload_n rfl dX12_book_78 ?_
        refine Wp.gi (kz := 0) rfl dX12_book_79 fkX12_153 (by first | rfl | exact kd_b0 _ | exact kd_b1 _ | exact kd_b2 _ | exact kd_b3 _ | exact kd_b4 _ | exact kd_b5 _ | exact kd_b6 _) (by omega) ?_
        refine Wp.imul dX12_book_82 ?_
        refine Wp.iload rfl dX12_book_83 ?_
        refine Wp.iadd dX12_book_85 ?_
        refine Wp.iconst dX12_book_86 ?_
        refine Wp.iastore dX12_book_87 (by first | rfl | exact kd_b0 _ | exact kd_b1 _ | exact kd_b2 _ | exact kd_b3 _ | exact kd_b4 _ | exact kd_b5 _ | exact kd_b6 _) (by omega) (by omega) (by omega) ?_
        refine Wp.iinc (ls' := [_, _, _, _, _]) rfl dX12_book_88 (by decide) rfl ?_
        refine Wp.goto (tgt := 65) dX12_book_91 (by decide) ?_
        rw [hJ0]
        refine ih (k + 1) _ _ (by omega) (by omega) (e0.wr (by unfold tC; omega)) (by rw [up_o _ _ _ _ (by decide)]; exact e1) (by rw [up_o _ _ _ _ (by decide)]; exact e2) (RDr_36 e3) (fun j hj => ?_)
        rcases Nat.lt_or_ge j k with h3 | h3
        · rw [up_k _ _ _ _ (by omega)]; exact e4 j h3
        · obtain rfl : j = k := by omega
          exact up_same _ _ _ _
  have hno2 : ¬ okBook kb a b day → ∀ v, v = noBook a b day → Q (some (vi v)) (I, L, R, n) := fun h v hv => by rw [hv]; exact hno h
  clear hno
  refine Wp.iload_n rfl dX12_book_0 ?_
  refine Wp.callS (As := [_]) (ls0 := [_]) (bd := (0, 0)) (bd' := (0, 0)) dX12_book_1 kmX12_isTongue lkX12_147 (by decide) (by decide) (Nat.le_of_ble_eq_true rfl) rfl rfl (Nat.le_of_ble_eq_true rfl) rfl ?_
  refine ct_X12_isTongue (by omega) ?_
  show Wp _ _ _ (_ :: _) _ _ _
  refine Wp.if_eqB (tgt := 14) dX12_book_4 (by decide) (fun c4 => ?_) (fun c4 => ?_)
  · refine Wp.sipush rfl dX12_book_14 ?_
    refine Wp.ireturn dX12_book_17 rfl ?_
    first | (exfalso; omega) | (exact hno2 (by omega) _ (by unfold noBook; (repeat' split) <;> first | rfl | (exfalso; omega)))
  · refine Wp.iload_n rfl dX12_book_7 ?_
    refine Wp.callS (As := [_]) (ls0 := [_]) (bd := (0, 0)) (bd' := (0, 0)) dX12_book_8 kmX12_isTongue lkX12_147 (by decide) (by decide) (Nat.le_of_ble_eq_true rfl) rfl rfl (Nat.le_of_ble_eq_true rfl) rfl ?_
    refine ct_X12_isTongue (by omega) ?_
    show Wp _ _ _ (_ :: _) _ _ _
    refine Wp.if_neB (tgt := 18) dX12_book_11 (by decide) (fun c11 => ?_) (fun c11 => ?_)
    · refine Wp.iload_n rfl dX12_book_18 ?_
      refine Wp.iload_n rfl dX12_book_19 ?_
      refine Wp.icmp_eq (tgt := 35) dX12_book_20 (by decide) (by first | omega | exact bI_R _ | exact cmp_R _ _ | assumption) (by first | omega | exact bI_R _ | exact cmp_R _ _ | assumption) (fun c20 => ?_) (fun c20 => ?_)
      · refine Wp.sipush rfl dX12_book_35 ?_
        refine Wp.ireturn dX12_book_38 rfl ?_
        first | (exfalso; omega) | (exact hno2 (by omega) _ (by unfold noBook; (repeat' split) <;> first | rfl | (exfalso; omega)))
      · refine Wp.iload_n rfl dX12_book_23 ?_
        refine Wp.i2l (by first | omega | exact bI_R _ | exact cmp_R _ _ | assumption) dX12_book_24 ?_
        refine Wp.lconst0 dX12_book_25 ?_
        refine Wp.ldc2_w (b := 999#64) ckX12_151 rfl dX12_book_26 ?_
        refine Wp.callS (As := [_, _, _]) (ls0 := [_, _, _, _, _, _]) (bd := (0, 0)) (bd' := (0, 0)) dX12_book_29 kmX12_in lkX12_100 (by decide) (by decide) (Nat.le_of_ble_eq_true rfl) rfl rfl (Nat.le_of_ble_eq_true rfl) rfl ?_
        refine ct_X12_in (a := 0) (b := 999) (ofI_toInt hdy) rfl rfl ?_
        show Wp _ _ _ (_ :: _) _ _ _
        refine Wp.if_neB (tgt := 39) dX12_book_32 (by decide) (fun c32 => ?_) (fun c32 => ?_)
        · refine Wp.aload_n rfl dX12_book_39 ?_
          refine Wp.gi (kz := 0) rfl dX12_book_40 fkX12_153 (by first | rfl | exact kd_b0 _ | exact kd_b1 _ | exact kd_b2 _ | exact kd_b3 _ | exact kd_b4 _ | exact kd_b5 _ | exact kd_b6 _) (by omega) ?_
          refine Wp.bipush rfl dX12_book_43 ?_
          refine Wp.icmp_ne (tgt := 52) dX12_book_45 (by decide) (by first | omega | exact bI_R _ | exact cmp_R _ _ | assumption) (by first | omega | exact bI_R _ | exact cmp_R _ _ | assumption) (fun c45 => ?_) (fun c45 => ?_)
          · refine Wp.aload_n rfl dX12_book_52 ?_
            refine Wp.iconst dX12_book_53 ?_
            refine Wp.pi (kz := 14) rfl dX12_book_54 fkX12_49 (Or.inl rfl) (Or.inl rfl) (by first | rfl | exact kd_b0 _ | exact kd_b1 _ | exact kd_b2 _ | exact kd_b3 _ | exact kd_b4 _ | exact kd_b5 _ | exact kd_b6 _) (by omega) ?_
            refine Wp.aload_n rfl dX12_book_57 ?_
            refine Wp.iconst dX12_book_58 ?_
            refine Wp.pi (kz := 15) rfl dX12_book_59 fkX12_113 (Or.inl rfl) (Or.inl rfl) (by first | rfl | exact kd_b0 _ | exact kd_b1 _ | exact kd_b2 _ | exact kd_b3 _ | exact kd_b4 _ | exact kd_b5 _ | exact kd_b6 _) (by omega) ?_
            refine Wp.iconst dX12_book_62 ?_
            refine Wp.istore (ls' := [_, _, _, _, _]) dX12_book_63 (by decide) rfl ?_
            exact lz (by omega) 60 0 _ _ (by omega) (by omega) (((FrC.rf kb I).wr (by unfold tC tW; omega)).wr (by unfold tC tW; omega)) (by simp (disch := omega) only [up_same, up_o, up_k]) (by simp (disch := omega) only [up_same, up_o, up_k]) (RDr_u (RDr_u (RDr_0 I kb))) (fun j hj => absurd hj (Nat.not_lt_zero j))
          · refine Wp.sipush rfl dX12_book_48 ?_
            refine Wp.ireturn dX12_book_51 rfl ?_
            first | (exfalso; omega) | (exact hno2 (by omega) _ (by unfold noBook; (repeat' split) <;> first | rfl | (exfalso; omega)))
        · refine Wp.sipush rfl dX12_book_35 ?_
          refine Wp.ireturn dX12_book_38 rfl ?_
          first | (exfalso; omega) | (exact hno2 (by omega) _ (by unfold noBook; (repeat' split) <;> first | rfl | (exfalso; omega)))
    · refine Wp.sipush rfl dX12_book_14 ?_
      refine Wp.ireturn dX12_book_17 rfl ?_
      first | (exfalso; omega) | (exact hno2 (by omega) _ (by unfold noBook; (repeat' split) <;> first | rfl | (exfalso; omega)))
end

