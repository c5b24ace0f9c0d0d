/-! ===== the reference: promise 28 ===== -/
noncomputable def covB (I : Nat → Int → Int) (lk a b : Int) (s : BitVec 64) : Bool := @decide (cov I lk a b s) (Classical.propDecidable _)
theorem covB_iff {I : Nat → Int → Int} {lk a b : Int} {s : BitVec 64} : covB I lk a b s = true ↔ cov I lk a b s := by
  unfold covB
  exact @decide_eq_true_iff (cov I lk a b s) (Classical.propDecidable _)
def allB (p : Nat → Bool) : Nat → Bool
  | 0 => true
  | k + 1 => allB p k && p k
theorem allB_iff (p : Nat → Bool) : ∀ k, allB p k = true ↔ ∀ j, j < k → p j = true
  | 0 => by simp [allB]
  | k + 1 => by
    simp only [allB, Bool.and_eq_true, allB_iff p k]
    constructor
    · intro h j hj
      rcases Nat.lt_or_ge j k with h1 | h1
      · exact h.1 j h1
      · have : j = k := by omega
        subst this; exact h.2
    · intro h
      exact ⟨fun j hj => h j (by omega), h k (by omega)⟩
theorem allS_t {p : Nat → Bool} {k : Nat} (h : allB p k = true) (h2 : p k = true) : (1 : Int) = bI (allB p (k + 1) = true) := by
  rw [bI_t]; simp only [allB, h, h2]; rfl
theorem allS_f {p : Nat → Bool} {k : Nat} (h : ¬ allB p k = true ∨ ¬ p k = true) : (0 : Int) = bI (allB p (k + 1) = true) := by
  rw [bI_f]; simp only [allB, Bool.and_eq_true]; exact fun q => h.elim (fun f => f q.1) (fun f => f q.2)
/-- the books of a set are all of days up to now -/
def gdB (I : Nat → Int → Int) (s : Int) : Bool := allB (fun j => decide (andI (shrI s j) 1 = 0 ∨ I 35 j ≤ I 32 9)) (I 32 0).toNat
noncomputable def fwS (I : Nat → Int → Int) (a b : Int) (set : BitVec 64) (best s : Int) : Int := if gdB I s = true ∧ (best < 0 ∨ pcN (BitVec.ofInt 64 s) 60 < pcN (BitVec.ofInt 64 best) 60) ∧ covB I s a b set = true then s else best
noncomputable def fwN (I : Nat → Int → Int) (a b : Int) (set : BitVec 64) : Nat → Int
  | 0 => -1
  | k + 1 => fwS I a b set (fwN I a b set k) k
noncomputable def aFewest (I : Nat → Int → Int) (a b : Int) (set : BitVec 64) : Int := if tgP a ∧ tgP b ∧ 0 ≤ set.toInt ∧ set.toInt ≤ 1152921504606846975 then (if a = b then -1002 else fwN I a b set (2 ^ (I 32 0).toNat)) else -1001
theorem shl1_I {z : Int} (h0 : 0 ≤ z) (h1 : z ≤ 8) : shlI 1 z = ((2 ^ z.toNat : Nat) : Int) := by
  obtain ⟨k, rfl⟩ := Int.eq_ofNat_of_zero_le h0
  have key : ∀ k : Fin 9, shlI 1 ((k : Nat) : Int) = ((2 ^ (k : Nat) : Nat) : Int) := by decide +kernel
  exact key ⟨k, by omega⟩
theorem pow_le8 {k : Nat} (h : k ≤ 8) : 2 ^ k ≤ 256 := Nat.pow_le_pow_right (n := 2) (by decide) h
section
variable {I : Nat → Int → Int} {L : Nat → Int → BitVec 64} {R : Nat → Int → Option Nat} {n : Nat} {m : Mm} {Q : Option AV → Mm → Prop}
theorem Clo_cg {J : Nat → Int → Int} (h : SE I J) {lk b : Int} {T : Int → BitVec 64} : Clo J lk b T ↔ Clo I lk b T := by
  unfold Clo; simp only [gv_cg h]
theorem Lst_cg {J : Nat → Int → Int} (h : SE I J) {lk b : Int} {S : Int → BitVec 64} : Lst J lk b S ↔ Lst I lk b S := by
  unfold Lst Ivl; simp only [Clo_cg h]
theorem gdB_cg {J : Nat → Int → Int} (h : SE I J) (s : Int) : gdB J s = gdB I s := by
  unfold gdB; simp only [h.1 35 (by omega) (by omega), h.2.1, h.2.2.1]
theorem set60 {s : BitVec 64} (h0 : 0 ≤ s.toInt) (h1 : s.toInt ≤ 1152921504606846975) : ∀ i : Nat, 60 ≤ i → s.getLsbD i = false := by
  intro i hi
  have e : s.toNat < 2 ^ 60 := by
    have := BitVec.toInt_eq_toNat_cond s
    have h2 := s.isLt
    split at this <;> omega
  rw [BitVec.getLsbD]
  exact Nat.testBit_lt_two_pow (Nat.lt_of_lt_of_le e (Nat.pow_le_pow_right (by decide) hi))
theorem fwN_B (I : Nat → Int → Int) (a b : Int) (set : BitVec 64) : ∀ k : Nat, -1 ≤ fwN I a b set k ∧ fwN I a b set k < k
  | 0 => by simp [fwN]
  | k + 1 => by
    have ih := fwN_B I a b set k
    simp only [fwN, fwS]
    split <;> omega
/-- the same memory but for the set that is looked at -/
def Lkd (I J : Nat → Int → Int) : Prop := ∀ (o : Nat) (k : Int), ¬ (o = 32 ∧ k = 11) → J o k = I o k
theorem Lkd.se {J : Nat → Int → Int} (h : Lkd I J) : SE I J :=
  ⟨fun o h1 h2 k => h o k (by omega), h 32 0 (by omega), h 32 9 (by omega), h 32 10 (by omega)⟩
theorem Lkd.wr {J : Nat → Int → Int} (h : Lkd I J) (v : Int) : Lkd I (up J 32 11 v) := fun o k hk => by
  unfold up; rw [if_neg (by omega)]; exact h o k hk
set_option maxHeartbeats 2000000 in
theorem ct_X12_fewest {a b : Int} {set : BitVec 64} (hn : 57 ≤ n) (hFx : Fx R) (hW : RW I) (ha : inR a) (hb : inR b) (hlk : I 32 11 = 255) (hq : ∀ K, EqvL L K → Q (some (vi (aFewest I a b set))) (I, K, R, n)) : Wp mX12_fewest 0 [some (vr (some 32)), some (vi a), some (vi b), some (vl set), none, none, none, none, none] [] (I, L, R, n) (0, 0) Q := by
  have hN0 := hW.1
  have hN1 := hW.2.1
  have hT0 := hW.2.2.1
  have hT1 := hW.2.2.2.1
  have hsh := shl1_I hN0 hN1
  have hpw := pow_le8 (show (I 32 0).toNat ≤ 8 by omega)
  generalize hP : 2 ^ (I 32 0).toNat = P at hsh hpw
  -- is the set good
  have lg : ∀ (J : Nat → Int → Int) (K : Nat → Int → BitVec 64) (best : Int) (s : Nat) (hJ : Lkd I J) (hs : s < 256) (hc' : ∀ (x8 : Option AV), Wp mX12_fewest 112 [some (vr (some 32)), some (vi a), some (vi b), some (vl set), none, some (vi best), some (vi s), some (vi (bI (gdB I s = true))), x8] [] (J, K, R, n) (0, 0) Q) , ∀ (tt k : Nat) (z : Int) (x : Int), k + tt = (I 32 0).toNat → z = k → x = bI (allB (fun j => decide (andI (shrI s j) 1 = 0 ∨ I 35 j ≤ I 32 9)) k = true) → Wp mX12_fewest 61 [some (vr (some 32)), some (vi a), some (vi b), some (vl set), none, some (vi best), some (vi s), some (vi x), some (vi z)] [] (J, K, R, n) (0, 0) Q := by
    intro J K best s hJ hs hc'
    intro tt
    induction tt with
    | zero =>
      intro k z x hkt hz e0
      obtain rfl : k = (I 32 0).toNat := by omega
      have hJ0 := hJ.se.2.1
      refine Wp.iload rfl dX12_fewest_61 ?_
      refine Wp.aload_n rfl dX12_fewest_63 ?_
      refine Wp.gi (kz := 0) rfl dX12_fewest_64 fkX12_153 (by first | rfl | exact kd_b0 _ | exact kd_b1 _ | exact kd_b2 _ | exact kd_b3 _ | exact kd_b4 _ | exact kd_b5 _ | exact kd_b6 _) (by omega) ?_
      refine Wp.icmp_ge (tgt := 112) dX12_fewest_67 (by decide) (by first | omega | exact bI_R _ | exact cmp_R _ _ | assumption) (by first | omega | exact bI_R _ | exact cmp_R _ _ | assumption) (fun c67 => ?_) (fun c67 => ?_)
      · subst e0; exact hc' _
      · exfalso; omega
    | succ tt ih =>
      intro k z x hkt hz e0
      subst hz
      subst e0
      have hJ0 := hJ.se.2.1
      have hJ9 := hJ.se.2.2.1
      have hJd := hJ.se.1 35 (by omega) (by omega) k
      have hzb := hW.b (show (0 : Int) ≤ k by omega) (by omega)
      refine Wp.iload rfl dX12_fewest_61 ?_
      refine Wp.aload_n rfl dX12_fewest_63 ?_
      refine Wp.gi (kz := 0) rfl dX12_fewest_64 fkX12_153 (by first | rfl | exact kd_b0 _ | exact kd_b1 _ | exact kd_b2 _ | exact kd_b3 _ | exact kd_b4 _ | exact kd_b5 _ | exact kd_b6 _) (by omega) ?_
      refine Wp.icmp_ge (tgt := 112) dX12_fewest_67 (by decide) (by first | omega | exact bI_R _ | exact cmp_R _ _ | assumption) (by first | omega | exact bI_R _ | exact cmp_R _ _ | assumption) (fun c67 => ?_) (fun c67 => ?_)
      · exfalso; omega
      · refine Wp.iload rfl dX12_fewest_70 ?_
        refine Wp.if_eqB (tgt := 103) dX12_fewest_72 (by decide) (fun c72 => ?_) (fun c72 => ?_)
        · refine Wp.iconst dX12_fewest_103 ?_
          refine Wp.istore (ls' := [_, _, _, _, _, _, _, _, _]) dX12_fewest_104 (by decide) rfl ?_
          refine Wp.iinc (ls' := [_, _, _, _, _, _, _, _, _]) rfl dX12_fewest_106 (by decide) rfl ?_
          refine Wp.goto (tgt := 61) dX12_fewest_109 (by decide) ?_
          first | exact ih (k + 1) _ _ (by omega) (by omega) (allS_t c72 (decide_eq_true (Or.inl c82))) | exact ih (k + 1) _ _ (by omega) (by omega) (allS_t c72 (decide_eq_true (Or.inr (by omega)))) | exact ih (k + 1) _ _ (by omega) (by omega) (allS_f (Or.inl c72)) | exact ih (k + 1) _ _ (by omega) (by omega) (allS_f (Or.inr (fun q => (of_decide_eq_true q).elim c82 (by omega)))) | (exfalso; omega)
        · refine Wp.iload rfl dX12_fewest_75 ?_
          refine Wp.iload rfl dX12_fewest_77 ?_
          refine Wp.ishr dX12_fewest_79 ?_
          refine Wp.iconst dX12_fewest_80 ?_
          refine Wp.iand dX12_fewest_81 ?_
          refine Wp.if_eq (tgt := 99) dX12_fewest_82 (by decide) (w_rng _) (fun c82 => ?_) (fun c82 => ?_)
          · refine Wp.iconst dX12_fewest_99 ?_
            refine Wp.goto (tgt := 104) dX12_fewest_100 (by decide) ?_
            refine Wp.istore (ls' := [_, _, _, _, _, _, _, _, _]) dX12_fewest_104 (by decide) rfl ?_
            refine Wp.iinc (ls' := [_, _, _, _, _, _, _, _, _]) rfl dX12_fewest_106 (by decide) rfl ?_
            refine Wp.goto (tgt := 61) dX12_fewest_109 (by decide) ?_
            first | exact ih (k + 1) _ _ (by omega) (by omega) (allS_t c72 (decide_eq_true (Or.inl c82))) | exact ih (k + 1) _ _ (by omega) (by omega) (allS_t c72 (decide_eq_true (Or.inr (by omega)))) | exact ih (k + 1) _ _ (by omega) (by omega) (allS_f (Or.inl c72)) | exact ih (k + 1) _ _ (by omega) (by omega) (allS_f (Or.inr (fun q => (of_decide_eq_true q).elim c82 (by omega)))) | (exfalso; omega)
          · refine Wp.aload_n rfl dX12_fewest_85 ?_
            refine Wp.gr (kz := 3) rfl dX12_fewest_86 fkX12_16 (by first | rfl | exact kd_b0 _ | exact kd_b1 _ | exact kd_b2 _ | exact kd_b3 _ | exact kd_b4 _ | exact kd_b5 _ | exact kd_b6 _) (by omega) (by first | exact hFx _ 3 _ rfl | assumption | exact hBk.1 | exact hBk.2.1 | exact hBk.2.2.1 | exact hBk.2.2.2.1 | exact hBk.2.2.2.2.1 | exact hBk.2.2.2.2.2) ?_
            refine Wp.iload rfl dX12_fewest_89 ?_
            refine Wp.iaload dX12_fewest_91 (by first | rfl | exact kd_b0 _ | exact kd_b1 _ | exact kd_b2 _ | exact kd_b3 _ | exact kd_b4 _ | exact kd_b5 _ | exact kd_b6 _) (by omega) (by omega) (by omega) ?_
            refine Wp.aload_n rfl dX12_fewest_92 ?_
            refine Wp.gi (kz := 9) rfl dX12_fewest_93 fkX12_35 (by first | rfl | exact kd_b0 _ | exact kd_b1 _ | exact kd_b2 _ | exact kd_b3 _ | exact kd_b4 _ | exact kd_b5 _ | exact kd_b6 _) (by omega) ?_
            refine Wp.icmp_gt (tgt := 103) dX12_fewest_96 (by decide) (by first | omega | exact bI_R _ | exact cmp_R _ _ | assumption) (by first | omega | exact bI_R _ | exact cmp_R _ _ | assumption) (fun c96 => ?_) (fun c96 => ?_)
            · refine Wp.iconst dX12_fewest_103 ?_
              refine Wp.istore (ls' := [_, _, _, _, _, _, _, _, _]) dX12_fewest_104 (by decide) rfl ?_
              refine Wp.iinc (ls' := [_, _, _, _, _, _, _, _, _]) rfl dX12_fewest_106 (by decide) rfl ?_
              refine Wp.goto (tgt := 61) dX12_fewest_109 (by decide) ?_
              first | exact ih (k + 1) _ _ (by omega) (by omega) (allS_t c72 (decide_eq_true (Or.inl c82))) | exact ih (k + 1) _ _ (by omega) (by omega) (allS_t c72 (decide_eq_true (Or.inr (by omega)))) | exact ih (k + 1) _ _ (by omega) (by omega) (allS_f (Or.inl c72)) | exact ih (k + 1) _ _ (by omega) (by omega) (allS_f (Or.inr (fun q => (of_decide_eq_true q).elim c82 (by omega)))) | (exfalso; omega)
            · refine Wp.iconst dX12_fewest_99 ?_
              refine Wp.goto (tgt := 104) dX12_fewest_100 (by decide) ?_
              refine Wp.istore (ls' := [_, _, _, _, _, _, _, _, _]) dX12_fewest_104 (by decide) rfl ?_
              refine Wp.iinc (ls' := [_, _, _, _, _, _, _, _, _]) rfl dX12_fewest_106 (by decide) rfl ?_
              refine Wp.goto (tgt := 61) dX12_fewest_109 (by decide) ?_
              first | exact ih (k + 1) _ _ (by omega) (by omega) (allS_t c72 (decide_eq_true (Or.inl c82))) | exact ih (k + 1) _ _ (by omega) (by omega) (allS_t c72 (decide_eq_true (Or.inr (by omega)))) | exact ih (k + 1) _ _ (by omega) (by omega) (allS_f (Or.inl c72)) | exact ih (k + 1) _ _ (by omega) (by omega) (allS_f (Or.inr (fun q => (of_decide_eq_true q).elim c82 (by omega)))) | (exfalso; omega)
  have lo : ∀ (hok : tgP a ∧ tgP b ∧ 0 ≤ set.toInt ∧ set.toInt ≤ 1152921504606846975) (hab : a ≠ b) , ∀ (tt k : Nat) (z : Int) (J : Nat → Int → Int) (K : Nat → Int → BitVec 64) (best : Int) (x7 : Option AV) (x8 : Option AV), k + tt = P → z = k → Lkd I J → EqvL L K → best = fwN I a b set k → Wp mX12_fewest 44 [some (vr (some 32)), some (vi a), some (vi b), some (vl set), none, some (vi best), some (vi z), x7, x8] [] (J, K, R, n) (0, 0) Q := by
    intro hok hab
    intro tt
    induction tt with
    | zero =>
      intro k z J K best x7 x8 hkt hz e0 e1 e2
      obtain rfl : k = P := by omega
      have hJ0 := e0.se.2.1
      have hI : up J 32 11 255 = I := by
        funext o k'
        unfold up
        by_cases h : o = 32 ∧ k' = 11
        · rw [if_pos h, h.1, h.2, hlk]
        · rw [if_neg h]; exact e0 o k' h
      refine Wp.iload rfl dX12_fewest_44 ?_
      refine Wp.iconst dX12_fewest_46 ?_
      refine Wp.aload_n rfl dX12_fewest_47 ?_
      refine Wp.gi (kz := 0) rfl dX12_fewest_48 fkX12_153 (by first | rfl | exact kd_b0 _ | exact kd_b1 _ | exact kd_b2 _ | exact kd_b3 _ | exact kd_b4 _ | exact kd_b5 _ | exact kd_b6 _) (by omega) ?_
      refine Wp.ishl dX12_fewest_51 ?_
      rw [hJ0, hsh]
      refine Wp.icmp_ge (tgt := 180) dX12_fewest_52 (by decide) (by first | omega | exact bI_R _ | exact cmp_R _ _ | assumption) (by first | omega | exact bI_R _ | exact cmp_R _ _ | assumption) (fun c52 => ?_) (fun c52 => ?_)
      · refine Wp.aload_n rfl dX12_fewest_180 ?_
        refine Wp.sipush rfl dX12_fewest_181 ?_
        refine Wp.pi (kz := 11) rfl dX12_fewest_184 fkX12_43 (Or.inl rfl) (Or.inl rfl) (by first | rfl | exact kd_b0 _ | exact kd_b1 _ | exact kd_b2 _ | exact kd_b3 _ | exact kd_b4 _ | exact kd_b5 _ | exact kd_b6 _) (by omega) ?_
        refine Wp.iload rfl dX12_fewest_187 ?_
        refine Wp.ireturn dX12_fewest_189 rfl ?_
        rw [hI]; exact qI (hq K e1) (by unfold aFewest; rw [if_pos hok, if_neg hab, hP]; exact e2)
      · exfalso; omega
    | succ tt ih =>
      intro k z J K best x7 x8 hkt hz e0 e1 e2
      subst hz
      subst e2
      have hJ0 := e0.se.2.1
      have hWJ := RW_cg e0.se hW
      have hbB := fwN_B I a b set k
      have hstep : fwN I a b set (k + 1) = fwS I a b set (fwN I a b set k) k := rfl
      unfold fwS at hstep
      generalize fwN I a b set k = best at hbB hstep
      have hp1 := pcN_B (BitVec.ofInt 64 k) 60
      have hp2 := pcN_B (BitVec.ofInt 64 best) 60
      have h112 : ∀ (x8 : Option AV), Wp mX12_fewest 112 [some (vr (some 32)), some (vi a), some (vi b), some (vl set), none, some (vi best), some (vi k), some (vi (bI (gdB I k = true))), x8] [] (J, K, R, n) (0, 0) Q := by
        intro x8
        refine Wp.iload rfl dX12_fewest_112 ?_
        refine Wp.if_eqB (tgt := 174) dX12_fewest_114 (by decide) (fun c114 => ?_) (fun c114 => ?_)
        · refine Wp.iinc (ls' := [_, _, _, _, _, _, _, _, _]) rfl dX12_fewest_174 (by decide) rfl ?_
          refine Wp.goto (tgt := 44) dX12_fewest_177 (by decide) ?_
          first | exact ih (k + 1) _ _ _ _ _ _ (by omega) (by omega) (e0.wr k) (e1.tr hK') (hstep.trans (if_pos ⟨c114, by omega, covB_iff.mpr (hcv.mp c162)⟩)).symm | exact ih (k + 1) _ _ _ _ _ _ (by omega) (by omega) (e0.wr k) (e1.tr hK') (hstep.trans (if_neg (fun q => c162 (hcv.mpr (covB_iff.mp q.2.2))))).symm | exact ih (k + 1) _ _ _ _ _ _ (by omega) (by omega) e0 e1 (hstep.trans (if_neg (fun q => c114 q.1))).symm | exact ih (k + 1) _ _ _ _ _ _ (by omega) (by omega) e0 e1 (hstep.trans (if_neg (fun q => absurd q.2.1 (by omega)))).symm
        · refine Wp.iload rfl dX12_fewest_117 ?_
          refine Wp.if_lt (tgt := 137) dX12_fewest_119 (by decide) (by first | omega | exact bI_R _ | exact cmp_R _ _ | assumption) (fun c119 => ?_) (fun c119 => ?_)
          · refine Wp.aload_n rfl dX12_fewest_137 ?_
            refine Wp.iload rfl dX12_fewest_138 ?_
            refine Wp.pi (kz := 11) rfl dX12_fewest_140 fkX12_43 (Or.inl rfl) (Or.inl rfl) (by first | rfl | exact kd_b0 _ | exact kd_b1 _ | exact kd_b2 _ | exact kd_b3 _ | exact kd_b4 _ | exact kd_b5 _ | exact kd_b6 _) (by omega) ?_
            refine Wp.aload_n rfl dX12_fewest_143 ?_
            refine Wp.iload_n rfl dX12_fewest_144 ?_
            refine Wp.callV (As := [_]) (ls0 := [_, _, _, _, _, _, _, _]) (bd := (0, 0)) (bd' := (0, 0)) dX12_fewest_145 kmX12_findLeading lkX12_286 (by decide) (by decide) (Nat.le_of_ble_eq_true rfl) (by first | rfl | exact kd_b0 _ | exact kd_b1 _ | exact kd_b2 _ | exact kd_b3 _ | exact kd_b4 _ | exact kd_b5 _ | exact kd_b6 _) (by omega) rfl rfl (Nat.le_of_ble_eq_true rfl) rfl ?_
            refine ct_X12_findLeading hn hFx (RW_cg (e0.wr k).se hW) (by omega) (fun K' hK' hL => ?_)
            rw [up_same, Lst_cg (e0.wr k).se] at hL
            have hcv := Lst_cov (a := a) (s := set) hL (by omega) (set60 hok.2.2.1 hok.2.2.2)
            show Wp _ _ _ _ _ _ _
            refine Wp.lload_n rfl dX12_fewest_148 ?_
            refine Wp.aload_n rfl dX12_fewest_149 ?_
            refine Wp.gr (kz := 43) rfl dX12_fewest_150 fkX12_95 (by first | rfl | exact kd_b0 _ | exact kd_b1 _ | exact kd_b2 _ | exact kd_b3 _ | exact kd_b4 _ | exact kd_b5 _ | exact kd_b6 _) (by omega) (by first | exact hFx _ 43 _ rfl | assumption | exact hBk.1 | exact hBk.2.1 | exact hBk.2.2.1 | exact hBk.2.2.2.1 | exact hBk.2.2.2.2.1 | exact hBk.2.2.2.2.2) ?_
            try simp (disch := omega) only [up_same, up_o, up_k]
            refine Wp.iload_n rfl dX12_fewest_153 ?_
            refine Wp.laload dX12_fewest_154 (by first | rfl | exact kd_b0 _ | exact kd_b1 _ | exact kd_b2 _ | exact kd_b3 _ | exact kd_b4 _ | exact kd_b5 _ | exact kd_b6 _) (by omega) (by omega) (by omega) ?_
            try simp (disch := omega) only [up_same, up_o, up_k]
            refine Wp.ldc2_w (b := 18446744073709551615#64) ckX12_206 rfl dX12_fewest_155 ?_
            refine Wp.lxor dX12_fewest_158 ?_
            refine Wp.land dX12_fewest_159 ?_
            refine Wp.lconst0 dX12_fewest_160 ?_
            refine Wp.lcmp dX12_fewest_161 ?_
            refine Wp.if_neC (tgt := 170) dX12_fewest_162 (by decide) (fun c162 => ?_) (fun c162 => ?_)
            · refine Wp.iload rfl dX12_fewest_170 ?_
              refine Wp.istore (ls' := [_, _, _, _, _, _, _, _, _]) dX12_fewest_172 (by decide) rfl ?_
              refine Wp.iinc (ls' := [_, _, _, _, _, _, _, _, _]) rfl dX12_fewest_174 (by decide) rfl ?_
              refine Wp.goto (tgt := 44) dX12_fewest_177 (by decide) ?_
              first | exact ih (k + 1) _ _ _ _ _ _ (by omega) (by omega) (e0.wr k) (e1.tr hK') (hstep.trans (if_pos ⟨c114, by omega, covB_iff.mpr (hcv.mp c162)⟩)).symm | exact ih (k + 1) _ _ _ _ _ _ (by omega) (by omega) (e0.wr k) (e1.tr hK') (hstep.trans (if_neg (fun q => c162 (hcv.mpr (covB_iff.mp q.2.2))))).symm | exact ih (k + 1) _ _ _ _ _ _ (by omega) (by omega) e0 e1 (hstep.trans (if_neg (fun q => c114 q.1))).symm | exact ih (k + 1) _ _ _ _ _ _ (by omega) (by omega) e0 e1 (hstep.trans (if_neg (fun q => absurd q.2.1 (by omega)))).symm
            · refine Wp.iload rfl dX12_fewest_165 ?_
              refine Wp.goto (tgt := 172) dX12_fewest_167 (by decide) ?_
              refine Wp.istore (ls' := [_, _, _, _, _, _, _, _, _]) dX12_fewest_172 (by decide) rfl ?_
              refine Wp.iinc (ls' := [_, _, _, _, _, _, _, _, _]) rfl dX12_fewest_174 (by decide) rfl ?_
              refine Wp.goto (tgt := 44) dX12_fewest_177 (by decide) ?_
              first | exact ih (k + 1) _ _ _ _ _ _ (by omega) (by omega) (e0.wr k) (e1.tr hK') (hstep.trans (if_pos ⟨c114, by omega, covB_iff.mpr (hcv.mp c162)⟩)).symm | exact ih (k + 1) _ _ _ _ _ _ (by omega) (by omega) (e0.wr k) (e1.tr hK') (hstep.trans (if_neg (fun q => c162 (hcv.mpr (covB_iff.mp q.2.2))))).symm | exact ih (k + 1) _ _ _ _ _ _ (by omega) (by omega) e0 e1 (hstep.trans (if_neg (fun q => c114 q.1))).symm | exact ih (k + 1) _ _ _ _ _ _ (by omega) (by omega) e0 e1 (hstep.trans (if_neg (fun q => absurd q.2.1 (by omega)))).symm
          · refine Wp.iload rfl dX12_fewest_122 ?_
            refine Wp.i2l (by first | omega | exact bI_R _ | exact cmp_R _ _ | assumption) dX12_fewest_124 ?_
            refine Wp.callS (As := [_]) (ls0 := [_, _, _, _]) (bd := (0, 0)) (bd' := (0, 0)) dX12_fewest_125 kmX12_bits lkX12_187 (by decide) (by decide) (Nat.le_of_ble_eq_true rfl) rfl rfl (Nat.le_of_ble_eq_true rfl) rfl ?_
            refine ct_X12_bits ?_
            show Wp _ _ _ (_ :: _) _ _ _
            refine Wp.iload rfl dX12_fewest_128 ?_
            refine Wp.i2l (by first | omega | exact bI_R _ | exact cmp_R _ _ | assumption) dX12_fewest_130 ?_
            refine Wp.callS (As := [_]) (ls0 := [_, _, _, _]) (bd := (0, 0)) (bd' := (0, 0)) dX12_fewest_131 kmX12_bits lkX12_187 (by decide) (by decide) (Nat.le_of_ble_eq_true rfl) rfl rfl (Nat.le_of_ble_eq_true rfl) rfl ?_
            refine ct_X12_bits ?_
            show Wp _ _ _ (_ :: _) _ _ _
            refine Wp.icmp_ge (tgt := 174) dX12_fewest_134 (by decide) (by first | omega | exact bI_R _ | exact cmp_R _ _ | assumption) (by first | omega | exact bI_R _ | exact cmp_R _ _ | assumption) (fun c134 => ?_) (fun c134 => ?_)
            · refine Wp.iinc (ls' := [_, _, _, _, _, _, _, _, _]) rfl dX12_fewest_174 (by decide) rfl ?_
              refine Wp.goto (tgt := 44) dX12_fewest_177 (by decide) ?_
              first | exact ih (k + 1) _ _ _ _ _ _ (by omega) (by omega) (e0.wr k) (e1.tr hK') (hstep.trans (if_pos ⟨c114, by omega, covB_iff.mpr (hcv.mp c162)⟩)).symm | exact ih (k + 1) _ _ _ _ _ _ (by omega) (by omega) (e0.wr k) (e1.tr hK') (hstep.trans (if_neg (fun q => c162 (hcv.mpr (covB_iff.mp q.2.2))))).symm | exact ih (k + 1) _ _ _ _ _ _ (by omega) (by omega) e0 e1 (hstep.trans (if_neg (fun q => c114 q.1))).symm | exact ih (k + 1) _ _ _ _ _ _ (by omega) (by omega) e0 e1 (hstep.trans (if_neg (fun q => absurd q.2.1 (by omega)))).symm
            · refine Wp.aload_n rfl dX12_fewest_137 ?_
              refine Wp.iload rfl dX12_fewest_138 ?_
              refine Wp.pi (kz := 11) rfl dX12_fewest_140 fkX12_43 (Or.inl rfl) (Or.inl rfl) (by first | rfl | exact kd_b0 _ | exact kd_b1 _ | exact kd_b2 _ | exact kd_b3 _ | exact kd_b4 _ | exact kd_b5 _ | exact kd_b6 _) (by omega) ?_
              refine Wp.aload_n rfl dX12_fewest_143 ?_
              refine Wp.iload_n rfl dX12_fewest_144 ?_
              refine Wp.callV (As := [_]) (ls0 := [_, _, _, _, _, _, _, _]) (bd := (0, 0)) (bd' := (0, 0)) dX12_fewest_145 kmX12_findLeading lkX12_286 (by decide) (by decide) (Nat.le_of_ble_eq_true rfl) (by first | rfl | exact kd_b0 _ | exact kd_b1 _ | exact kd_b2 _ | exact kd_b3 _ | exact kd_b4 _ | exact kd_b5 _ | exact kd_b6 _) (by omega) rfl rfl (Nat.le_of_ble_eq_true rfl) rfl ?_
              refine ct_X12_findLeading hn hFx (RW_cg (e0.wr k).se hW) (by omega) (fun K' hK' hL => ?_)
              rw [up_same, Lst_cg (e0.wr k).se] at hL
              have hcv := Lst_cov (a := a) (s := set) hL (by omega) (set60 hok.2.2.1 hok.2.2.2)
              show Wp _ _ _ _ _ _ _
              refine Wp.lload_n rfl dX12_fewest_148 ?_
              refine Wp.aload_n rfl dX12_fewest_149 ?_
              refine Wp.gr (kz := 43) rfl dX12_fewest_150 fkX12_95 (by first | rfl | exact kd_b0 _ | exact kd_b1 _ | exact kd_b2 _ | exact kd_b3 _ | exact kd_b4 _ | exact kd_b5 _ | exact kd_b6 _) (by omega) (by first | exact hFx _ 43 _ rfl | assumption | exact hBk.1 | exact hBk.2.1 | exact hBk.2.2.1 | exact hBk.2.2.2.1 | exact hBk.2.2.2.2.1 | exact hBk.2.2.2.2.2) ?_
              try simp (disch := omega) only [up_same, up_o, up_k]
              refine Wp.iload_n rfl dX12_fewest_153 ?_
              refine Wp.laload dX12_fewest_154 (by first | rfl | exact kd_b0 _ | exact kd_b1 _ | exact kd_b2 _ | exact kd_b3 _ | exact kd_b4 _ | exact kd_b5 _ | exact kd_b6 _) (by omega) (by omega) (by omega) ?_
              try simp (disch := omega) only [up_same, up_o, up_k]
              refine Wp.ldc2_w (b := 18446744073709551615#64) ckX12_206 rfl dX12_fewest_155 ?_
              refine Wp.lxor dX12_fewest_158 ?_
              refine Wp.land dX12_fewest_159 ?_
              refine Wp.lconst0 dX12_fewest_160 ?_
              refine Wp.lcmp dX12_fewest_161 ?_
              refine Wp.if_neC (tgt := 170) dX12_fewest_162 (by decide) (fun c162 => ?_) (fun c162 => ?_)
              · refine Wp.iload rfl dX12_fewest_170 ?_
                refine Wp.istore (ls' := [_, _, _, _, _, _, _, _, _]) dX12_fewest_172 (by decide) rfl ?_
                refine Wp.iinc (ls' := [_, _, _, _, _, _, _, _, _]) rfl dX12_fewest_174 (by decide) rfl ?_
                refine Wp.goto (tgt := 44) dX12_fewest_177 (by decide) ?_
                first | exact ih (k + 1) _ _ _ _ _ _ (by omega) (by omega) (e0.wr k) (e1.tr hK') (hstep.trans (if_pos ⟨c114, by omega, covB_iff.mpr (hcv.mp c162)⟩)).symm | exact ih (k + 1) _ _ _ _ _ _ (by omega) (by omega) (e0.wr k) (e1.tr hK') (hstep.trans (if_neg (fun q => c162 (hcv.mpr (covB_iff.mp q.2.2))))).symm | exact ih (k + 1) _ _ _ _ _ _ (by omega) (by omega) e0 e1 (hstep.trans (if_neg (fun q => c114 q.1))).symm | exact ih (k + 1) _ _ _ _ _ _ (by omega) (by omega) e0 e1 (hstep.trans (if_neg (fun q => absurd q.2.1 (by omega)))).symm
              · refine Wp.iload rfl dX12_fewest_165 ?_
                refine Wp.goto (tgt := 172) dX12_fewest_167 (by decide) ?_
                refine Wp.istore (ls' := [_, _, _, _, _, _, _, _, _]) dX12_fewest_172 (by decide) rfl ?_
                refine Wp.iinc (ls' := [_, _, _, _, _, _, _, _, _]) rfl dX12_fewest_174 (by decide) rfl ?_
                refine Wp.goto (tgt := 44) dX12_fewest_177 (by decide) ?_
                first | exact ih (k + 1) _ _ _ _ _ _ (by omega) (by omega) (e0.wr k) (e1.tr hK') (hstep.trans (if_pos ⟨c114, by omega, covB_iff.mpr (hcv.mp c162)⟩)).symm | exact ih (k + 1) _ _ _ _ _ _ (by omega) (by omega) (e0.wr k) (e1.tr hK') (hstep.trans (if_neg (fun q => c162 (hcv.mpr (covB_iff.mp q.2.2))))).symm | exact ih (k + 1) _ _ _ _ _ _ (by omega) (by omega) e0 e1 (hstep.trans (if_neg (fun q => c114 q.1))).symm | exact ih (k + 1) _ _ _ _ _ _ (by omega) (by omega) e0 e1 (hstep.trans (if_neg (fun q => absurd q.2.1 (by omega)))).symm
      refine Wp.iload rfl dX12_fewest_44 ?_
      refine Wp.iconst dX12_fewest_46 ?_
      refine Wp.aload_n rfl dX12_fewest_47 ?_
      refine Wp.gi (kz := 0) rfl dX12_fewest_48 fkX12_153 (by first | rfl | exact kd_b0 _ | exact kd_b1 _ | exact kd_b2 _ | exact kd_b3 _ | exact kd_b4 _ | exact kd_b5 _ | exact kd_b6 _) (by omega) ?_
      refine Wp.ishl dX12_fewest_51 ?_
      rw [hJ0, hsh]
      refine Wp.icmp_ge (tgt := 180) dX12_fewest_52 (by decide) (by first | omega | exact bI_R _ | exact cmp_R _ _ | assumption) (by first | omega | exact bI_R _ | exact cmp_R _ _ | assumption) (fun c52 => ?_) (fun c52 => ?_)
      · exfalso; omega
      · refine Wp.iconst dX12_fewest_55 ?_
        refine Wp.istore (ls' := [_, _, _, _, _, _, _, _, _]) dX12_fewest_56 (by decide) rfl ?_
        refine Wp.iconst dX12_fewest_58 ?_
        refine Wp.istore (ls' := [_, _, _, _, _, _, _, _, _]) dX12_fewest_59 (by decide) rfl ?_
        exact lg J K best k e0 (by omega) h112 (I 32 0).toNat 0 _ _ (by omega) (by omega) rfl
  refine Wp.iload_n rfl dX12_fewest_0 ?_
  refine Wp.callS (As := [_]) (ls0 := [_]) (bd := (0, 0)) (bd' := (0, 0)) dX12_fewest_1 kmX12_isTongue lkX12_147 (by decide) (by decide) (Nat.le_of_ble_eq_true rfl) rfl rfl (Nat.le_of_ble_eq_true rfl) rfl ?_
  refine ct_X12_isTongue (by omega) ?_
  show Wp _ _ _ (_ :: _) _ _ _
  refine Wp.if_eqB (tgt := 25) dX12_fewest_4 (by decide) (fun c4 => ?_) (fun c4 => ?_)
  · refine Wp.sipush rfl dX12_fewest_25 ?_
    refine Wp.ireturn dX12_fewest_28 rfl ?_
    first | (exfalso; omega) | (exact qI (hq _ (EqvL.rf L)) (by unfold aFewest; (repeat' split) <;> first | (exfalso; omega) | rfl))
  · refine Wp.iload_n rfl dX12_fewest_7 ?_
    refine Wp.callS (As := [_]) (ls0 := [_]) (bd := (0, 0)) (bd' := (0, 0)) dX12_fewest_8 kmX12_isTongue lkX12_147 (by decide) (by decide) (Nat.le_of_ble_eq_true rfl) rfl rfl (Nat.le_of_ble_eq_true rfl) rfl ?_
    refine ct_X12_isTongue (by omega) ?_
    show Wp _ _ _ (_ :: _) _ _ _
    refine Wp.if_eqB (tgt := 25) dX12_fewest_11 (by decide) (fun c11 => ?_) (fun c11 => ?_)
    · refine Wp.sipush rfl dX12_fewest_25 ?_
      refine Wp.ireturn dX12_fewest_28 rfl ?_
      first | (exfalso; omega) | (exact qI (hq _ (EqvL.rf L)) (by unfold aFewest; (repeat' split) <;> first | (exfalso; omega) | rfl))
    · refine Wp.lload_n rfl dX12_fewest_14 ?_
      refine Wp.lconst0 dX12_fewest_15 ?_
      refine Wp.ldc2_w (b := 1152921504606846975#64) ckX12_284 rfl dX12_fewest_16 ?_
      refine Wp.callS (As := [_, _, _]) (ls0 := [_, _, _, _, _, _]) (bd := (0, 0)) (bd' := (0, 0)) dX12_fewest_19 kmX12_in lkX12_100 (by decide) (by decide) (Nat.le_of_ble_eq_true rfl) rfl rfl (Nat.le_of_ble_eq_true rfl) rfl ?_
      refine ct_X12_in (a := 0) (b := 1152921504606846975) rfl rfl rfl ?_
      show Wp _ _ _ (_ :: _) _ _ _
      refine Wp.if_neB (tgt := 29) dX12_fewest_22 (by decide) (fun c22 => ?_) (fun c22 => ?_)
      · refine Wp.iload_n rfl dX12_fewest_29 ?_
        refine Wp.iload_n rfl dX12_fewest_30 ?_
        refine Wp.icmp_ne (tgt := 38) dX12_fewest_31 (by decide) (by first | omega | exact bI_R _ | exact cmp_R _ _ | assumption) (by first | omega | exact bI_R _ | exact cmp_R _ _ | assumption) (fun c31 => ?_) (fun c31 => ?_)
        · refine Wp.iconst dX12_fewest_38 ?_
          refine Wp.istore (ls' := [_, _, _, _, _, _, _, _, _]) dX12_fewest_39 (by decide) rfl ?_
          refine Wp.iconst dX12_fewest_41 ?_
          refine Wp.istore (ls' := [_, _, _, _, _, _, _, _, _]) dX12_fewest_42 (by decide) rfl ?_
          exact lo ⟨by omega, by omega, by omega, by omega⟩ (by omega) P 0 _ _ _ _ _ _ (by omega) (by omega) (fun _ _ _ => rfl) (EqvL.rf L) rfl
        · refine Wp.sipush rfl dX12_fewest_34 ?_
          refine Wp.ireturn dX12_fewest_37 rfl ?_
          first | (exfalso; omega) | (exact qI (hq _ (EqvL.rf L)) (by unfold aFewest; (repeat' split) <;> first | (exfalso; omega) | rfl))
      · refine Wp.sipush rfl dX12_fewest_25 ?_
        refine Wp.ireturn dX12_fewest_28 rfl ?_
        first | (exfalso; omega) | (exact qI (hq _ (EqvL.rf L)) (by unfold aFewest; (repeat' split) <;> first | (exfalso; omega) | rfl))
end

