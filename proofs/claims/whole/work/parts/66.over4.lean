/-! ===== the class: choosing, and all of it ===== -/
section
variable {I J K : Nat → Int → Int} {L : Nat → Int → BitVec 64} {R : Nat → Int → Option Nat} {n k : Nat} {m : Mm} {Q : Option AV → Mm → Prop} {b : Int} {S : Nat}
theorem ct_X3_choose {i : Nat} (hn : 57 ≤ n) (hFx : Fx R) (hW : RW I) (hU : PuR I) (hb : inR b) (hO : OvS I J b S) (hSI : (S : Int) = I 32 35) (hi : i < S) (hlt : ltP I J b S 0) (hcho : ∀ j : Nat, j < i → choP I J b S j) (hq : ∀ K, OvS I K b S → ltP I K b S 0 → (∀ j : Nat, j < i + 1 → choP I K b S j) → Q none (K, L, R, n)) : Wp mX3_choose 0 [some (vr (some 19)), some (vi (i : Int)), some (vr (some 12)), none, none, none, none] [] (J, L, R, n) (0, 0) Q := by
  have h10 := hU.2.2.2.2.2.2.1
  have hwB := fun d (hd : d ≤ 10) p => wv_B2 hU.2.2.2.2.2.1 b (chL I 255 b) (S := S) (d := d) hd p
  have hG := hwB (S - i) (by omega) (czp I b (chL I 255 b) S i)
  have hCF := C_F hW hU (b := b) (i := i) (by omega)
  have hce := cz_eq I b (chL I 255 b) S i
  rw [hCF] at hce
  -- one is found
  have hfd : ∀ (J : Nat → Int → Int) (c : Nat) (zb : Int) (x6 : Option AV), OvS I J b S → ltP I J b S 0 → (∀ j : Nat, j < i → choP I J b S j) → c < 18 → vlP I (eW I b i) c → cz I b (chL I 255 b) S i = some (18 * eW I b i + c) → J 24 i = c → Wp mX3_choose 100 [some (vr (some 19)), some (vi (i : Int)), some (vr (some 12)), some (vi zb), some (vi (wv I b (sfD (chL I 255 b) S (S - i)) (czp I b (chL I 255 b) S i))), some (vi ((c : Int) + 1)), x6] [] (J, L, R, n) (0, 0) Q := by
    intro J c zb x6 hO hlt hcho hc hv hz h24
    have hfin : Q none (J, L, R, n) := hq J hO hlt (fun j hj => by
      by_cases hji : j = i
      · subst hji; exact Or.inr ⟨c, hc, hv, hz, h24⟩
      · exact hcho j (by omega))
    refine Wp.iload rfl dX3_choose_100 ?_
    refine Wp.bipush rfl dX3_choose_102 ?_
    refine Wp.icmp_ge (tgt := 169) dX3_choose_104 (by decide) (by first | omega | exact bI_R _ | exact cmp_R _ _ | assumption) (by first | omega | exact bI_R _ | exact cmp_R _ _ | assumption) (fun c104 => ?_) (fun c104 => ?_)
    · refine Wp.vreturn dX3_choose_169 rfl ?_
      first | (exfalso; omega) | (exact hfin)
    · refine Wp.aload_n rfl dX3_choose_107 ?_
      refine Wp.gr (kz := 4) rfl dX3_choose_108 fkX3_24 (by first | rfl | exact kd_b0 _ | exact kd_b1 _ | exact kd_b2 _ | exact kd_b3 _ | exact kd_b4 _ | exact kd_b5 _ | exact kd_b6 _) (by omega) (by first | exact hFx _ 4 _ rfl | assumption | exact hBk.1 | exact hBk.2.1 | exact hBk.2.2.1 | exact hBk.2.2.2.1 | exact hBk.2.2.2.2.1 | exact hBk.2.2.2.2.2) ?_
      refine Wp.iload_n rfl dX3_choose_111 ?_
      refine Wp.iaload dX3_choose_112 (by first | rfl | exact kd_b0 _ | exact kd_b1 _ | exact kd_b2 _ | exact kd_b3 _ | exact kd_b4 _ | exact kd_b5 _ | exact kd_b6 _) (by omega) (by omega) (by omega) ?_
      refine Wp.iconst dX3_choose_113 ?_
      refine Wp.icmp_ne (tgt := 169) dX3_choose_114 (by decide) (by first | omega | exact bI_R _ | exact cmp_R _ _ | assumption) (by first | omega | exact bI_R _ | exact cmp_R _ _ | assumption) (fun c114 => ?_) (fun c114 => ?_)
      · refine Wp.vreturn dX3_choose_169 rfl ?_
        first | (exfalso; omega) | (exact hfin)
      · exfalso; omega
  have lp : ∀ (zb : Int) (hzb : -1 ≤ zb ∧ zb < 180) , ∀ (tt k : Nat) (z : Int) (J : Nat → Int → Int) (x6 : Option AV), k + tt = 18 → z = k → OvS I J b S → ltP I J b S 0 → (∀ j : Nat, j < i → choP I J b S j) → pbP I J b S i zb → J 24 i = -1 → ((csF I (eW I b i) k).find? (fun q => decide (tieO I b (czp I b (chL I 255 b) S i) q + wv I b (sfD (chL I 255 b) S (S - (i + 1))) (some q) = wv I b (sfD (chL I 255 b) S (S - i)) (czp I b (chL I 255 b) S i))) = none) → Wp mX3_choose 100 [some (vr (some 19)), some (vi (i : Int)), some (vr (some 12)), some (vi zb), some (vi (wv I b (sfD (chL I 255 b) S (S - i)) (czp I b (chL I 255 b) S i))), some (vi z), x6] [] (J, L, R, n) (0, 0) Q := by
    intro zb hzb
    intro tt
    induction tt with
    | zero =>
      intro k z J x6 hkt hz e0 e1 e2 e3 e4 e5
      obtain rfl : k = 18 := by omega
      refine Wp.iload rfl dX3_choose_100 ?_
      refine Wp.bipush rfl dX3_choose_102 ?_
      refine Wp.icmp_ge (tgt := 169) dX3_choose_104 (by decide) (by first | omega | exact bI_R _ | exact cmp_R _ _ | assumption) (by first | omega | exact bI_R _ | exact cmp_R _ _ | assumption) (fun c104 => ?_) (fun c104 => ?_)
      · refine Wp.vreturn dX3_choose_169 rfl ?_
        refine hq J e0 e1 (fun j hj => ?_)
        by_cases hji : j = i
        · subst hji; exact Or.inl ⟨hce.trans e5, e4⟩
        · exact e2 j (by omega)
      · exfalso; omega
    | succ tt ih =>
      intro k z J x6 hkt hz e0 e1 e2 e3 e4 e5
      subst hz
      have h18 : k < 18 := by omega
      have hsz := e0.2.1
      have hww := hwB (S - (i + 1)) (by omega) (some (18 * eW I b i + k))
      have htO := tieO_B hU.2.2.2.2.2.1 b (czp I b (chL I 255 b) S i) (18 * eW I b i + k)
      have hslot : (if ((0 : Int) ≤ (i : Int) ∧ (i : Int) < J 19 6) ∧ (0 : Int) ≤ k ∧ (k : Int) < 18 then (i : Int) * 18 + k else -1) = 18 * (i : Int) + k := by
        rw [if_pos ⟨⟨by omega, by omega⟩, by omega, by omega⟩]; omega
      refine Wp.iload rfl dX3_choose_100 ?_
      refine Wp.bipush rfl dX3_choose_102 ?_
      refine Wp.icmp_ge (tgt := 169) dX3_choose_104 (by decide) (by first | omega | exact bI_R _ | exact cmp_R _ _ | assumption) (by first | omega | exact bI_R _ | exact cmp_R _ _ | assumption) (fun c104 => ?_) (fun c104 => ?_)
      · exfalso; omega
      · refine Wp.aload_n rfl dX3_choose_107 ?_
        refine Wp.gr (kz := 4) rfl dX3_choose_108 fkX3_24 (by first | rfl | exact kd_b0 _ | exact kd_b1 _ | exact kd_b2 _ | exact kd_b3 _ | exact kd_b4 _ | exact kd_b5 _ | exact kd_b6 _) (by omega) (by first | exact hFx _ 4 _ rfl | assumption | exact hBk.1 | exact hBk.2.1 | exact hBk.2.2.1 | exact hBk.2.2.2.1 | exact hBk.2.2.2.2.1 | exact hBk.2.2.2.2.2) ?_
        refine Wp.iload_n rfl dX3_choose_111 ?_
        refine Wp.iaload dX3_choose_112 (by first | rfl | exact kd_b0 _ | exact kd_b1 _ | exact kd_b2 _ | exact kd_b3 _ | exact kd_b4 _ | exact kd_b5 _ | exact kd_b6 _) (by omega) (by omega) (by omega) ?_
        refine Wp.iconst dX3_choose_113 ?_
        refine Wp.icmp_ne (tgt := 169) dX3_choose_114 (by decide) (by first | omega | exact bI_R _ | exact cmp_R _ _ | assumption) (by first | omega | exact bI_R _ | exact cmp_R _ _ | assumption) (fun c114 => ?_) (fun c114 => ?_)
        · exfalso; omega
        · refine Wp.aload_n rfl dX3_choose_117 ?_
          refine Wp.iload_n rfl dX3_choose_118 ?_
          refine Wp.iload rfl dX3_choose_119 ?_
          refine Wp.callV (As := [_, _]) (ls0 := [_, _, _]) (bd := (0, 0)) (bd' := (0, 0)) dX3_choose_121 kmX3_slot lkX3_76 (by decide) (by decide) (Nat.le_of_ble_eq_true rfl) (by first | rfl | exact kd_b0 _ | exact kd_b1 _ | exact kd_b2 _ | exact kd_b3 _ | exact kd_b4 _ | exact kd_b5 _ | exact kd_b6 _) (by omega) rfl rfl (Nat.le_of_ble_eq_true rfl) rfl ?_
          refine ct_X3_slot hn (by omega) (by omega) (by omega) (by omega) ?_
          rw [hslot]
          show Wp _ _ _ (_ :: _) _ _ _
          refine Wp.istore (ls' := [_, _, _, _, _, _, _]) dX3_choose_124 (by decide) rfl ?_
          refine Wp.aload_n rfl dX3_choose_126 ?_
          refine Wp.iload rfl dX3_choose_127 ?_
          refine Wp.callV (As := [_]) (ls0 := [_, _]) (bd := (0, 0)) (bd' := (0, 0)) dX3_choose_129 kmX3_wordIn lkX3_94 (by decide) (by decide) (Nat.le_of_ble_eq_true rfl) (by first | rfl | exact kd_b0 _ | exact kd_b1 _ | exact kd_b2 _ | exact kd_b3 _ | exact kd_b4 _ | exact kd_b5 _ | exact kd_b6 _) (by omega) rfl rfl (Nat.le_of_ble_eq_true rfl) rfl ?_
          refine wI hn hFx hW hU e0 hSI hi h18 rfl (fun v hv1 hv2 hvB hv3 => ?_)
          show Wp _ _ _ (_ :: _) _ _ _
          refine Wp.iconst dX3_choose_132 ?_
          refine Wp.icmp_eq (tgt := 163) dX3_choose_133 (by decide) (by first | omega | exact bI_R _ | exact cmp_R _ _ | assumption) (by first | omega | exact bI_R _ | exact cmp_R _ _ | assumption) (fun c133 => ?_) (fun c133 => ?_)
          · refine Wp.iinc (ls' := [_, _, _, _, _, _, _]) rfl dX3_choose_163 (by decide) rfl ?_
            refine Wp.goto (tgt := 100) dX3_choose_166 (by decide) ?_
            first
            | exact ih (k + 1) _ J _ (by omega) (by omega) e0 e1 e2 e3 e4 (cs_skip e5 (fun q => absurd q.1 (hv1.mp c133)))
            | exact ih (k + 1) _ J _ (by omega) (by omega) e0 e1 e2 e3 e4 (cs_skip e5 (fun q => c152 (of_decide_eq_true q.2)))
            | exact hfd _ k zb _ (OvS_cg (up_out (by omega)) e0) (lt_cg (fun z _ => up_o _ _ _ _ (by decide)) (fun z _ => up_o _ _ _ _ (by decide)) e1) (fun j hj => cho_cg (up_k _ _ _ _ (by omega)) (e2 j hj)) h18 hvk (hce.trans (cs_find h18 e5 hvk (decide_eq_true c152))) (up_same _ _ _ _)
          · have hvk : vlP I (eW I b i) k := Classical.byContradiction (fun q => c133 (hv1.mpr q))
            have hsm := (e1 i (by omega) hi).1 k h18 hvk
            refine Wp.aload_n rfl dX3_choose_136 ?_
            refine Wp.iload_n rfl dX3_choose_137 ?_
            refine Wp.iload rfl dX3_choose_138 ?_
            refine Wp.callV (As := [_, _]) (ls0 := [_, _, _, _, _]) (bd := (0, 0)) (bd' := (0, 0)) dX3_choose_140 kmX3_tie lkX3_111 (by decide) (by decide) (Nat.le_of_ble_eq_true rfl) (by first | rfl | exact kd_b0 _ | exact kd_b1 _ | exact kd_b2 _ | exact kd_b3 _ | exact kd_b4 _ | exact kd_b5 _ | exact kd_b6 _) (by omega) rfl rfl (Nat.le_of_ble_eq_true rfl) rfl ?_
            refine ct_tieO hn hFx hW hU e0 hSI hi h18 hvk e3 ?_
            show Wp _ _ _ (_ :: _) _ _ _
            refine Wp.aload_n rfl dX3_choose_143 ?_
            refine Wp.iload rfl dX3_choose_144 ?_
            refine Wp.callV (As := [_]) (ls0 := [_, _]) (bd := (0, 0)) (bd' := (0, 0)) dX3_choose_146 kmX3_sumIn lkX3_114 (by decide) (by decide) (Nat.le_of_ble_eq_true rfl) (by first | rfl | exact kd_b0 _ | exact kd_b1 _ | exact kd_b2 _ | exact kd_b3 _ | exact kd_b4 _ | exact kd_b5 _ | exact kd_b6 _) (by omega) rfl rfl (Nat.le_of_ble_eq_true rfl) rfl ?_
            refine ct_X3_sumIn hn hFx (by omega) ?_
            rw [if_pos (by omega), hsm]
            show Wp _ _ _ (_ :: _) _ _ _
            refine Wp.iadd dX3_choose_149 ?_
            refine Wp.iload rfl dX3_choose_150 ?_
            refine Wp.icmp_ne (tgt := 163) dX3_choose_152 (by decide) (by first | omega | exact bI_R _ | exact cmp_R _ _ | assumption) (by first | omega | exact bI_R _ | exact cmp_R _ _ | assumption) (fun c152 => ?_) (fun c152 => ?_)
            · refine Wp.iinc (ls' := [_, _, _, _, _, _, _]) rfl dX3_choose_163 (by decide) rfl ?_
              refine Wp.goto (tgt := 100) dX3_choose_166 (by decide) ?_
              first
              | exact ih (k + 1) _ J _ (by omega) (by omega) e0 e1 e2 e3 e4 (cs_skip e5 (fun q => absurd q.1 (hv1.mp c133)))
              | exact ih (k + 1) _ J _ (by omega) (by omega) e0 e1 e2 e3 e4 (cs_skip e5 (fun q => c152 (of_decide_eq_true q.2)))
              | exact hfd _ k zb _ (OvS_cg (up_out (by omega)) e0) (lt_cg (fun z _ => up_o _ _ _ _ (by decide)) (fun z _ => up_o _ _ _ _ (by decide)) e1) (fun j hj => cho_cg (up_k _ _ _ _ (by omega)) (e2 j hj)) h18 hvk (hce.trans (cs_find h18 e5 hvk (decide_eq_true c152))) (up_same _ _ _ _)
            · refine Wp.aload_n rfl dX3_choose_155 ?_
              refine Wp.gr (kz := 4) rfl dX3_choose_156 fkX3_24 (by first | rfl | exact kd_b0 _ | exact kd_b1 _ | exact kd_b2 _ | exact kd_b3 _ | exact kd_b4 _ | exact kd_b5 _ | exact kd_b6 _) (by omega) (by first | exact hFx _ 4 _ rfl | assumption | exact hBk.1 | exact hBk.2.1 | exact hBk.2.2.1 | exact hBk.2.2.2.1 | exact hBk.2.2.2.2.1 | exact hBk.2.2.2.2.2) ?_
              refine Wp.iload_n rfl dX3_choose_159 ?_
              refine Wp.iload rfl dX3_choose_160 ?_
              refine Wp.iastore dX3_choose_162 (by first | rfl | exact kd_b0 _ | exact kd_b1 _ | exact kd_b2 _ | exact kd_b3 _ | exact kd_b4 _ | exact kd_b5 _ | exact kd_b6 _) (by omega) (by omega) (by omega) ?_
              refine Wp.iinc (ls' := [_, _, _, _, _, _, _]) rfl dX3_choose_163 (by decide) rfl ?_
              refine Wp.goto (tgt := 100) dX3_choose_166 (by decide) ?_
              first
              | exact ih (k + 1) _ J _ (by omega) (by omega) e0 e1 e2 e3 e4 (cs_skip e5 (fun q => absurd q.1 (hv1.mp c133)))
              | exact ih (k + 1) _ J _ (by omega) (by omega) e0 e1 e2 e3 e4 (cs_skip e5 (fun q => c152 (of_decide_eq_true q.2)))
              | exact hfd _ k zb _ (OvS_cg (up_out (by omega)) e0) (lt_cg (fun z _ => up_o _ _ _ _ (by decide)) (fun z _ => up_o _ _ _ _ (by decide)) e1) (fun j hj => cho_cg (up_k _ _ _ _ (by omega)) (e2 j hj)) h18 hvk (hce.trans (cs_find h18 e5 hvk (decide_eq_true c152))) (up_same _ _ _ _)
  -- from the goal on
  have h90 : ∀ (J : Nat → Int → Int) (zb : Int), -1 ≤ zb ∧ zb < 180 → OvS I J b S → ltP I J b S 0 → (∀ j : Nat, j < i → choP I J b S j) → pbP I J b S i zb → Wp mX3_choose 90 [some (vr (some 19)), some (vi (i : Int)), some (vr (some 12)), some (vi zb), some (vi (wv I b (sfD (chL I 255 b) S (S - i)) (czp I b (chL I 255 b) S i))), none, none] [] (J, L, R, n) (0, 0) Q := by
    intro J zb hzb hO hlt hcho hpb
    refine Wp.aload_n rfl dX3_choose_90 ?_
    refine Wp.gr (kz := 4) rfl dX3_choose_91 fkX3_24 (by first | rfl | exact kd_b0 _ | exact kd_b1 _ | exact kd_b2 _ | exact kd_b3 _ | exact kd_b4 _ | exact kd_b5 _ | exact kd_b6 _) (by omega) (by first | exact hFx _ 4 _ rfl | assumption | exact hBk.1 | exact hBk.2.1 | exact hBk.2.2.1 | exact hBk.2.2.2.1 | exact hBk.2.2.2.2.1 | exact hBk.2.2.2.2.2) ?_
    refine Wp.iload_n rfl dX3_choose_94 ?_
    refine Wp.iconst dX3_choose_95 ?_
    refine Wp.iastore dX3_choose_96 (by first | rfl | exact kd_b0 _ | exact kd_b1 _ | exact kd_b2 _ | exact kd_b3 _ | exact kd_b4 _ | exact kd_b5 _ | exact kd_b6 _) (by omega) (by omega) (by omega) ?_
    refine Wp.iconst dX3_choose_97 ?_
    refine Wp.istore (ls' := [_, _, _, _, _, _, _]) dX3_choose_98 (by decide) rfl ?_
    refine lp zb hzb 18 0 _ _ _ (by omega) (by omega) (OvS_cg (up_out (by omega)) hO) (lt_cg (fun z _ => up_o _ _ _ _ (by decide)) (fun z _ => up_o _ _ _ _ (by decide)) hlt) (fun j hj => cho_cg (up_k _ _ _ _ (by omega)) (hcho j hj)) ?_ (up_same _ _ _ _) rfl
    rcases hpb with h | ⟨i1, c, h1, h2, h3, h4, h5, h6⟩
    · exact Or.inl h
    · exact Or.inr ⟨i1, c, h1, h2, h3, h4, h5, fun y hy => by rw [up_o _ _ _ _ (by decide)]; exact h6 y hy⟩
  have h47n : ∀ (J : Nat → Int → Int), OvS I J b S → ltP I J b S 0 → (∀ j : Nat, j < i → choP I J b S j) → czp I b (chL I 255 b) S i = none → Wp mX3_choose 47 [some (vr (some 19)), some (vi (i : Int)), some (vr (some 12)), some (vi (-1)), none, none, none] [] (J, L, R, n) (0, 0) Q := by
    intro J hO hlt hcho hp
    have hms := (hlt i (by omega) hi).2
    unfold msP at hms
    refine Wp.iload_n rfl dX3_choose_47 ?_
    refine Wp.iconst dX3_choose_48 ?_
    refine Wp.icmp_eq (tgt := 69) dX3_choose_49 (by decide) (by first | omega | exact bI_R _ | exact cmp_R _ _ | assumption) (by first | omega | exact bI_R _ | exact cmp_R _ _ | assumption) (fun c49 => ?_) (fun c49 => ?_)
    · refine Wp.iload_n rfl dX3_choose_69 ?_
      refine Wp.iconst dX3_choose_70 ?_
      refine Wp.icmp_ne (tgt := 83) dX3_choose_71 (by decide) (by first | omega | exact bI_R _ | exact cmp_R _ _ | assumption) (by first | omega | exact bI_R _ | exact cmp_R _ _ | assumption) (fun c71 => ?_) (fun c71 => ?_)
      · exfalso; omega
      · refine Wp.aload_n rfl dX3_choose_74 ?_
        refine Wp.gr (kz := 3) rfl dX3_choose_75 fkX3_21 (by first | rfl | exact kd_b0 _ | exact kd_b1 _ | exact kd_b2 _ | exact kd_b3 _ | exact kd_b4 _ | exact kd_b5 _ | exact kd_b6 _) (by omega) (by first | exact hFx _ 3 _ rfl | assumption | exact hBk.1 | exact hBk.2.1 | exact hBk.2.2.1 | exact hBk.2.2.2.1 | exact hBk.2.2.2.2.1 | exact hBk.2.2.2.2.2) ?_
        refine Wp.iload_n rfl dX3_choose_78 ?_
        refine Wp.iaload dX3_choose_79 (by first | rfl | exact kd_b0 _ | exact kd_b1 _ | exact kd_b2 _ | exact kd_b3 _ | exact kd_b4 _ | exact kd_b5 _ | exact kd_b6 _) (by omega) (by omega) (by omega) ?_
        refine Wp.goto (tgt := 88) dX3_choose_80 (by decide) ?_
        rw [hms, show wv I b (sfD (chL I 255 b) S (S - i)) none = wv I b (sfD (chL I 255 b) S (S - i)) (czp I b (chL I 255 b) S i) by rw [hp]]
        refine Wp.istore (ls' := [_, _, _, _, _, _, _]) dX3_choose_88 (by decide) rfl ?_
        exact h90 J (-1) (by omega) hO hlt hcho (Or.inl ⟨rfl, hp⟩)
    · exfalso; omega
  have hsz := hO.2.1
  by_cases hi0 : i = 0
  · subst hi0
    refine Wp.iload_n rfl dX3_choose_0 ?_
    refine Wp.if_lt (tgt := 10) dX3_choose_1 (by decide) (by first | omega | exact bI_R _ | exact cmp_R _ _ | assumption) (fun c1 => ?_) (fun c1 => ?_)
    · refine Wp.vreturn dX3_choose_10 rfl ?_
      first | (exfalso; omega) | (exfalso; omega)
    · refine Wp.iload_n rfl dX3_choose_4 ?_
      refine Wp.bipush rfl dX3_choose_5 ?_
      refine Wp.icmp_lt (tgt := 11) dX3_choose_7 (by decide) (by first | omega | exact bI_R _ | exact cmp_R _ _ | assumption) (by first | omega | exact bI_R _ | exact cmp_R _ _ | assumption) (fun c7 => ?_) (fun c7 => ?_)
      · refine Wp.iload_n rfl dX3_choose_11 ?_
        refine Wp.if_eq (tgt := 27) dX3_choose_12 (by decide) (by first | omega | exact bI_R _ | exact cmp_R _ _ | assumption) (fun c12 => ?_) (fun c12 => ?_)
        · refine Wp.iconst dX3_choose_27 ?_
          refine Wp.goto (tgt := 46) dX3_choose_28 (by decide) ?_
          refine Wp.istore_n (ls' := [_, _, _, _, _, _, _]) dX3_choose_46 (by decide) rfl ?_
          exact h47n J hO hlt hcho rfl
        · exfalso; omega
      · refine Wp.vreturn dX3_choose_10 rfl ?_
        first | (exfalso; omega) | (exfalso; omega)
  · obtain ⟨i1, rfl⟩ : ∃ i1, i = i1 + 1 := ⟨i - 1, by omega⟩
    have hch := hcho i1 (by omega)
    have hcz : czp I b (chL I 255 b) S (i1 + 1) = cz I b (chL I 255 b) S i1 := rfl
    have e1 : (((i1 + 1 : Nat) : Int)) - 1 = i1 := by omega
    rcases hch with ⟨hc1, hc2⟩ | ⟨c, hc, hv, hc1, hc2⟩
    · skip
      refine Wp.iload_n rfl dX3_choose_0 ?_
      refine Wp.if_lt (tgt := 10) dX3_choose_1 (by decide) (by first | omega | exact bI_R _ | exact cmp_R _ _ | assumption) (fun c1 => ?_) (fun c1 => ?_)
      · refine Wp.vreturn dX3_choose_10 rfl ?_
        first | (exfalso; omega) | (exfalso; omega)
      · refine Wp.iload_n rfl dX3_choose_4 ?_
        refine Wp.bipush rfl dX3_choose_5 ?_
        refine Wp.icmp_lt (tgt := 11) dX3_choose_7 (by decide) (by first | omega | exact bI_R _ | exact cmp_R _ _ | assumption) (by first | omega | exact bI_R _ | exact cmp_R _ _ | assumption) (fun c7 => ?_) (fun c7 => ?_)
        · refine Wp.iload_n rfl dX3_choose_11 ?_
          refine Wp.if_eq (tgt := 27) dX3_choose_12 (by decide) (by first | omega | exact bI_R _ | exact cmp_R _ _ | assumption) (fun c12 => ?_) (fun c12 => ?_)
          · first | (exfalso; omega) | exact Wp.iconst dX3_choose_27 (Wp.goto (tgt := 46) dX3_choose_28 (by decide) (Wp.istore_n (ls' := [_, _, _, _, _, _, _]) dX3_choose_46 (by decide) rfl (h47n J hO hlt hcho (hcz.trans hc1))))
          · refine Wp.aload_n rfl dX3_choose_15 ?_
            refine Wp.gr (kz := 4) rfl dX3_choose_16 fkX3_24 (by first | rfl | exact kd_b0 _ | exact kd_b1 _ | exact kd_b2 _ | exact kd_b3 _ | exact kd_b4 _ | exact kd_b5 _ | exact kd_b6 _) (by omega) (by first | exact hFx _ 4 _ rfl | assumption | exact hBk.1 | exact hBk.2.1 | exact hBk.2.2.1 | exact hBk.2.2.2.1 | exact hBk.2.2.2.2.1 | exact hBk.2.2.2.2.2) ?_
            refine Wp.iload_n rfl dX3_choose_19 ?_
            refine Wp.iconst dX3_choose_20 ?_
            refine Wp.isub dX3_choose_21 ?_
            refine Wp.iaload dX3_choose_22 (by first | rfl | exact kd_b0 _ | exact kd_b1 _ | exact kd_b2 _ | exact kd_b3 _ | exact kd_b4 _ | exact kd_b5 _ | exact kd_b6 _) (by omega) (by omega) (by omega) ?_
            rw [e1, hc2]
            refine Wp.iconst dX3_choose_23 ?_
            refine Wp.icmp_ne (tgt := 31) dX3_choose_24 (by decide) (by first | omega | exact bI_R _ | exact cmp_R _ _ | assumption) (by first | omega | exact bI_R _ | exact cmp_R _ _ | assumption) (fun c24 => ?_) (fun c24 => ?_)
            · exfalso; omega
            · first | (exfalso; omega) | exact Wp.iconst dX3_choose_27 (Wp.goto (tgt := 46) dX3_choose_28 (by decide) (Wp.istore_n (ls' := [_, _, _, _, _, _, _]) dX3_choose_46 (by decide) rfl (h47n J hO hlt hcho (hcz.trans hc1))))
        · refine Wp.vreturn dX3_choose_10 rfl ?_
          first | (exfalso; omega) | (exfalso; omega)
    · have hsm : J 22 (18 * i1 + c) = wv I b (sfD (chL I 255 b) S (S - (i1 + 1))) (some (18 * eW I b i1 + c)) := (hlt i1 (by omega) (by omega)).1 c hc hv
      have hb1 := vl_B (eW_ok hW hU (by omega)) hv
      have hz1 := (hO.2.2.2 i1 c (by omega) hc).1 hv
      have h7 := hO.2.2.1
      refine Wp.iload_n rfl dX3_choose_0 ?_
      refine Wp.if_lt (tgt := 10) dX3_choose_1 (by decide) (by first | omega | exact bI_R _ | exact cmp_R _ _ | assumption) (fun c1 => ?_) (fun c1 => ?_)
      · refine Wp.vreturn dX3_choose_10 rfl ?_
        first | (exfalso; omega) | (exfalso; omega)
      · refine Wp.iload_n rfl dX3_choose_4 ?_
        refine Wp.bipush rfl dX3_choose_5 ?_
        refine Wp.icmp_lt (tgt := 11) dX3_choose_7 (by decide) (by first | omega | exact bI_R _ | exact cmp_R _ _ | assumption) (by first | omega | exact bI_R _ | exact cmp_R _ _ | assumption) (fun c7 => ?_) (fun c7 => ?_)
        · refine Wp.iload_n rfl dX3_choose_11 ?_
          refine Wp.if_eq (tgt := 27) dX3_choose_12 (by decide) (by first | omega | exact bI_R _ | exact cmp_R _ _ | assumption) (fun c12 => ?_) (fun c12 => ?_)
          · exfalso; omega
          · refine Wp.aload_n rfl dX3_choose_15 ?_
            refine Wp.gr (kz := 4) rfl dX3_choose_16 fkX3_24 (by first | rfl | exact kd_b0 _ | exact kd_b1 _ | exact kd_b2 _ | exact kd_b3 _ | exact kd_b4 _ | exact kd_b5 _ | exact kd_b6 _) (by omega) (by first | exact hFx _ 4 _ rfl | assumption | exact hBk.1 | exact hBk.2.1 | exact hBk.2.2.1 | exact hBk.2.2.2.1 | exact hBk.2.2.2.2.1 | exact hBk.2.2.2.2.2) ?_
            refine Wp.iload_n rfl dX3_choose_19 ?_
            refine Wp.iconst dX3_choose_20 ?_
            refine Wp.isub dX3_choose_21 ?_
            refine Wp.iaload dX3_choose_22 (by first | rfl | exact kd_b0 _ | exact kd_b1 _ | exact kd_b2 _ | exact kd_b3 _ | exact kd_b4 _ | exact kd_b5 _ | exact kd_b6 _) (by omega) (by omega) (by omega) ?_
            rw [e1, hc2]
            refine Wp.iconst dX3_choose_23 ?_
            refine Wp.icmp_ne (tgt := 31) dX3_choose_24 (by decide) (by first | omega | exact bI_R _ | exact cmp_R _ _ | assumption) (by first | omega | exact bI_R _ | exact cmp_R _ _ | assumption) (fun c24 => ?_) (fun c24 => ?_)
            · refine Wp.aload_n rfl dX3_choose_31 ?_
              refine Wp.iload_n rfl dX3_choose_32 ?_
              refine Wp.iconst dX3_choose_33 ?_
              refine Wp.isub dX3_choose_34 ?_
              refine Wp.aload_n rfl dX3_choose_35 ?_
              refine Wp.gr (kz := 4) rfl dX3_choose_36 fkX3_24 (by first | rfl | exact kd_b0 _ | exact kd_b1 _ | exact kd_b2 _ | exact kd_b3 _ | exact kd_b4 _ | exact kd_b5 _ | exact kd_b6 _) (by omega) (by first | exact hFx _ 4 _ rfl | assumption | exact hBk.1 | exact hBk.2.1 | exact hBk.2.2.1 | exact hBk.2.2.2.1 | exact hBk.2.2.2.2.1 | exact hBk.2.2.2.2.2) ?_
              refine Wp.iload_n rfl dX3_choose_39 ?_
              refine Wp.iconst dX3_choose_40 ?_
              refine Wp.isub dX3_choose_41 ?_
              refine Wp.iaload dX3_choose_42 (by first | rfl | exact kd_b0 _ | exact kd_b1 _ | exact kd_b2 _ | exact kd_b3 _ | exact kd_b4 _ | exact kd_b5 _ | exact kd_b6 _) (by omega) (by omega) (by omega) ?_
              rw [e1, hc2]
              refine Wp.callV (As := [_, _]) (ls0 := [_, _, _]) (bd := (0, 0)) (bd' := (0, 0)) dX3_choose_43 kmX3_slot lkX3_76 (by decide) (by decide) (Nat.le_of_ble_eq_true rfl) (by first | rfl | exact kd_b0 _ | exact kd_b1 _ | exact kd_b2 _ | exact kd_b3 _ | exact kd_b4 _ | exact kd_b5 _ | exact kd_b6 _) (by omega) rfl rfl (Nat.le_of_ble_eq_true rfl) rfl ?_
              refine ct_X3_slot hn (by omega) (by omega) (by omega) (by omega) ?_
              rw [if_pos ⟨⟨by omega, by omega⟩, by omega, by omega⟩, show (i1 : Int) * 18 + c = 18 * i1 + c by omega]
              show Wp _ _ _ (_ :: _) _ _ _
              refine Wp.istore_n (ls' := [_, _, _, _, _, _, _]) dX3_choose_46 (by decide) rfl ?_
              refine Wp.iload_n rfl dX3_choose_47 ?_
              refine Wp.iconst dX3_choose_48 ?_
              refine Wp.icmp_eq (tgt := 69) dX3_choose_49 (by decide) (by first | omega | exact bI_R _ | exact cmp_R _ _ | assumption) (by first | omega | exact bI_R _ | exact cmp_R _ _ | assumption) (fun c49 => ?_) (fun c49 => ?_)
              · skip
                refine Wp.iload_n rfl dX3_choose_69 ?_
                refine Wp.iconst dX3_choose_70 ?_
                refine Wp.icmp_ne (tgt := 83) dX3_choose_71 (by decide) (by first | omega | exact bI_R _ | exact cmp_R _ _ | assumption) (by first | omega | exact bI_R _ | exact cmp_R _ _ | assumption) (fun c71 => ?_) (fun c71 => ?_)
                · refine Wp.aload_n rfl dX3_choose_83 ?_
                  refine Wp.iload_n rfl dX3_choose_84 ?_
                  refine Wp.callV (As := [_]) (ls0 := [_, _]) (bd := (0, 0)) (bd' := (0, 0)) dX3_choose_85 kmX3_sumIn lkX3_114 (by decide) (by decide) (Nat.le_of_ble_eq_true rfl) (by first | rfl | exact kd_b0 _ | exact kd_b1 _ | exact kd_b2 _ | exact kd_b3 _ | exact kd_b4 _ | exact kd_b5 _ | exact kd_b6 _) (by omega) rfl rfl (Nat.le_of_ble_eq_true rfl) rfl ?_
                  refine ct_X3_sumIn hn hFx (by omega) ?_
                  rw [if_pos (by omega)]
                  show Wp _ _ _ (_ :: _) _ _ _
                  try rw [hsK, show wv I b (sfD (chL I 255 b) S (S - (i1 + 1))) (some (18 * eW I b i1 + c)) = wv I b (sfD (chL I 255 b) S (S - (i1 + 1))) (czp I b (chL I 255 b) S (i1 + 1)) by rw [hcz, hc1]]
                  refine Wp.istore (ls' := [_, _, _, _, _, _, _]) dX3_choose_88 (by decide) rfl ?_
                  first | exact h90 K (18 * i1 + c) (by omega) hOK hltK hchK (Or.inr ⟨i1, c, rfl, hc, hv, hcz.trans hc1, rfl, hflK⟩) | (exfalso; omega)
                · exfalso; omega
              · refine Wp.aload_n rfl dX3_choose_52 ?_
                refine Wp.aload_n rfl dX3_choose_53 ?_
                refine Wp.gi (kz := 7) rfl dX3_choose_54 fkX3_34 (by first | rfl | exact kd_b0 _ | exact kd_b1 _ | exact kd_b2 _ | exact kd_b3 _ | exact kd_b4 _ | exact kd_b5 _ | exact kd_b6 _) (by omega) ?_
                refine Wp.aload_n rfl dX3_choose_57 ?_
                refine Wp.iload_n rfl dX3_choose_58 ?_
                refine Wp.callV (As := [_]) (ls0 := [_, _]) (bd := (0, 0)) (bd' := (0, 0)) dX3_choose_59 kmX3_wordIn lkX3_94 (by decide) (by decide) (Nat.le_of_ble_eq_true rfl) (by first | rfl | exact kd_b0 _ | exact kd_b1 _ | exact kd_b2 _ | exact kd_b3 _ | exact kd_b4 _ | exact kd_b5 _ | exact kd_b6 _) (by omega) rfl rfl (Nat.le_of_ble_eq_true rfl) rfl ?_
                refine ct_X3_wordIn hn hFx (by omega) ?_
                rw [if_pos (by omega), hz1.1, h7]
                show Wp _ _ _ (_ :: _) _ _ _
                refine Wp.aload_n rfl dX3_choose_62 ?_
                refine Wp.gr (kz := 5) rfl dX3_choose_63 fkX3_27 (by first | rfl | exact kd_b0 _ | exact kd_b1 _ | exact kd_b2 _ | exact kd_b3 _ | exact kd_b4 _ | exact kd_b5 _ | exact kd_b6 _) (by omega) (by first | exact hFx _ 5 _ rfl | assumption | exact hBk.1 | exact hBk.2.1 | exact hBk.2.2.1 | exact hBk.2.2.2.1 | exact hBk.2.2.2.2.1 | exact hBk.2.2.2.2.2) ?_
                refine Wp.callV (As := [_, _, _]) (ls0 := [_, _, _, _, _, _]) (bd := (0, 0)) (bd' := (0, 0)) dX3_choose_66 kmX4_writeFollowers lkX3_97 (by decide) (by decide) (Nat.le_of_ble_eq_true rfl) (by first | rfl | exact kd_b0 _ | exact kd_b1 _ | exact kd_b2 _ | exact kd_b3 _ | exact kd_b4 _ | exact kd_b5 _ | exact kd_b6 _) (by omega) rfl rfl (Nat.le_of_ble_eq_true rfl) rfl ?_
                refine ct_X4_writeFollowers hn hFx (Pr_of hU hO) hb (by omega) (fun K hK hfl => ?_)
                have hOK : OvS I K b S := OvS_cg (fun o z ho => hK o z (by omega)) hO
                have hflK := fl_of hU hO hfl
                have hltK : ltP I K b S 0 := lt_cg (fun z _ => hK 22 z (by decide)) (fun z _ => hK 23 z (by decide)) hlt
                have hchK : ∀ j : Nat, j < i1 + 1 → choP I K b S j := fun j hj => cho_cg (hK 24 _ (by decide)) (hcho j hj)
                have hsK : K 22 (18 * i1 + c) = wv I b (sfD (chL I 255 b) S (S - (i1 + 1))) (some (18 * eW I b i1 + c)) := by rw [hK 22 _ (by decide)]; exact hsm
                show Wp _ _ _ _ _ _ _
                skip
                refine Wp.iload_n rfl dX3_choose_69 ?_
                refine Wp.iconst dX3_choose_70 ?_
                refine Wp.icmp_ne (tgt := 83) dX3_choose_71 (by decide) (by first | omega | exact bI_R _ | exact cmp_R _ _ | assumption) (by first | omega | exact bI_R _ | exact cmp_R _ _ | assumption) (fun c71 => ?_) (fun c71 => ?_)
                · refine Wp.aload_n rfl dX3_choose_83 ?_
                  refine Wp.iload_n rfl dX3_choose_84 ?_
                  refine Wp.callV (As := [_]) (ls0 := [_, _]) (bd := (0, 0)) (bd' := (0, 0)) dX3_choose_85 kmX3_sumIn lkX3_114 (by decide) (by decide) (Nat.le_of_ble_eq_true rfl) (by first | rfl | exact kd_b0 _ | exact kd_b1 _ | exact kd_b2 _ | exact kd_b3 _ | exact kd_b4 _ | exact kd_b5 _ | exact kd_b6 _) (by omega) rfl rfl (Nat.le_of_ble_eq_true rfl) rfl ?_
                  refine ct_X3_sumIn hn hFx (by omega) ?_
                  rw [if_pos (by omega)]
                  show Wp _ _ _ (_ :: _) _ _ _
                  try rw [hsK, show wv I b (sfD (chL I 255 b) S (S - (i1 + 1))) (some (18 * eW I b i1 + c)) = wv I b (sfD (chL I 255 b) S (S - (i1 + 1))) (czp I b (chL I 255 b) S (i1 + 1)) by rw [hcz, hc1]]
                  refine Wp.istore (ls' := [_, _, _, _, _, _, _]) dX3_choose_88 (by decide) rfl ?_
                  first | exact h90 K (18 * i1 + c) (by omega) hOK hltK hchK (Or.inr ⟨i1, c, rfl, hc, hv, hcz.trans hc1, rfl, hflK⟩) | (exfalso; omega)
                · exfalso; omega
            · exfalso; omega
        · refine Wp.vreturn dX3_choose_10 rfl ?_
          first | (exfalso; omega) | (exfalso; omega)
end

