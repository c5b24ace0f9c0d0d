/-! ===== the reference: entries, what they give ===== -/
section
variable {I : Nat → Int → Int} {L : Nat → Int → BitVec 64} {R : Nat → Int → Option Nat} {n : Nat} {m : Mm} {Q : Option AV → Mm → Prop}
theorem RW.b (h : RW I) {z : Int} (h0 : 0 ≤ z) (h1 : z < I 32 0) : 0 ≤ I 33 z ∧ I 33 z < 4 ∧ 0 ≤ I 34 z ∧ I 34 z < 4 ∧ I 33 z ≠ I 34 z ∧ 0 ≤ I 35 z ∧ I 35 z ≤ 999 := by
  obtain ⟨k, rfl⟩ := Int.eq_ofNat_of_zero_le h0
  exact (h.2.2.2.2.2 k h1).1
theorem RW.e (h : RW I) {z w : Int} (h0 : 0 ≤ z) (h1 : z < I 32 0) (hw0 : 0 ≤ w) (hw1 : w < 60) : 0 ≤ I 36 (60 * z + w) ∧ I 36 (60 * z + w) ≤ 3 := by
  obtain ⟨k, rfl⟩ := Int.eq_ofNat_of_zero_le h0
  exact ((h.2.2.2.2.2 k h1).2 w hw0 hw1).1
theorem RW.s (h : RW I) {z w s : Int} (h0 : 0 ≤ z) (h1 : z < I 32 0) (hw0 : 0 ≤ w) (hw1 : w < 60) (hs0 : 0 ≤ s) (hs1 : s < I 36 (60 * z + w)) : -1 ≤ I 37 (3 * (60 * z + w) + s) ∧ I 37 (3 * (60 * z + w) + s) ≤ 5 ∧ 1 ≤ I 38 (3 * (60 * z + w) + s) ∧ I 38 (3 * (60 * z + w) + s) ≤ 6 := by
  obtain ⟨k, rfl⟩ := Int.eq_ofNat_of_zero_le h0
  exact (((h.2.2.2.2.2 k h1).2 w hw0 hw1).2 s hs0 hs1).1
theorem RW.p (h : RW I) {z w s p : Int} (h0 : 0 ≤ z) (h1 : z < I 32 0) (hw0 : 0 ≤ w) (hw1 : w < 60) (hs0 : 0 ≤ s) (hs1 : s < I 36 (60 * z + w)) (hp0 : 0 ≤ p) (hp1 : p < I 38 (3 * (60 * z + w) + s)) : 0 ≤ I 39 (6 * (3 * (60 * z + w) + s) + p) ∧ I 39 (6 * (3 * (60 * z + w) + s) + p) < 60 ∧ (I 40 (6 * (3 * (60 * z + w) + s) + p) = 0 ∨ I 40 (6 * (3 * (60 * z + w) + s) + p) = 1) := by
  obtain ⟨k, rfl⟩ := Int.eq_ofNat_of_zero_le h0
  exact ((((h.2.2.2.2.2 k h1).2 w hw0 hw1).2 s hs0 hs1).2 p hp0 hp1).1
theorem lat_B (I : Nat → Int → Int) (h : 0 ≤ I 32 0) (lk a w b : Int) : -1 ≤ lat I lk a w b ∧ lat I lk a w b < I 32 0 := by
  have h1 := latN_B I lk a w b (I 32 0).toNat
  unfold lat
  omega
theorem ct_X12_entryOf {a w b : Int} (hn : 57 ≤ n) (hFx : Fx R) (hW : RW I) (ha : inR a) (hb : inR b) (hw0 : 0 ≤ w) (hw1 : w < 60) (hq : Q (some (vi (ent I (I 32 11) a w b))) (I, L, R, n)) : Wp mX12_entryOf 0 [some (vr (some 32)), some (vi a), some (vi w), some (vi b), none, none, none] [] (I, L, R, n) (0, 0) Q := by
  have hN0 := hW.1
  have hN1 := hW.2.1
  have hT0 := hW.2.2.1
  have hT1 := hW.2.2.2.1
  have loop : ∀ (t j : Nat) (z best : Int) (x6 : Option AV), j + t = (I 32 0).toNat → z = j → best = latN I (I 32 11) a w b j → Wp mX12_entryOf 6 [some (vr (some 32)), some (vi a), some (vi w), some (vi b), some (vi best), some (vi z), x6] [] (I, L, R, n) (0, 0) Q := by
    intro t
    induction t with
    | zero =>
      intro j z best x6 hj hz hbest
      have hB := latN_B I (I 32 11) a w b j
      have hl : best = lat I (I 32 11) a w b := by rw [hbest, lat, show (I 32 0).toNat = j by omega]
      refine Wp.iload rfl dX12_entryOf_6 ?_
      refine Wp.aload_n rfl dX12_entryOf_8 ?_
      refine Wp.gi (kz := 0) rfl dX12_entryOf_9 fkX12_153 (by first | rfl | exact kd_b0 _ | exact kd_b1 _ | exact kd_b2 _ | exact kd_b3 _ | exact kd_b4 _ | exact kd_b5 _ | exact kd_b6 _) (by omega) ?_
      refine Wp.icmp_ge (tgt := 110) dX12_entryOf_12 (by decide) (by first | omega | exact bI_R _ | exact cmp_R _ _ | assumption) (by first | omega | exact bI_R _ | exact cmp_R _ _ | assumption) (fun c12 => ?_) (fun c12 => ?_)
      · refine Wp.iload rfl dX12_entryOf_110 ?_
        refine Wp.if_ge (tgt := 119) dX12_entryOf_112 (by decide) (by first | omega | exact bI_R _ | exact cmp_R _ _ | assumption) (fun c112 => ?_) (fun c112 => ?_)
        · refine Wp.bipush rfl dX12_entryOf_119 ?_
          refine Wp.iload rfl dX12_entryOf_121 ?_
          refine Wp.imul dX12_entryOf_123 ?_
          refine Wp.iload_n rfl dX12_entryOf_124 ?_
          refine Wp.iadd dX12_entryOf_125 ?_
          refine Wp.ireturn dX12_entryOf_126 rfl ?_
          first | (exfalso; omega) | (exact qI hq (by unfold ent; rw [← hl]; first | rw [if_pos (by omega)] | rw [if_neg (by omega)]))
        · refine Wp.iconst dX12_entryOf_115 ?_
          refine Wp.goto (tgt := 126) dX12_entryOf_116 (by decide) ?_
          refine Wp.ireturn dX12_entryOf_126 rfl ?_
          first | (exfalso; omega) | (exact qI hq (by unfold ent; rw [← hl]; first | rw [if_pos (by omega)] | rw [if_neg (by omega)]))
      · exfalso; omega
    | succ t ih =>
      intro j z best x6 hj hz hbest
      have hB := latN_B I (I 32 11) a w b j
      have hz0 : 0 ≤ z := by omega
      have hz1 : z < I 32 0 := by omega
      have hzb := hW.b hz0 hz1
      have hze := hW.e hz0 hz1 hw0 hw1
      have hbb : 0 ≤ best → 0 ≤ I 35 best ∧ I 35 best ≤ 999 := fun h => (hW.b h (by omega)).2.2.2.2.2
      subst hz
      subst hbest
      refine Wp.iload rfl dX12_entryOf_6 ?_
      refine Wp.aload_n rfl dX12_entryOf_8 ?_
      refine Wp.gi (kz := 0) rfl dX12_entryOf_9 fkX12_153 (by first | rfl | exact kd_b0 _ | exact kd_b1 _ | exact kd_b2 _ | exact kd_b3 _ | exact kd_b4 _ | exact kd_b5 _ | exact kd_b6 _) (by omega) ?_
      refine Wp.icmp_ge (tgt := 110) dX12_entryOf_12 (by decide) (by first | omega | exact bI_R _ | exact cmp_R _ _ | assumption) (by first | omega | exact bI_R _ | exact cmp_R _ _ | assumption) (fun c12 => ?_) (fun c12 => ?_)
      · exfalso; omega
      · refine Wp.aload_n rfl dX12_entryOf_15 ?_
        refine Wp.iload rfl dX12_entryOf_16 ?_
        refine Wp.callV (As := [_]) (ls0 := [_, _]) (bd := (0, 0)) (bd' := (0, 0)) dX12_entryOf_18 kmX12_isBook lkX12_168 (by decide) (by decide) (Nat.le_of_ble_eq_true rfl) (by first | rfl | exact kd_b0 _ | exact kd_b1 _ | exact kd_b2 _ | exact kd_b3 _ | exact kd_b4 _ | exact kd_b5 _ | exact kd_b6 _) (by omega) rfl rfl (Nat.le_of_ble_eq_true rfl) rfl ?_
        refine ct_X12_isBook hn hFx (by omega) (by omega) (by omega) ?_
        show Wp _ _ _ (_ :: _) _ _ _
        refine Wp.if_eqB (tgt := 65) dX12_entryOf_21 (by decide) (fun c21 => ?_) (fun c21 => ?_)
        · refine Wp.iconst dX12_entryOf_65 ?_
          refine Wp.istore (ls' := [_, _, _, _, _, _, _]) dX12_entryOf_66 (by decide) rfl ?_
          refine Wp.iload rfl dX12_entryOf_68 ?_
          refine Wp.if_eq (tgt := 100) dX12_entryOf_70 (by decide) (by first | omega | exact bI_R _ | exact cmp_R _ _ | assumption) (fun c70 => ?_) (fun c70 => ?_)
          · refine Wp.iload rfl dX12_entryOf_100 ?_
            refine Wp.istore (ls' := [_, _, _, _, _, _, _]) dX12_entryOf_102 (by decide) rfl ?_
            refine Wp.iinc (ls' := [_, _, _, _, _, _, _]) rfl dX12_entryOf_104 (by decide) rfl ?_
            refine Wp.goto (tgt := 6) dX12_entryOf_107 (by decide) ?_
            first | (exfalso; omega) | exact ih (j + 1) _ _ _ (by omega) (by omega) (if_pos ⟨⟨c21.1, c21.2, c32, c43, by omega⟩, by omega⟩).symm | exact ih (j + 1) _ _ _ (by omega) (by omega) (if_neg (fun q => by obtain ⟨⟨q1, q2, q3, q4, q5⟩, q6⟩ := q; first | omega | exact c21 ⟨q1, q2⟩)).symm
          · refine Wp.iload rfl dX12_entryOf_73 ?_
            refine Wp.if_lt (tgt := 95) dX12_entryOf_75 (by decide) (by first | omega | exact bI_R _ | exact cmp_R _ _ | assumption) (fun c75 => ?_) (fun c75 => ?_)
            · refine Wp.iload rfl dX12_entryOf_95 ?_
              refine Wp.goto (tgt := 102) dX12_entryOf_97 (by decide) ?_
              refine Wp.istore (ls' := [_, _, _, _, _, _, _]) dX12_entryOf_102 (by decide) rfl ?_
              refine Wp.iinc (ls' := [_, _, _, _, _, _, _]) rfl dX12_entryOf_104 (by decide) rfl ?_
              refine Wp.goto (tgt := 6) dX12_entryOf_107 (by decide) ?_
              first | (exfalso; omega) | exact ih (j + 1) _ _ _ (by omega) (by omega) (if_pos ⟨⟨c21.1, c21.2, c32, c43, by omega⟩, by omega⟩).symm | exact ih (j + 1) _ _ _ (by omega) (by omega) (if_neg (fun q => by obtain ⟨⟨q1, q2, q3, q4, q5⟩, q6⟩ := q; first | omega | exact c21 ⟨q1, q2⟩)).symm
            · refine Wp.aload_n rfl dX12_entryOf_78 ?_
              refine Wp.gr (kz := 3) rfl dX12_entryOf_79 fkX12_16 (by first | rfl | exact kd_b0 _ | exact kd_b1 _ | exact kd_b2 _ | exact kd_b3 _ | exact kd_b4 _ | exact kd_b5 _ | exact kd_b6 _) (by omega) (by first | exact hFx _ 3 _ rfl | assumption | exact hBk.1 | exact hBk.2.1 | exact hBk.2.2.1 | exact hBk.2.2.2.1 | exact hBk.2.2.2.2.1 | exact hBk.2.2.2.2.2) ?_
              refine Wp.iload rfl dX12_entryOf_82 ?_
              refine Wp.iaload dX12_entryOf_84 (by first | rfl | exact kd_b0 _ | exact kd_b1 _ | exact kd_b2 _ | exact kd_b3 _ | exact kd_b4 _ | exact kd_b5 _ | exact kd_b6 _) (by omega) (by omega) (by omega) ?_
              refine Wp.aload_n rfl dX12_entryOf_85 ?_
              refine Wp.gr (kz := 3) rfl dX12_entryOf_86 fkX12_16 (by first | rfl | exact kd_b0 _ | exact kd_b1 _ | exact kd_b2 _ | exact kd_b3 _ | exact kd_b4 _ | exact kd_b5 _ | exact kd_b6 _) (by omega) (by first | exact hFx _ 3 _ rfl | assumption | exact hBk.1 | exact hBk.2.1 | exact hBk.2.2.1 | exact hBk.2.2.2.1 | exact hBk.2.2.2.2.1 | exact hBk.2.2.2.2.2) ?_
              refine Wp.iload rfl dX12_entryOf_89 ?_
              refine Wp.iaload dX12_entryOf_91 (by first | rfl | exact kd_b0 _ | exact kd_b1 _ | exact kd_b2 _ | exact kd_b3 _ | exact kd_b4 _ | exact kd_b5 _ | exact kd_b6 _) (by omega) (by omega) (by omega) ?_
              have hbb2 := hbb (by omega)
              refine Wp.icmp_lt (tgt := 100) dX12_entryOf_92 (by decide) (by first | omega | exact bI_R _ | exact cmp_R _ _ | assumption) (by first | omega | exact bI_R _ | exact cmp_R _ _ | assumption) (fun c92 => ?_) (fun c92 => ?_)
              · refine Wp.iload rfl dX12_entryOf_100 ?_
                refine Wp.istore (ls' := [_, _, _, _, _, _, _]) dX12_entryOf_102 (by decide) rfl ?_
                refine Wp.iinc (ls' := [_, _, _, _, _, _, _]) rfl dX12_entryOf_104 (by decide) rfl ?_
                refine Wp.goto (tgt := 6) dX12_entryOf_107 (by decide) ?_
                first | (exfalso; omega) | exact ih (j + 1) _ _ _ (by omega) (by omega) (if_pos ⟨⟨c21.1, c21.2, c32, c43, by omega⟩, by omega⟩).symm | exact ih (j + 1) _ _ _ (by omega) (by omega) (if_neg (fun q => by obtain ⟨⟨q1, q2, q3, q4, q5⟩, q6⟩ := q; first | omega | exact c21 ⟨q1, q2⟩)).symm
              · refine Wp.iload rfl dX12_entryOf_95 ?_
                refine Wp.goto (tgt := 102) dX12_entryOf_97 (by decide) ?_
                refine Wp.istore (ls' := [_, _, _, _, _, _, _]) dX12_entryOf_102 (by decide) rfl ?_
                refine Wp.iinc (ls' := [_, _, _, _, _, _, _]) rfl dX12_entryOf_104 (by decide) rfl ?_
                refine Wp.goto (tgt := 6) dX12_entryOf_107 (by decide) ?_
                first | (exfalso; omega) | exact ih (j + 1) _ _ _ (by omega) (by omega) (if_pos ⟨⟨c21.1, c21.2, c32, c43, by omega⟩, by omega⟩).symm | exact ih (j + 1) _ _ _ (by omega) (by omega) (if_neg (fun q => by obtain ⟨⟨q1, q2, q3, q4, q5⟩, q6⟩ := q; first | omega | exact c21 ⟨q1, q2⟩)).symm
        · refine Wp.aload_n rfl dX12_entryOf_24 ?_
          refine Wp.gr (kz := 1) rfl dX12_entryOf_25 fkX12_7 (by first | rfl | exact kd_b0 _ | exact kd_b1 _ | exact kd_b2 _ | exact kd_b3 _ | exact kd_b4 _ | exact kd_b5 _ | exact kd_b6 _) (by omega) (by first | exact hFx _ 1 _ rfl | assumption | exact hBk.1 | exact hBk.2.1 | exact hBk.2.2.1 | exact hBk.2.2.2.1 | exact hBk.2.2.2.2.1 | exact hBk.2.2.2.2.2) ?_
          refine Wp.iload rfl dX12_entryOf_28 ?_
          refine Wp.iaload dX12_entryOf_30 (by first | rfl | exact kd_b0 _ | exact kd_b1 _ | exact kd_b2 _ | exact kd_b3 _ | exact kd_b4 _ | exact kd_b5 _ | exact kd_b6 _) (by omega) (by omega) (by omega) ?_
          refine Wp.iload_n rfl dX12_entryOf_31 ?_
          refine Wp.icmp_ne (tgt := 65) dX12_entryOf_32 (by decide) (by first | omega | exact bI_R _ | exact cmp_R _ _ | assumption) (by first | omega | exact bI_R _ | exact cmp_R _ _ | assumption) (fun c32 => ?_) (fun c32 => ?_)
          · refine Wp.iconst dX12_entryOf_65 ?_
            refine Wp.istore (ls' := [_, _, _, _, _, _, _]) dX12_entryOf_66 (by decide) rfl ?_
            refine Wp.iload rfl dX12_entryOf_68 ?_
            refine Wp.if_eq (tgt := 100) dX12_entryOf_70 (by decide) (by first | omega | exact bI_R _ | exact cmp_R _ _ | assumption) (fun c70 => ?_) (fun c70 => ?_)
            · refine Wp.iload rfl dX12_entryOf_100 ?_
              refine Wp.istore (ls' := [_, _, _, _, _, _, _]) dX12_entryOf_102 (by decide) rfl ?_
              refine Wp.iinc (ls' := [_, _, _, _, _, _, _]) rfl dX12_entryOf_104 (by decide) rfl ?_
              refine Wp.goto (tgt := 6) dX12_entryOf_107 (by decide) ?_
              first | (exfalso; omega) | exact ih (j + 1) _ _ _ (by omega) (by omega) (if_pos ⟨⟨c21.1, c21.2, c32, c43, by omega⟩, by omega⟩).symm | exact ih (j + 1) _ _ _ (by omega) (by omega) (if_neg (fun q => by obtain ⟨⟨q1, q2, q3, q4, q5⟩, q6⟩ := q; first | omega | exact c21 ⟨q1, q2⟩)).symm
            · refine Wp.iload rfl dX12_entryOf_73 ?_
              refine Wp.if_lt (tgt := 95) dX12_entryOf_75 (by decide) (by first | omega | exact bI_R _ | exact cmp_R _ _ | assumption) (fun c75 => ?_) (fun c75 => ?_)
              · refine Wp.iload rfl dX12_entryOf_95 ?_
                refine Wp.goto (tgt := 102) dX12_entryOf_97 (by decide) ?_
                refine Wp.istore (ls' := [_, _, _, _, _, _, _]) dX12_entryOf_102 (by decide) rfl ?_
                refine Wp.iinc (ls' := [_, _, _, _, _, _, _]) rfl dX12_entryOf_104 (by decide) rfl ?_
                refine Wp.goto (tgt := 6) dX12_entryOf_107 (by decide) ?_
                first | (exfalso; omega) | exact ih (j + 1) _ _ _ (by omega) (by omega) (if_pos ⟨⟨c21.1, c21.2, c32, c43, by omega⟩, by omega⟩).symm | exact ih (j + 1) _ _ _ (by omega) (by omega) (if_neg (fun q => by obtain ⟨⟨q1, q2, q3, q4, q5⟩, q6⟩ := q; first | omega | exact c21 ⟨q1, q2⟩)).symm
              · refine Wp.aload_n rfl dX12_entryOf_78 ?_
                refine Wp.gr (kz := 3) rfl dX12_entryOf_79 fkX12_16 (by first | rfl | exact kd_b0 _ | exact kd_b1 _ | exact kd_b2 _ | exact kd_b3 _ | exact kd_b4 _ | exact kd_b5 _ | exact kd_b6 _) (by omega) (by first | exact hFx _ 3 _ rfl | assumption | exact hBk.1 | exact hBk.2.1 | exact hBk.2.2.1 | exact hBk.2.2.2.1 | exact hBk.2.2.2.2.1 | exact hBk.2.2.2.2.2) ?_
                refine Wp.iload rfl dX12_entryOf_82 ?_
                refine Wp.iaload dX12_entryOf_84 (by first | rfl | exact kd_b0 _ | exact kd_b1 _ | exact kd_b2 _ | exact kd_b3 _ | exact kd_b4 _ | exact kd_b5 _ | exact kd_b6 _) (by omega) (by omega) (by omega) ?_
                refine Wp.aload_n rfl dX12_entryOf_85 ?_
                refine Wp.gr (kz := 3) rfl dX12_entryOf_86 fkX12_16 (by first | rfl | exact kd_b0 _ | exact kd_b1 _ | exact kd_b2 _ | exact kd_b3 _ | exact kd_b4 _ | exact kd_b5 _ | exact kd_b6 _) (by omega) (by first | exact hFx _ 3 _ rfl | assumption | exact hBk.1 | exact hBk.2.1 | exact hBk.2.2.1 | exact hBk.2.2.2.1 | exact hBk.2.2.2.2.1 | exact hBk.2.2.2.2.2) ?_
                refine Wp.iload rfl dX12_entryOf_89 ?_
                refine Wp.iaload dX12_entryOf_91 (by first | rfl | exact kd_b0 _ | exact kd_b1 _ | exact kd_b2 _ | exact kd_b3 _ | exact kd_b4 _ | exact kd_b5 _ | exact kd_b6 _) (by omega) (by omega) (by omega) ?_
                have hbb2 := hbb (by omega)
                refine Wp.icmp_lt (tgt := 100) dX12_entryOf_92 (by decide) (by first | omega | exact bI_R _ | exact cmp_R _ _ | assumption) (by first | omega | exact bI_R _ | exact cmp_R _ _ | assumption) (fun c92 => ?_) (fun c92 => ?_)
                · refine Wp.iload rfl dX12_entryOf_100 ?_
                  refine Wp.istore (ls' := [_, _, _, _, _, _, _]) dX12_entryOf_102 (by decide) rfl ?_
                  refine Wp.iinc (ls' := [_, _, _, _, _, _, _]) rfl dX12_entryOf_104 (by decide) rfl ?_
                  refine Wp.goto (tgt := 6) dX12_entryOf_107 (by decide) ?_
                  first | (exfalso; omega) | exact ih (j + 1) _ _ _ (by omega) (by omega) (if_pos ⟨⟨c21.1, c21.2, c32, c43, by omega⟩, by omega⟩).symm | exact ih (j + 1) _ _ _ (by omega) (by omega) (if_neg (fun q => by obtain ⟨⟨q1, q2, q3, q4, q5⟩, q6⟩ := q; first | omega | exact c21 ⟨q1, q2⟩)).symm
                · refine Wp.iload rfl dX12_entryOf_95 ?_
                  refine Wp.goto (tgt := 102) dX12_entryOf_97 (by decide) ?_
                  refine Wp.istore (ls' := [_, _, _, _, _, _, _]) dX12_entryOf_102 (by decide) rfl ?_
                  refine Wp.iinc (ls' := [_, _, _, _, _, _, _]) rfl dX12_entryOf_104 (by decide) rfl ?_
                  refine Wp.goto (tgt := 6) dX12_entryOf_107 (by decide) ?_
                  first | (exfalso; omega) | exact ih (j + 1) _ _ _ (by omega) (by omega) (if_pos ⟨⟨c21.1, c21.2, c32, c43, by omega⟩, by omega⟩).symm | exact ih (j + 1) _ _ _ (by omega) (by omega) (if_neg (fun q => by obtain ⟨⟨q1, q2, q3, q4, q5⟩, q6⟩ := q; first | omega | exact c21 ⟨q1, q2⟩)).symm
          · refine Wp.aload_n rfl dX12_entryOf_35 ?_
            refine Wp.gr (kz := 2) rfl dX12_entryOf_36 fkX12_13 (by first | rfl | exact kd_b0 _ | exact kd_b1 _ | exact kd_b2 _ | exact kd_b3 _ | exact kd_b4 _ | exact kd_b5 _ | exact kd_b6 _) (by omega) (by first | exact hFx _ 2 _ rfl | assumption | exact hBk.1 | exact hBk.2.1 | exact hBk.2.2.1 | exact hBk.2.2.2.1 | exact hBk.2.2.2.2.1 | exact hBk.2.2.2.2.2) ?_
            refine Wp.iload rfl dX12_entryOf_39 ?_
            refine Wp.iaload dX12_entryOf_41 (by first | rfl | exact kd_b0 _ | exact kd_b1 _ | exact kd_b2 _ | exact kd_b3 _ | exact kd_b4 _ | exact kd_b5 _ | exact kd_b6 _) (by omega) (by omega) (by omega) ?_
            refine Wp.iload_n rfl dX12_entryOf_42 ?_
            refine Wp.icmp_ne (tgt := 65) dX12_entryOf_43 (by decide) (by first | omega | exact bI_R _ | exact cmp_R _ _ | assumption) (by first | omega | exact bI_R _ | exact cmp_R _ _ | assumption) (fun c43 => ?_) (fun c43 => ?_)
            · refine Wp.iconst dX12_entryOf_65 ?_
              refine Wp.istore (ls' := [_, _, _, _, _, _, _]) dX12_entryOf_66 (by decide) rfl ?_
              refine Wp.iload rfl dX12_entryOf_68 ?_
              refine Wp.if_eq (tgt := 100) dX12_entryOf_70 (by decide) (by first | omega | exact bI_R _ | exact cmp_R _ _ | assumption) (fun c70 => ?_) (fun c70 => ?_)
              · refine Wp.iload rfl dX12_entryOf_100 ?_
                refine Wp.istore (ls' := [_, _, _, _, _, _, _]) dX12_entryOf_102 (by decide) rfl ?_
                refine Wp.iinc (ls' := [_, _, _, _, _, _, _]) rfl dX12_entryOf_104 (by decide) rfl ?_
                refine Wp.goto (tgt := 6) dX12_entryOf_107 (by decide) ?_
                first | (exfalso; omega) | exact ih (j + 1) _ _ _ (by omega) (by omega) (if_pos ⟨⟨c21.1, c21.2, c32, c43, by omega⟩, by omega⟩).symm | exact ih (j + 1) _ _ _ (by omega) (by omega) (if_neg (fun q => by obtain ⟨⟨q1, q2, q3, q4, q5⟩, q6⟩ := q; first | omega | exact c21 ⟨q1, q2⟩)).symm
              · refine Wp.iload rfl dX12_entryOf_73 ?_
                refine Wp.if_lt (tgt := 95) dX12_entryOf_75 (by decide) (by first | omega | exact bI_R _ | exact cmp_R _ _ | assumption) (fun c75 => ?_) (fun c75 => ?_)
                · refine Wp.iload rfl dX12_entryOf_95 ?_
                  refine Wp.goto (tgt := 102) dX12_entryOf_97 (by decide) ?_
                  refine Wp.istore (ls' := [_, _, _, _, _, _, _]) dX12_entryOf_102 (by decide) rfl ?_
                  refine Wp.iinc (ls' := [_, _, _, _, _, _, _]) rfl dX12_entryOf_104 (by decide) rfl ?_
                  refine Wp.goto (tgt := 6) dX12_entryOf_107 (by decide) ?_
                  first | (exfalso; omega) | exact ih (j + 1) _ _ _ (by omega) (by omega) (if_pos ⟨⟨c21.1, c21.2, c32, c43, by omega⟩, by omega⟩).symm | exact ih (j + 1) _ _ _ (by omega) (by omega) (if_neg (fun q => by obtain ⟨⟨q1, q2, q3, q4, q5⟩, q6⟩ := q; first | omega | exact c21 ⟨q1, q2⟩)).symm
                · refine Wp.aload_n rfl dX12_entryOf_78 ?_
                  refine Wp.gr (kz := 3) rfl dX12_entryOf_79 fkX12_16 (by first | rfl | exact kd_b0 _ | exact kd_b1 _ | exact kd_b2 _ | exact kd_b3 _ | exact kd_b4 _ | exact kd_b5 _ | exact kd_b6 _) (by omega) (by first | exact hFx _ 3 _ rfl | assumption | exact hBk.1 | exact hBk.2.1 | exact hBk.2.2.1 | exact hBk.2.2.2.1 | exact hBk.2.2.2.2.1 | exact hBk.2.2.2.2.2) ?_
                  refine Wp.iload rfl dX12_entryOf_82 ?_
                  refine Wp.iaload dX12_entryOf_84 (by first | rfl | exact kd_b0 _ | exact kd_b1 _ | exact kd_b2 _ | exact kd_b3 _ | exact kd_b4 _ | exact kd_b5 _ | exact kd_b6 _) (by omega) (by omega) (by omega) ?_
                  refine Wp.aload_n rfl dX12_entryOf_85 ?_
                  refine Wp.gr (kz := 3) rfl dX12_entryOf_86 fkX12_16 (by first | rfl | exact kd_b0 _ | exact kd_b1 _ | exact kd_b2 _ | exact kd_b3 _ | exact kd_b4 _ | exact kd_b5 _ | exact kd_b6 _) (by omega) (by first | exact hFx _ 3 _ rfl | assumption | exact hBk.1 | exact hBk.2.1 | exact hBk.2.2.1 | exact hBk.2.2.2.1 | exact hBk.2.2.2.2.1 | exact hBk.2.2.2.2.2) ?_
                  refine Wp.iload rfl dX12_entryOf_89 ?_
                  refine Wp.iaload dX12_entryOf_91 (by first | rfl | exact kd_b0 _ | exact kd_b1 _ | exact kd_b2 _ | exact kd_b3 _ | exact kd_b4 _ | exact kd_b5 _ | exact kd_b6 _) (by omega) (by omega) (by omega) ?_
                  have hbb2 := hbb (by omega)
                  refine Wp.icmp_lt (tgt := 100) dX12_entryOf_92 (by decide) (by first | omega | exact bI_R _ | exact cmp_R _ _ | assumption) (by first | omega | exact bI_R _ | exact cmp_R _ _ | assumption) (fun c92 => ?_) (fun c92 => ?_)
                  · refine Wp.iload rfl dX12_entryOf_100 ?_
                    refine Wp.istore (ls' := [_, _, _, _, _, _, _]) dX12_entryOf_102 (by decide) rfl ?_
                    refine Wp.iinc (ls' := [_, _, _, _, _, _, _]) rfl dX12_entryOf_104 (by decide) rfl ?_
                    refine Wp.goto (tgt := 6) dX12_entryOf_107 (by decide) ?_
                    first | (exfalso; omega) | exact ih (j + 1) _ _ _ (by omega) (by omega) (if_pos ⟨⟨c21.1, c21.2, c32, c43, by omega⟩, by omega⟩).symm | exact ih (j + 1) _ _ _ (by omega) (by omega) (if_neg (fun q => by obtain ⟨⟨q1, q2, q3, q4, q5⟩, q6⟩ := q; first | omega | exact c21 ⟨q1, q2⟩)).symm
                  · refine Wp.iload rfl dX12_entryOf_95 ?_
                    refine Wp.goto (tgt := 102) dX12_entryOf_97 (by decide) ?_
                    refine Wp.istore (ls' := [_, _, _, _, _, _, _]) dX12_entryOf_102 (by decide) rfl ?_
                    refine Wp.iinc (ls' := [_, _, _, _, _, _, _]) rfl dX12_entryOf_104 (by decide) rfl ?_
                    refine Wp.goto (tgt := 6) dX12_entryOf_107 (by decide) ?_
                    first | (exfalso; omega) | exact ih (j + 1) _ _ _ (by omega) (by omega) (if_pos ⟨⟨c21.1, c21.2, c32, c43, by omega⟩, by omega⟩).symm | exact ih (j + 1) _ _ _ (by omega) (by omega) (if_neg (fun q => by obtain ⟨⟨q1, q2, q3, q4, q5⟩, q6⟩ := q; first | omega | exact c21 ⟨q1, q2⟩)).symm
            · refine Wp.aload_n rfl dX12_entryOf_46 ?_
              refine Wp.gr (kz := 4) rfl dX12_entryOf_47 fkX12_19 (by first | rfl | exact kd_b0 _ | exact kd_b1 _ | exact kd_b2 _ | exact kd_b3 _ | exact kd_b4 _ | exact kd_b5 _ | exact kd_b6 _) (by omega) (by first | exact hFx _ 4 _ rfl | assumption | exact hBk.1 | exact hBk.2.1 | exact hBk.2.2.1 | exact hBk.2.2.2.1 | exact hBk.2.2.2.2.1 | exact hBk.2.2.2.2.2) ?_
              refine Wp.bipush rfl dX12_entryOf_50 ?_
              refine Wp.iload rfl dX12_entryOf_52 ?_
              refine Wp.imul dX12_entryOf_54 ?_
              refine Wp.iload_n rfl dX12_entryOf_55 ?_
              refine Wp.iadd dX12_entryOf_56 ?_
              refine Wp.iaload dX12_entryOf_57 (by first | rfl | exact kd_b0 _ | exact kd_b1 _ | exact kd_b2 _ | exact kd_b3 _ | exact kd_b4 _ | exact kd_b5 _ | exact kd_b6 _) (by omega) (by omega) (by omega) ?_
              refine Wp.if_le (tgt := 65) dX12_entryOf_58 (by decide) (by first | omega | exact bI_R _ | exact cmp_R _ _ | assumption) (fun c58 => ?_) (fun c58 => ?_)
              · refine Wp.iconst dX12_entryOf_65 ?_
                refine Wp.istore (ls' := [_, _, _, _, _, _, _]) dX12_entryOf_66 (by decide) rfl ?_
                refine Wp.iload rfl dX12_entryOf_68 ?_
                refine Wp.if_eq (tgt := 100) dX12_entryOf_70 (by decide) (by first | omega | exact bI_R _ | exact cmp_R _ _ | assumption) (fun c70 => ?_) (fun c70 => ?_)
                · refine Wp.iload rfl dX12_entryOf_100 ?_
                  refine Wp.istore (ls' := [_, _, _, _, _, _, _]) dX12_entryOf_102 (by decide) rfl ?_
                  refine Wp.iinc (ls' := [_, _, _, _, _, _, _]) rfl dX12_entryOf_104 (by decide) rfl ?_
                  refine Wp.goto (tgt := 6) dX12_entryOf_107 (by decide) ?_
                  first | (exfalso; omega) | exact ih (j + 1) _ _ _ (by omega) (by omega) (if_pos ⟨⟨c21.1, c21.2, c32, c43, by omega⟩, by omega⟩).symm | exact ih (j + 1) _ _ _ (by omega) (by omega) (if_neg (fun q => by obtain ⟨⟨q1, q2, q3, q4, q5⟩, q6⟩ := q; first | omega | exact c21 ⟨q1, q2⟩)).symm
                · refine Wp.iload rfl dX12_entryOf_73 ?_
                  refine Wp.if_lt (tgt := 95) dX12_entryOf_75 (by decide) (by first | omega | exact bI_R _ | exact cmp_R _ _ | assumption) (fun c75 => ?_) (fun c75 => ?_)
                  · refine Wp.iload rfl dX12_entryOf_95 ?_
                    refine Wp.goto (tgt := 102) dX12_entryOf_97 (by decide) ?_
                    refine Wp.istore (ls' := [_, _, _, _, _, _, _]) dX12_entryOf_102 (by decide) rfl ?_
                    refine Wp.iinc (ls' := [_, _, _, _, _, _, _]) rfl dX12_entryOf_104 (by decide) rfl ?_
                    refine Wp.goto (tgt := 6) dX12_entryOf_107 (by decide) ?_
                    first | (exfalso; omega) | exact ih (j + 1) _ _ _ (by omega) (by omega) (if_pos ⟨⟨c21.1, c21.2, c32, c43, by omega⟩, by omega⟩).symm | exact ih (j + 1) _ _ _ (by omega) (by omega) (if_neg (fun q => by obtain ⟨⟨q1, q2, q3, q4, q5⟩, q6⟩ := q; first | omega | exact c21 ⟨q1, q2⟩)).symm
                  · refine Wp.aload_n rfl dX12_entryOf_78 ?_
                    refine Wp.gr (kz := 3) rfl dX12_entryOf_79 fkX12_16 (by first | rfl | exact kd_b0 _ | exact kd_b1 _ | exact kd_b2 _ | exact kd_b3 _ | exact kd_b4 _ | exact kd_b5 _ | exact kd_b6 _) (by omega) (by first | exact hFx _ 3 _ rfl | assumption | exact hBk.1 | exact hBk.2.1 | exact hBk.2.2.1 | exact hBk.2.2.2.1 | exact hBk.2.2.2.2.1 | exact hBk.2.2.2.2.2) ?_
                    refine Wp.iload rfl dX12_entryOf_82 ?_
                    refine Wp.iaload dX12_entryOf_84 (by first | rfl | exact kd_b0 _ | exact kd_b1 _ | exact kd_b2 _ | exact kd_b3 _ | exact kd_b4 _ | exact kd_b5 _ | exact kd_b6 _) (by omega) (by omega) (by omega) ?_
                    refine Wp.aload_n rfl dX12_entryOf_85 ?_
                    refine Wp.gr (kz := 3) rfl dX12_entryOf_86 fkX12_16 (by first | rfl | exact kd_b0 _ | exact kd_b1 _ | exact kd_b2 _ | exact kd_b3 _ | exact kd_b4 _ | exact kd_b5 _ | exact kd_b6 _) (by omega) (by first | exact hFx _ 3 _ rfl | assumption | exact hBk.1 | exact hBk.2.1 | exact hBk.2.2.1 | exact hBk.2.2.2.1 | exact hBk.2.2.2.2.1 | exact hBk.2.2.2.2.2) ?_
                    refine Wp.iload rfl dX12_entryOf_89 ?_
                    refine Wp.iaload dX12_entryOf_91 (by first | rfl | exact kd_b0 _ | exact kd_b1 _ | exact kd_b2 _ | exact kd_b3 _ | exact kd_b4 _ | exact kd_b5 _ | exact kd_b6 _) (by omega) (by omega) (by omega) ?_
                    have hbb2 := hbb (by omega)
                    refine Wp.icmp_lt (tgt := 100) dX12_entryOf_92 (by decide) (by first | omega | exact bI_R _ | exact cmp_R _ _ | assumption) (by first | omega | exact bI_R _ | exact cmp_R _ _ | assumption) (fun c92 => ?_) (fun c92 => ?_)
                    · refine Wp.iload rfl dX12_entryOf_100 ?_
                      refine Wp.istore (ls' := [_, _, _, _, _, _, _]) dX12_entryOf_102 (by decide) rfl ?_
                      refine Wp.iinc (ls' := [_, _, _, _, _, _, _]) rfl dX12_entryOf_104 (by decide) rfl ?_
                      refine Wp.goto (tgt := 6) dX12_entryOf_107 (by decide) ?_
                      first | (exfalso; omega) | exact ih (j + 1) _ _ _ (by omega) (by omega) (if_pos ⟨⟨c21.1, c21.2, c32, c43, by omega⟩, by omega⟩).symm | exact ih (j + 1) _ _ _ (by omega) (by omega) (if_neg (fun q => by obtain ⟨⟨q1, q2, q3, q4, q5⟩, q6⟩ := q; first | omega | exact c21 ⟨q1, q2⟩)).symm
                    · refine Wp.iload rfl dX12_entryOf_95 ?_
                      refine Wp.goto (tgt := 102) dX12_entryOf_97 (by decide) ?_
                      refine Wp.istore (ls' := [_, _, _, _, _, _, _]) dX12_entryOf_102 (by decide) rfl ?_
                      refine Wp.iinc (ls' := [_, _, _, _, _, _, _]) rfl dX12_entryOf_104 (by decide) rfl ?_
                      refine Wp.goto (tgt := 6) dX12_entryOf_107 (by decide) ?_
                      first | (exfalso; omega) | exact ih (j + 1) _ _ _ (by omega) (by omega) (if_pos ⟨⟨c21.1, c21.2, c32, c43, by omega⟩, by omega⟩).symm | exact ih (j + 1) _ _ _ (by omega) (by omega) (if_neg (fun q => by obtain ⟨⟨q1, q2, q3, q4, q5⟩, q6⟩ := q; first | omega | exact c21 ⟨q1, q2⟩)).symm
              · refine Wp.iconst dX12_entryOf_61 ?_
                refine Wp.goto (tgt := 66) dX12_entryOf_62 (by decide) ?_
                refine Wp.istore (ls' := [_, _, _, _, _, _, _]) dX12_entryOf_66 (by decide) rfl ?_
                refine Wp.iload rfl dX12_entryOf_68 ?_
                refine Wp.if_eq (tgt := 100) dX12_entryOf_70 (by decide) (by first | omega | exact bI_R _ | exact cmp_R _ _ | assumption) (fun c70 => ?_) (fun c70 => ?_)
                · refine Wp.iload rfl dX12_entryOf_100 ?_
                  refine Wp.istore (ls' := [_, _, _, _, _, _, _]) dX12_entryOf_102 (by decide) rfl ?_
                  refine Wp.iinc (ls' := [_, _, _, _, _, _, _]) rfl dX12_entryOf_104 (by decide) rfl ?_
                  refine Wp.goto (tgt := 6) dX12_entryOf_107 (by decide) ?_
                  first | (exfalso; omega) | exact ih (j + 1) _ _ _ (by omega) (by omega) (if_pos ⟨⟨c21.1, c21.2, c32, c43, by omega⟩, by omega⟩).symm | exact ih (j + 1) _ _ _ (by omega) (by omega) (if_neg (fun q => by obtain ⟨⟨q1, q2, q3, q4, q5⟩, q6⟩ := q; first | omega | exact c21 ⟨q1, q2⟩)).symm
                · refine Wp.iload rfl dX12_entryOf_73 ?_
                  refine Wp.if_lt (tgt := 95) dX12_entryOf_75 (by decide) (by first | omega | exact bI_R _ | exact cmp_R _ _ | assumption) (fun c75 => ?_) (fun c75 => ?_)
                  · refine Wp.iload rfl dX12_entryOf_95 ?_
                    refine Wp.goto (tgt := 102) dX12_entryOf_97 (by decide) ?_
                    refine Wp.istore (ls' := [_, _, _, _, _, _, _]) dX12_entryOf_102 (by decide) rfl ?_
                    refine Wp.iinc (ls' := [_, _, _, _, _, _, _]) rfl dX12_entryOf_104 (by decide) rfl ?_
                    refine Wp.goto (tgt := 6) dX12_entryOf_107 (by decide) ?_
                    first | (exfalso; omega) | exact ih (j + 1) _ _ _ (by omega) (by omega) (if_pos ⟨⟨c21.1, c21.2, c32, c43, by omega⟩, by omega⟩).symm | exact ih (j + 1) _ _ _ (by omega) (by omega) (if_neg (fun q => by obtain ⟨⟨q1, q2, q3, q4, q5⟩, q6⟩ := q; first | omega | exact c21 ⟨q1, q2⟩)).symm
                  · refine Wp.aload_n rfl dX12_entryOf_78 ?_
                    refine Wp.gr (kz := 3) rfl dX12_entryOf_79 fkX12_16 (by first | rfl | exact kd_b0 _ | exact kd_b1 _ | exact kd_b2 _ | exact kd_b3 _ | exact kd_b4 _ | exact kd_b5 _ | exact kd_b6 _) (by omega) (by first | exact hFx _ 3 _ rfl | assumption | exact hBk.1 | exact hBk.2.1 | exact hBk.2.2.1 | exact hBk.2.2.2.1 | exact hBk.2.2.2.2.1 | exact hBk.2.2.2.2.2) ?_
                    refine Wp.iload rfl dX12_entryOf_82 ?_
                    refine Wp.iaload dX12_entryOf_84 (by first | rfl | exact kd_b0 _ | exact kd_b1 _ | exact kd_b2 _ | exact kd_b3 _ | exact kd_b4 _ | exact kd_b5 _ | exact kd_b6 _) (by omega) (by omega) (by omega) ?_
                    refine Wp.aload_n rfl dX12_entryOf_85 ?_
                    refine Wp.gr (kz := 3) rfl dX12_entryOf_86 fkX12_16 (by first | rfl | exact kd_b0 _ | exact kd_b1 _ | exact kd_b2 _ | exact kd_b3 _ | exact kd_b4 _ | exact kd_b5 _ | exact kd_b6 _) (by omega) (by first | exact hFx _ 3 _ rfl | assumption | exact hBk.1 | exact hBk.2.1 | exact hBk.2.2.1 | exact hBk.2.2.2.1 | exact hBk.2.2.2.2.1 | exact hBk.2.2.2.2.2) ?_
                    refine Wp.iload rfl dX12_entryOf_89 ?_
                    refine Wp.iaload dX12_entryOf_91 (by first | rfl | exact kd_b0 _ | exact kd_b1 _ | exact kd_b2 _ | exact kd_b3 _ | exact kd_b4 _ | exact kd_b5 _ | exact kd_b6 _) (by omega) (by omega) (by omega) ?_
                    have hbb2 := hbb (by omega)
                    refine Wp.icmp_lt (tgt := 100) dX12_entryOf_92 (by decide) (by first | omega | exact bI_R _ | exact cmp_R _ _ | assumption) (by first | omega | exact bI_R _ | exact cmp_R _ _ | assumption) (fun c92 => ?_) (fun c92 => ?_)
                    · refine Wp.iload rfl dX12_entryOf_100 ?_
                      refine Wp.istore (ls' := [_, _, _, _, _, _, _]) dX12_entryOf_102 (by decide) rfl ?_
                      refine Wp.iinc (ls' := [_, _, _, _, _, _, _]) rfl dX12_entryOf_104 (by decide) rfl ?_
                      refine Wp.goto (tgt := 6) dX12_entryOf_107 (by decide) ?_
                      first | (exfalso; omega) | exact ih (j + 1) _ _ _ (by omega) (by omega) (if_pos ⟨⟨c21.1, c21.2, c32, c43, by omega⟩, by omega⟩).symm | exact ih (j + 1) _ _ _ (by omega) (by omega) (if_neg (fun q => by obtain ⟨⟨q1, q2, q3, q4, q5⟩, q6⟩ := q; first | omega | exact c21 ⟨q1, q2⟩)).symm
                    · refine Wp.iload rfl dX12_entryOf_95 ?_
                      refine Wp.goto (tgt := 102) dX12_entryOf_97 (by decide) ?_
                      refine Wp.istore (ls' := [_, _, _, _, _, _, _]) dX12_entryOf_102 (by decide) rfl ?_
                      refine Wp.iinc (ls' := [_, _, _, _, _, _, _]) rfl dX12_entryOf_104 (by decide) rfl ?_
                      refine Wp.goto (tgt := 6) dX12_entryOf_107 (by decide) ?_
                      first | (exfalso; omega) | exact ih (j + 1) _ _ _ (by omega) (by omega) (if_pos ⟨⟨c21.1, c21.2, c32, c43, by omega⟩, by omega⟩).symm | exact ih (j + 1) _ _ _ (by omega) (by omega) (if_neg (fun q => by obtain ⟨⟨q1, q2, q3, q4, q5⟩, q6⟩ := q; first | omega | exact c21 ⟨q1, q2⟩)).symm
  refine Wp.iconst dX12_entryOf_0 ?_
  refine Wp.istore (ls' := [_, _, _, _, _, _, _]) dX12_entryOf_1 (by decide) rfl ?_
  refine Wp.iconst dX12_entryOf_3 ?_
  refine Wp.istore (ls' := [_, _, _, _, _, _, _]) dX12_entryOf_4 (by decide) rfl ?_
  exact loop (I 32 0).toNat 0 _ _ _ (by omega) (by omega) rfl
/-- a sense of the reference's arrays -/
def SOk (I : Nat → Int → Int) (s : Int) : Prop := (0 ≤ s ∧ s < 1440 ∧ -1 ≤ I 37 s ∧ I 37 s ≤ 5 ∧ 0 ≤ I 38 s ∧ I 38 s ≤ 6) ∧ ∀ p : Int, 0 ≤ p → p < I 38 s → 0 ≤ I 39 (6 * s + p) ∧ I 39 (6 * s + p) < 60 ∧ (I 40 (6 * s + p) = 0 ∨ I 40 (6 * s + p) = 1)
def EOk (I : Nat → Int → Int) (e : Int) : Prop := (0 ≤ e ∧ e < 480 ∧ 0 ≤ I 36 e ∧ I 36 e ≤ 3) ∧ ∀ s : Int, 0 ≤ s → s < I 36 e → SOk I (3 * e + s)
theorem RW.eok (h : RW I) {z w : Int} (h0 : 0 ≤ z) (h1 : z < I 32 0) (hw0 : 0 ≤ w) (hw1 : w < 60) : EOk I (60 * z + w) := by
  have hN := h.2.1
  refine ⟨⟨by omega, by omega, h.e h0 h1 hw0 hw1⟩, fun s hs0 hs1 => ?_⟩
  have h3 := (h.e h0 h1 hw0 hw1).2
  have hs := h.s h0 h1 hw0 hw1 hs0 hs1
  exact ⟨⟨by omega, by omega, hs.1, hs.2.1, by omega, hs.2.2.2⟩, fun p hp0 hp1 => h.p h0 h1 hw0 hw1 hs0 hs1 hp0 hp1⟩
theorem RW.entOk (h : RW I) {lk a w b : Int} (hw0 : 0 ≤ w) (hw1 : w < 60) : ent I lk a w b = -1 ∨ EOk I (ent I lk a w b) := by
  have hB := lat_B I h.1 lk a w b
  unfold ent
  split
  · exact Or.inl rfl
  · exact Or.inr (h.eok (by omega) hB.2 hw0 hw1)
theorem ct_X12_senseSet {s : Int} (hn : 57 ≤ n) (hFx : Fx R) (hs : SOk I s) (hA : I 32 10 = 0 ∨ I 32 10 = 1) (hq : Q (some (vl (ss I (I 32 10) s))) (I, L, R, n)) : Wp mX12_senseSet 0 [some (vr (some 32)), some (vi s), none, none, none] [] (I, L, R, n) (0, 0) Q := by
  obtain ⟨⟨s0, s1, s2, s3, s4, s5⟩, sp⟩ := hs
  have loop : ∀ (t j : Nat) (z : Int) (x : BitVec 64), j + t = (I 38 s).toNat → z = 6 * s + j → x = ssN I (I 32 10) s j → Wp mX12_senseSet 8 [some (vr (some 32)), some (vi s), some (vl x), none, some (vi z)] [] (I, L, R, n) (0, 0) Q := by
    intro t
    induction t with
    | zero =>
      intro j z x hj hz hx
      refine Wp.iload rfl dX12_senseSet_8 ?_
      refine Wp.bipush rfl dX12_senseSet_10 ?_
      refine Wp.iload_n rfl dX12_senseSet_12 ?_
      refine Wp.imul dX12_senseSet_13 ?_
      refine Wp.aload_n rfl dX12_senseSet_14 ?_
      refine Wp.gr (kz := 6) rfl dX12_senseSet_15 fkX12_25 (by first | rfl | exact kd_b0 _ | exact kd_b1 _ | exact kd_b2 _ | exact kd_b3 _ | exact kd_b4 _ | exact kd_b5 _ | exact kd_b6 _) (by omega) (by first | exact hFx _ 6 _ rfl | assumption | exact hBk.1 | exact hBk.2.1 | exact hBk.2.2.1 | exact hBk.2.2.2.1 | exact hBk.2.2.2.2.1 | exact hBk.2.2.2.2.2) ?_
      refine Wp.iload_n rfl dX12_senseSet_18 ?_
      refine Wp.iaload dX12_senseSet_19 (by first | rfl | exact kd_b0 _ | exact kd_b1 _ | exact kd_b2 _ | exact kd_b3 _ | exact kd_b4 _ | exact kd_b5 _ | exact kd_b6 _) (by omega) (by omega) (by omega) ?_
      refine Wp.iadd dX12_senseSet_20 ?_
      refine Wp.icmp_ge (tgt := 55) dX12_senseSet_21 (by decide) (by first | omega | exact bI_R _ | exact cmp_R _ _ | assumption) (by first | omega | exact bI_R _ | exact cmp_R _ _ | assumption) (fun c21 => ?_) (fun c21 => ?_)
      · refine Wp.lload_n rfl dX12_senseSet_55 ?_
        refine Wp.lreturn dX12_senseSet_56 rfl ?_
        first | (exfalso; omega) | (exact qL hq (by rw [hx, ss, show (I 38 s).toNat = j by omega]))
      · exfalso; omega
    | succ t ih =>
      intro j z x hj hz hx
      have hp := sp j (by omega) (by omega)
      subst hz
      subst hx
      refine Wp.iload rfl dX12_senseSet_8 ?_
      refine Wp.bipush rfl dX12_senseSet_10 ?_
      refine Wp.iload_n rfl dX12_senseSet_12 ?_
      refine Wp.imul dX12_senseSet_13 ?_
      refine Wp.aload_n rfl dX12_senseSet_14 ?_
      refine Wp.gr (kz := 6) rfl dX12_senseSet_15 fkX12_25 (by first | rfl | exact kd_b0 _ | exact kd_b1 _ | exact kd_b2 _ | exact kd_b3 _ | exact kd_b4 _ | exact kd_b5 _ | exact kd_b6 _) (by omega) (by first | exact hFx _ 6 _ rfl | assumption | exact hBk.1 | exact hBk.2.1 | exact hBk.2.2.1 | exact hBk.2.2.2.1 | exact hBk.2.2.2.2.1 | exact hBk.2.2.2.2.2) ?_
      refine Wp.iload_n rfl dX12_senseSet_18 ?_
      refine Wp.iaload dX12_senseSet_19 (by first | rfl | exact kd_b0 _ | exact kd_b1 _ | exact kd_b2 _ | exact kd_b3 _ | exact kd_b4 _ | exact kd_b5 _ | exact kd_b6 _) (by omega) (by omega) (by omega) ?_
      refine Wp.iadd dX12_senseSet_20 ?_
      refine Wp.icmp_ge (tgt := 55) dX12_senseSet_21 (by decide) (by first | omega | exact bI_R _ | exact cmp_R _ _ | assumption) (by first | omega | exact bI_R _ | exact cmp_R _ _ | assumption) (fun c21 => ?_) (fun c21 => ?_)
      · exfalso; omega
      · refine Wp.lload_n rfl dX12_senseSet_24 ?_
        refine Wp.aload_n rfl dX12_senseSet_25 ?_
        refine Wp.iload rfl dX12_senseSet_26 ?_
        refine Wp.callV (As := [_]) (ls0 := [_, _]) (bd := (0, 0)) (bd' := (0, 0)) dX12_senseSet_28 kmX12_counts lkX12_171 (by decide) (by decide) (Nat.le_of_ble_eq_true rfl) (by first | rfl | exact kd_b0 _ | exact kd_b1 _ | exact kd_b2 _ | exact kd_b3 _ | exact kd_b4 _ | exact kd_b5 _ | exact kd_b6 _) (by omega) rfl rfl (Nat.le_of_ble_eq_true rfl) rfl ?_
        refine ct_X12_counts hn hFx (by omega) (by omega) (by omega) ?_
        show Wp _ _ _ (_ :: _) _ _ _
        refine Wp.if_eqB (tgt := 46) dX12_senseSet_31 (by decide) (fun c31 => ?_) (fun c31 => ?_)
        · refine Wp.lconst0 dX12_senseSet_46 ?_
          refine Wp.lor dX12_senseSet_47 ?_
          refine Wp.lstore_n (ls' := [_, _, _, _, _]) dX12_senseSet_48 (by decide) rfl ?_
          refine Wp.iinc (ls' := [_, _, _, _, _]) rfl dX12_senseSet_49 (by decide) rfl ?_
          refine Wp.goto (tgt := 8) dX12_senseSet_52 (by decide) ?_
          first | exact ih (j + 1) _ _ (by omega) (by omega) (congrArg (fun y => ssN I (I 32 10) s j ||| y) (if_pos c31).symm) | exact ih (j + 1) _ _ (by omega) (by omega) (congrArg (fun y => ssN I (I 32 10) s j ||| y) (if_neg c31).symm)
        · refine Wp.lconst1 dX12_senseSet_34 ?_
          refine Wp.aload_n rfl dX12_senseSet_35 ?_
          refine Wp.gr (kz := 7) rfl dX12_senseSet_36 fkX12_28 (by first | rfl | exact kd_b0 _ | exact kd_b1 _ | exact kd_b2 _ | exact kd_b3 _ | exact kd_b4 _ | exact kd_b5 _ | exact kd_b6 _) (by omega) (by first | exact hFx _ 7 _ rfl | assumption | exact hBk.1 | exact hBk.2.1 | exact hBk.2.2.1 | exact hBk.2.2.2.1 | exact hBk.2.2.2.2.1 | exact hBk.2.2.2.2.2) ?_
          refine Wp.iload rfl dX12_senseSet_39 ?_
          refine Wp.iaload dX12_senseSet_41 (by first | rfl | exact kd_b0 _ | exact kd_b1 _ | exact kd_b2 _ | exact kd_b3 _ | exact kd_b4 _ | exact kd_b5 _ | exact kd_b6 _) (by omega) (by omega) (by omega) ?_
          refine Wp.lshl (by omega) (by omega) dX12_senseSet_42 ?_
          refine Wp.goto (tgt := 47) dX12_senseSet_43 (by decide) ?_
          refine Wp.lor dX12_senseSet_47 ?_
          refine Wp.lstore_n (ls' := [_, _, _, _, _]) dX12_senseSet_48 (by decide) rfl ?_
          refine Wp.iinc (ls' := [_, _, _, _, _]) rfl dX12_senseSet_49 (by decide) rfl ?_
          refine Wp.goto (tgt := 8) dX12_senseSet_52 (by decide) ?_
          first | exact ih (j + 1) _ _ (by omega) (by omega) (congrArg (fun y => ssN I (I 32 10) s j ||| y) (if_pos c31).symm) | exact ih (j + 1) _ _ (by omega) (by omega) (congrArg (fun y => ssN I (I 32 10) s j ||| y) (if_neg c31).symm)
  refine Wp.lconst0 dX12_senseSet_0 ?_
  refine Wp.lstore_n (ls' := [_, _, _, _, _]) dX12_senseSet_1 (by decide) rfl ?_
  refine Wp.bipush rfl dX12_senseSet_2 ?_
  refine Wp.iload_n rfl dX12_senseSet_4 ?_
  refine Wp.imul dX12_senseSet_5 ?_
  refine Wp.istore (ls' := [_, _, _, _, _]) dX12_senseSet_6 (by decide) rfl ?_
  exact loop (I 38 s).toNat 0 _ _ (by omega) (by omega) rfl
theorem ct_X12_giving {a w b : Int} (hn : 57 ≤ n) (hFx : Fx R) (hW : RW I) (ha : inR a) (hb : inR b) (hw0 : 0 ≤ w) (hw1 : w < 60) (hq : Q (some (vl (gv I (I 32 11) a w b))) (I, L, R, n)) : Wp mX12_giving 0 [some (vr (some 32)), some (vi a), some (vi w), some (vi b), none, none, none, none] [] (I, L, R, n) (0, 0) Q := by
  have hA := hW.2.2.2.2.1
  have hE0 := hW.entOk (lk := I 32 11) (a := a) (b := b) hw0 hw1
  unfold gv at hq
  have loop : ∀ (e : Int), EOk I e → Q (some (vl (ge I (I 32 10) e))) (I, L, R, n) → ∀ (t j : Nat) (z : Int) (x : BitVec 64), j + t = (I 36 e).toNat → z = 3 * e + j → x = geN I (I 32 10) e j → Wp mX12_giving 18 [some (vr (some 32)), some (vi a), some (vi w), some (vi b), some (vi e), some (vl x), none, some (vi z)] [] (I, L, R, n) (0, 0) Q := by
    intro e hE hq t
    have hE1 := hE.1
    induction t with
    | zero =>
      intro j z x hj hz hx
      refine Wp.iload rfl dX12_giving_18 ?_
      refine Wp.if_lt (tgt := 57) dX12_giving_20 (by decide) (by first | omega | exact bI_R _ | exact cmp_R _ _ | assumption) (fun c20 => ?_) (fun c20 => ?_)
      · refine Wp.lload rfl dX12_giving_57 ?_
        refine Wp.lreturn dX12_giving_59 rfl ?_
        first | (exfalso; omega) | (exact qL hq (by rw [hx, ge, if_neg (by omega), show (I 36 e).toNat = j by omega]))
      · refine Wp.iload rfl dX12_giving_23 ?_
        refine Wp.iconst dX12_giving_25 ?_
        refine Wp.iload rfl dX12_giving_26 ?_
        refine Wp.imul dX12_giving_28 ?_
        refine Wp.aload_n rfl dX12_giving_29 ?_
        refine Wp.gr (kz := 4) rfl dX12_giving_30 fkX12_19 (by first | rfl | exact kd_b0 _ | exact kd_b1 _ | exact kd_b2 _ | exact kd_b3 _ | exact kd_b4 _ | exact kd_b5 _ | exact kd_b6 _) (by omega) (by first | exact hFx _ 4 _ rfl | assumption | exact hBk.1 | exact hBk.2.1 | exact hBk.2.2.1 | exact hBk.2.2.2.1 | exact hBk.2.2.2.2.1 | exact hBk.2.2.2.2.2) ?_
        refine Wp.iload rfl dX12_giving_33 ?_
        refine Wp.iaload dX12_giving_35 (by first | rfl | exact kd_b0 _ | exact kd_b1 _ | exact kd_b2 _ | exact kd_b3 _ | exact kd_b4 _ | exact kd_b5 _ | exact kd_b6 _) (by omega) (by omega) (by omega) ?_
        refine Wp.iadd dX12_giving_36 ?_
        refine Wp.icmp_ge (tgt := 57) dX12_giving_37 (by decide) (by first | omega | exact bI_R _ | exact cmp_R _ _ | assumption) (by first | omega | exact bI_R _ | exact cmp_R _ _ | assumption) (fun c37 => ?_) (fun c37 => ?_)
        · refine Wp.lload rfl dX12_giving_57 ?_
          refine Wp.lreturn dX12_giving_59 rfl ?_
          first | (exfalso; omega) | (exact qL hq (by rw [hx, ge, if_neg (by omega), show (I 36 e).toNat = j by omega]))
        · exfalso; omega
    | succ t ih =>
      intro j z x hj hz hx
      subst hz
      subst hx
      refine Wp.iload rfl dX12_giving_18 ?_
      refine Wp.if_lt (tgt := 57) dX12_giving_20 (by decide) (by first | omega | exact bI_R _ | exact cmp_R _ _ | assumption) (fun c20 => ?_) (fun c20 => ?_)
      · exfalso; omega
      · refine Wp.iload rfl dX12_giving_23 ?_
        refine Wp.iconst dX12_giving_25 ?_
        refine Wp.iload rfl dX12_giving_26 ?_
        refine Wp.imul dX12_giving_28 ?_
        refine Wp.aload_n rfl dX12_giving_29 ?_
        refine Wp.gr (kz := 4) rfl dX12_giving_30 fkX12_19 (by first | rfl | exact kd_b0 _ | exact kd_b1 _ | exact kd_b2 _ | exact kd_b3 _ | exact kd_b4 _ | exact kd_b5 _ | exact kd_b6 _) (by omega) (by first | exact hFx _ 4 _ rfl | assumption | exact hBk.1 | exact hBk.2.1 | exact hBk.2.2.1 | exact hBk.2.2.2.1 | exact hBk.2.2.2.2.1 | exact hBk.2.2.2.2.2) ?_
        refine Wp.iload rfl dX12_giving_33 ?_
        refine Wp.iaload dX12_giving_35 (by first | rfl | exact kd_b0 _ | exact kd_b1 _ | exact kd_b2 _ | exact kd_b3 _ | exact kd_b4 _ | exact kd_b5 _ | exact kd_b6 _) (by omega) (by omega) (by omega) ?_
        refine Wp.iadd dX12_giving_36 ?_
        refine Wp.icmp_ge (tgt := 57) dX12_giving_37 (by decide) (by first | omega | exact bI_R _ | exact cmp_R _ _ | assumption) (by first | omega | exact bI_R _ | exact cmp_R _ _ | assumption) (fun c37 => ?_) (fun c37 => ?_)
        · exfalso; omega
        · refine Wp.lload rfl dX12_giving_40 ?_
          refine Wp.aload_n rfl dX12_giving_42 ?_
          refine Wp.iload rfl dX12_giving_43 ?_
          refine Wp.callV (As := [_]) (ls0 := [_, _, _, _, _]) (bd := (0, 0)) (bd' := (0, 0)) dX12_giving_45 kmX12_senseSet lkX12_178 (by decide) (by decide) (Nat.le_of_ble_eq_true rfl) (by first | rfl | exact kd_b0 _ | exact kd_b1 _ | exact kd_b2 _ | exact kd_b3 _ | exact kd_b4 _ | exact kd_b5 _ | exact kd_b6 _) (by omega) rfl rfl (Nat.le_of_ble_eq_true rfl) rfl ?_
          refine ct_X12_senseSet hn hFx (by first | assumption | exact hE.2 _ (by omega) (by omega)) hA ?_
          show Wp _ _ _ (_ :: _) _ _ _
          refine Wp.lor dX12_giving_48 ?_
          refine Wp.lstore (ls' := [_, _, _, _, _, _, _, _]) dX12_giving_49 (by decide) rfl ?_
          refine Wp.iinc (ls' := [_, _, _, _, _, _, _, _]) rfl dX12_giving_51 (by decide) rfl ?_
          refine Wp.goto (tgt := 18) dX12_giving_54 (by decide) ?_
          exact ih (j + 1) _ _ (by omega) (by omega) rfl
  have neg : Q (some (vl (ge I (I 32 10) (-1)))) (I, L, R, n) → Wp mX12_giving 18 [some (vr (some 32)), some (vi a), some (vi w), some (vi b), some (vi (-1)), some (vl 0#64), none, some (vi (3 * -1))] [] (I, L, R, n) (0, 0) Q := by
    intro hq
    refine Wp.iload rfl dX12_giving_18 ?_
    refine Wp.if_lt (tgt := 57) dX12_giving_20 (by decide) (by first | omega | exact bI_R _ | exact cmp_R _ _ | assumption) (fun c20 => ?_) (fun c20 => ?_)
    · refine Wp.lload rfl dX12_giving_57 ?_
      refine Wp.lreturn dX12_giving_59 rfl ?_
      first | exact hq | (exfalso; omega)
    · exfalso; omega
  refine Wp.aload_n rfl dX12_giving_0 ?_
  refine Wp.iload_n rfl dX12_giving_1 ?_
  refine Wp.iload_n rfl dX12_giving_2 ?_
  refine Wp.iload_n rfl dX12_giving_3 ?_
  refine Wp.callV (As := [_, _, _]) (ls0 := [_, _, _, _, _, _, _]) (bd := (0, 0)) (bd' := (0, 0)) dX12_giving_4 kmX12_entryOf lkX12_174 (by decide) (by decide) (Nat.le_of_ble_eq_true rfl) (by first | rfl | exact kd_b0 _ | exact kd_b1 _ | exact kd_b2 _ | exact kd_b3 _ | exact kd_b4 _ | exact kd_b5 _ | exact kd_b6 _) (by omega) rfl rfl (Nat.le_of_ble_eq_true rfl) rfl ?_
  refine ct_X12_entryOf hn hFx hW (by omega) (by omega) (by omega) (by omega) ?_
  show Wp _ _ _ (_ :: _) _ _ _
  refine Wp.istore (ls' := [_, _, _, _, _, _, _, _]) dX12_giving_7 (by decide) rfl ?_
  refine Wp.lconst0 dX12_giving_9 ?_
  refine Wp.lstore (ls' := [_, _, _, _, _, _, _, _]) dX12_giving_10 (by decide) rfl ?_
  refine Wp.iconst dX12_giving_12 ?_
  refine Wp.iload rfl dX12_giving_13 ?_
  refine Wp.imul dX12_giving_15 ?_
  refine Wp.istore (ls' := [_, _, _, _, _, _, _, _]) dX12_giving_16 (by decide) rfl ?_
  rcases hE0 with he | hE
  · rw [he] at hq ⊢; exact neg hq
  · have hE1 := hE.1
    exact loop _ hE hq (I 36 (ent I (I 32 11) a w b)).toNat 0 _ _ (by omega) (by omega) rfl
end

