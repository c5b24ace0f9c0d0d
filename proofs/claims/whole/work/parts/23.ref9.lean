/-! ===== the reference: the bridge ===== -/
section
variable {I : Nat → Int → Int} {L : Nat → Int → BitVec 64} {R : Nat → Int → Option Nat} {n : Nat} {m : Mm} {Q : Option AV → Mm → Prop}
def bOk4 (b : BS) : Prop := -1 ≤ b.1 ∧ b.1 < 4 ∧ 0 ≤ b.2.1 ∧ b.2.1 ≤ 120 ∧ 1 ≤ b.2.2.1 ∧ b.2.2.1 ≤ 120 ∧ 0 ≤ b.2.2.2 ∧ b.2.2.2 ≤ 540
theorem brN_ok (hW : RW I) (lk a c : Int) {w : Int} (h0 : 0 ≤ w) (h1 : w < 60) : ∀ k : Nat, k ≤ 4 → bOk4 (brN I lk a w c k)
  | 0, _ => by unfold bOk4; simp [brN]
  | k + 1, hk => by
    have ih := brN_ok hW lk a c h0 h1 k (by omega)
    have hf := fbN_ok hW lk a k c h0 h1 60 (by omega)
    simp only [brN, brS]
    split
    · unfold bOk4; unfold bOk at hf; dsimp only; omega
    · exact ih
set_option maxHeartbeats 1000000 in
theorem ct_X12_bridge {a w c : Int} (hn : 57 ≤ n) (hFx : Fx R) (hW : RW I) (ha : inR a) (hw : inR w) (hc : inR c) (hq : ∀ J, Eqv I J → Q (some (vi (aBridge I (I 32 11) a w c))) (J, L, R, n)) : Wp mX12_bridge 0 [some (vr (some 32)), some (vi a), some (vi w), some (vi c), none, none, none, none, none, none] [] (I, L, R, n) (0, 0) Q := by
  have lp : ∀ (hok0 : tgP a ∧ wdP w ∧ tgP c ∧ (a = c → False)) , ∀ (tt k : Nat) (z : Int) (J : Nat → Int → Int) (b1 : Int) (b2 : Int) (b3 : Int) (b4 : Int) (x9 : Option AV), k + tt = 4 → z = k → Eqv I J → brN I (I 32 11) a w c k = (b1, b2, b3, b4) → Wp mX12_bridge 49 [some (vr (some 32)), some (vi a), some (vi w), some (vi c), some (vi b1), some (vi b2), some (vi b3), some (vi b4), some (vi z), x9] [] (J, L, R, n) (0, 0) Q := by
    intro hok0
    intro tt
    induction tt with
    | zero =>
      intro k z J b1 b2 b3 b4 x9 hkt hz e0 e1
      obtain rfl : k = 4 := by omega
      refine Wp.iload rfl dX12_bridge_49 ?_
      refine Wp.iconst dX12_bridge_51 ?_
      refine Wp.icmp_ge (tgt := 158) dX12_bridge_52 (by decide) (by first | omega | exact bI_R _ | exact cmp_R _ _ | assumption) (by first | omega | exact bI_R _ | exact cmp_R _ _ | assumption) (fun c52 => ?_) (fun c52 => ?_)
      · refine Wp.iload rfl dX12_bridge_158 ?_
        refine Wp.ireturn dX12_bridge_160 rfl ?_
        first | (exfalso; omega) | (exact qI (hq _ e0) (by unfold aBridge; rw [if_pos ⟨hok0.1, hok0.2.1, hok0.2.2.1⟩, if_neg hok0.2.2.2, e1]))
      · exfalso; omega
    | succ tt ih =>
      intro k z J b1 b2 b3 b4 x9 hkt hz e0 e1
      subst hz
      have hWJ := RW_cg e0.se hW
      have hok := brN_ok hW (I 32 11) a c (w := w) (by omega) (by omega) k (by omega)
      have hfk := fbN_ok hW (I 32 11) a k c (w := w) (by omega) (by omega) 60 (by omega)
      have hfe : fbN J (J 32 11) a w k c 60 = fbN I (I 32 11) a w k c 60 := by rw [e0.lk, fbN_cg e0.se]
      have hstep : brN I (I 32 11) a w c (k + 1) = brS I (I 32 11) a w c (brN I (I 32 11) a w c k) k := rfl
      rw [e1] at hok hstep
      unfold brS at hstep
      generalize fbN I (I 32 11) a w k c 60 = f at *
      obtain ⟨f1, f2, f3, f4⟩ := f
      unfold bOk4 at hok
      unfold bOk at hfk
      dsimp only at hok hfk hstep
      have hp1 := prod_R (by omega : 0 ≤ f2) (by omega) (by omega : 0 ≤ b3) (by omega)
      have hp2 := prod_R (by omega : 0 ≤ b2) (by omega) (by omega : 0 ≤ f3) (by omega)
      refine Wp.iload rfl dX12_bridge_49 ?_
      refine Wp.iconst dX12_bridge_51 ?_
      refine Wp.icmp_ge (tgt := 158) dX12_bridge_52 (by decide) (by first | omega | exact bI_R _ | exact cmp_R _ _ | assumption) (by first | omega | exact bI_R _ | exact cmp_R _ _ | assumption) (fun c52 => ?_) (fun c52 => ?_)
      · exfalso; omega
      · refine Wp.iload_n rfl dX12_bridge_55 ?_
        refine Wp.iload rfl dX12_bridge_56 ?_
        refine Wp.iload_n rfl dX12_bridge_58 ?_
        refine Wp.callS (As := [_, _, _]) (ls0 := [_, _, _]) (bd := (0, 0)) (bd' := (0, 0)) dX12_bridge_59 kmX12_areApart lkX12_208 (by decide) (by decide) (Nat.le_of_ble_eq_true rfl) rfl rfl (Nat.le_of_ble_eq_true rfl) rfl ?_
        refine ct_X12_areApart (by omega) (by omega) (by omega) ?_
        show Wp _ _ _ (_ :: _) _ _ _
        refine Wp.if_eqB (tgt := 152) dX12_bridge_62 (by decide) (fun c62 => ?_) (fun c62 => ?_)
        · refine Wp.iinc (ls' := [_, _, _, _, _, _, _, _, _, _]) rfl dX12_bridge_152 (by decide) rfl ?_
          refine Wp.goto (tgt := 49) dX12_bridge_155 (by decide) ?_
          first | exact ih (k + 1) _ _ _ _ _ _ _ (by omega) (by omega) e0 (hstep.trans (if_neg (fun q => c62 q.1))) | exact ih (k + 1) _ _ _ _ _ _ _ (by omega) (by omega) (e0.tr hK) (hstep.trans (if_pos ⟨c62f (), by omega, Or.inl (by omega)⟩)) | exact ih (k + 1) _ _ _ _ _ _ _ (by omega) (by omega) (e0.tr hK) (hstep.trans (if_pos ⟨c62f (), by omega, Or.inr (Or.inl (by omega))⟩)) | exact ih (k + 1) _ _ _ _ _ _ _ (by omega) (by omega) (e0.tr hK) (hstep.trans (if_pos ⟨c62f (), by omega, Or.inr (Or.inr ⟨by omega, by omega⟩)⟩)) | exact ih (k + 1) _ _ _ _ _ _ _ (by omega) (by omega) (e0.tr hK) (hstep.trans (if_neg (fun q => absurd q.2 (by omega))))
        · have c62f : Unit → aptP a k c := fun _ => c62
          clear c62
          refine Wp.aload_n rfl dX12_bridge_65 ?_
          refine Wp.iload_n rfl dX12_bridge_66 ?_
          refine Wp.iload_n rfl dX12_bridge_67 ?_
          refine Wp.iload rfl dX12_bridge_68 ?_
          refine Wp.iload_n rfl dX12_bridge_70 ?_
          refine Wp.callV (As := [_, _, _, _]) (ls0 := [_, _, _, _, _, _, _, _]) (bd := (0, 0)) (bd' := (0, 0)) dX12_bridge_71 kmX12_findBest lkX12_241 (by decide) (by decide) (Nat.le_of_ble_eq_true rfl) (by first | rfl | exact kd_b0 _ | exact kd_b1 _ | exact kd_b2 _ | exact kd_b3 _ | exact kd_b4 _ | exact kd_b5 _ | exact kd_b6 _) (by omega) rfl rfl (Nat.le_of_ble_eq_true rfl) rfl ?_
          refine ct_X12_findBest (w := w) hn hFx hWJ (by omega) (by omega) (by omega) (by omega) (by omega) (fun K hK hb => ?_)
          rw [hfe] at hb
          unfold bSt at hb
          dsimp only at hb
          show Wp _ _ _ _ _ _ _
          refine Wp.aload_n rfl dX12_bridge_74 ?_
          refine Wp.gi (kz := 21) rfl dX12_bridge_75 fkX12_229 (by first | rfl | exact kd_b0 _ | exact kd_b1 _ | exact kd_b2 _ | exact kd_b3 _ | exact kd_b4 _ | exact kd_b5 _ | exact kd_b6 _) (by omega) ?_
          refine Wp.if_ge (tgt := 85) dX12_bridge_78 (by decide) (by first | omega | exact bI_R _ | exact cmp_R _ _ | assumption) (fun c78 => ?_) (fun c78 => ?_)
          · have hb2 := hb.2 (by omega)
            refine Wp.iload rfl dX12_bridge_85 ?_
            refine Wp.if_ge (tgt := 94) dX12_bridge_87 (by decide) (by first | omega | exact bI_R _ | exact cmp_R _ _ | assumption) (fun c87 => ?_) (fun c87 => ?_)
            · refine Wp.aload_n rfl dX12_bridge_94 ?_
              refine Wp.gi (kz := 22) rfl dX12_bridge_95 fkX12_235 (by first | rfl | exact kd_b0 _ | exact kd_b1 _ | exact kd_b2 _ | exact kd_b3 _ | exact kd_b4 _ | exact kd_b5 _ | exact kd_b6 _) (by omega) ?_
              refine Wp.iload rfl dX12_bridge_98 ?_
              refine Wp.imul dX12_bridge_100 ?_
              refine Wp.iload rfl dX12_bridge_101 ?_
              refine Wp.aload_n rfl dX12_bridge_103 ?_
              refine Wp.gi (kz := 23) rfl dX12_bridge_104 fkX12_232 (by first | rfl | exact kd_b0 _ | exact kd_b1 _ | exact kd_b2 _ | exact kd_b3 _ | exact kd_b4 _ | exact kd_b5 _ | exact kd_b6 _) (by omega) ?_
              refine Wp.imul dX12_bridge_107 ?_
              rw [hb2.1, hb2.2.1]
              refine Wp.isub dX12_bridge_108 ?_
              refine Wp.istore (ls' := [_, _, _, _, _, _, _, _, _, _]) dX12_bridge_109 (by decide) rfl ?_
              refine Wp.iload rfl dX12_bridge_111 ?_
              refine Wp.if_gt (tgt := 130) dX12_bridge_113 (by decide) (by first | omega | exact bI_R _ | exact cmp_R _ _ | assumption) (fun c113 => ?_) (fun c113 => ?_)
              · refine Wp.iload rfl dX12_bridge_130 ?_
                refine Wp.istore (ls' := [_, _, _, _, _, _, _, _, _, _]) dX12_bridge_132 (by decide) rfl ?_
                have hb3 := hb.2 (by omega)
                refine Wp.aload_n rfl dX12_bridge_134 ?_
                refine Wp.gi (kz := 22) rfl dX12_bridge_135 fkX12_235 (by first | rfl | exact kd_b0 _ | exact kd_b1 _ | exact kd_b2 _ | exact kd_b3 _ | exact kd_b4 _ | exact kd_b5 _ | exact kd_b6 _) (by omega) ?_
                rw [hb3.1]
                refine Wp.istore (ls' := [_, _, _, _, _, _, _, _, _, _]) dX12_bridge_138 (by decide) rfl ?_
                refine Wp.aload_n rfl dX12_bridge_140 ?_
                refine Wp.gi (kz := 23) rfl dX12_bridge_141 fkX12_232 (by first | rfl | exact kd_b0 _ | exact kd_b1 _ | exact kd_b2 _ | exact kd_b3 _ | exact kd_b4 _ | exact kd_b5 _ | exact kd_b6 _) (by omega) ?_
                rw [hb3.2.1]
                refine Wp.istore (ls' := [_, _, _, _, _, _, _, _, _, _]) dX12_bridge_144 (by decide) rfl ?_
                refine Wp.aload_n rfl dX12_bridge_146 ?_
                refine Wp.gi (kz := 24) rfl dX12_bridge_147 fkX12_238 (by first | rfl | exact kd_b0 _ | exact kd_b1 _ | exact kd_b2 _ | exact kd_b3 _ | exact kd_b4 _ | exact kd_b5 _ | exact kd_b6 _) (by omega) ?_
                rw [hb3.2.2]
                refine Wp.istore (ls' := [_, _, _, _, _, _, _, _, _, _]) dX12_bridge_150 (by decide) rfl ?_
                refine Wp.iinc (ls' := [_, _, _, _, _, _, _, _, _, _]) rfl dX12_bridge_152 (by decide) rfl ?_
                refine Wp.goto (tgt := 49) dX12_bridge_155 (by decide) ?_
                first | exact ih (k + 1) _ _ _ _ _ _ _ (by omega) (by omega) e0 (hstep.trans (if_neg (fun q => c62 q.1))) | exact ih (k + 1) _ _ _ _ _ _ _ (by omega) (by omega) (e0.tr hK) (hstep.trans (if_pos ⟨c62f (), by omega, Or.inl (by omega)⟩)) | exact ih (k + 1) _ _ _ _ _ _ _ (by omega) (by omega) (e0.tr hK) (hstep.trans (if_pos ⟨c62f (), by omega, Or.inr (Or.inl (by omega))⟩)) | exact ih (k + 1) _ _ _ _ _ _ _ (by omega) (by omega) (e0.tr hK) (hstep.trans (if_pos ⟨c62f (), by omega, Or.inr (Or.inr ⟨by omega, by omega⟩)⟩)) | exact ih (k + 1) _ _ _ _ _ _ _ (by omega) (by omega) (e0.tr hK) (hstep.trans (if_neg (fun q => absurd q.2 (by omega))))
              · refine Wp.iload rfl dX12_bridge_116 ?_
                refine Wp.if_ne (tgt := 152) dX12_bridge_118 (by decide) (by first | omega | exact bI_R _ | exact cmp_R _ _ | assumption) (fun c118 => ?_) (fun c118 => ?_)
                · refine Wp.iinc (ls' := [_, _, _, _, _, _, _, _, _, _]) rfl dX12_bridge_152 (by decide) rfl ?_
                  refine Wp.goto (tgt := 49) dX12_bridge_155 (by decide) ?_
                  first | exact ih (k + 1) _ _ _ _ _ _ _ (by omega) (by omega) e0 (hstep.trans (if_neg (fun q => c62 q.1))) | exact ih (k + 1) _ _ _ _ _ _ _ (by omega) (by omega) (e0.tr hK) (hstep.trans (if_pos ⟨c62f (), by omega, Or.inl (by omega)⟩)) | exact ih (k + 1) _ _ _ _ _ _ _ (by omega) (by omega) (e0.tr hK) (hstep.trans (if_pos ⟨c62f (), by omega, Or.inr (Or.inl (by omega))⟩)) | exact ih (k + 1) _ _ _ _ _ _ _ (by omega) (by omega) (e0.tr hK) (hstep.trans (if_pos ⟨c62f (), by omega, Or.inr (Or.inr ⟨by omega, by omega⟩)⟩)) | exact ih (k + 1) _ _ _ _ _ _ _ (by omega) (by omega) (e0.tr hK) (hstep.trans (if_neg (fun q => absurd q.2 (by omega))))
                · refine Wp.aload_n rfl dX12_bridge_121 ?_
                  refine Wp.gi (kz := 24) rfl dX12_bridge_122 fkX12_238 (by first | rfl | exact kd_b0 _ | exact kd_b1 _ | exact kd_b2 _ | exact kd_b3 _ | exact kd_b4 _ | exact kd_b5 _ | exact kd_b6 _) (by omega) ?_
                  refine Wp.iload rfl dX12_bridge_125 ?_
                  refine Wp.icmp_le (tgt := 152) dX12_bridge_127 (by decide) (by first | omega | exact bI_R _ | exact cmp_R _ _ | assumption) (by first | omega | exact bI_R _ | exact cmp_R _ _ | assumption) (fun c127 => ?_) (fun c127 => ?_)
                  · refine Wp.iinc (ls' := [_, _, _, _, _, _, _, _, _, _]) rfl dX12_bridge_152 (by decide) rfl ?_
                    refine Wp.goto (tgt := 49) dX12_bridge_155 (by decide) ?_
                    first | exact ih (k + 1) _ _ _ _ _ _ _ (by omega) (by omega) e0 (hstep.trans (if_neg (fun q => c62 q.1))) | exact ih (k + 1) _ _ _ _ _ _ _ (by omega) (by omega) (e0.tr hK) (hstep.trans (if_pos ⟨c62f (), by omega, Or.inl (by omega)⟩)) | exact ih (k + 1) _ _ _ _ _ _ _ (by omega) (by omega) (e0.tr hK) (hstep.trans (if_pos ⟨c62f (), by omega, Or.inr (Or.inl (by omega))⟩)) | exact ih (k + 1) _ _ _ _ _ _ _ (by omega) (by omega) (e0.tr hK) (hstep.trans (if_pos ⟨c62f (), by omega, Or.inr (Or.inr ⟨by omega, by omega⟩)⟩)) | exact ih (k + 1) _ _ _ _ _ _ _ (by omega) (by omega) (e0.tr hK) (hstep.trans (if_neg (fun q => absurd q.2 (by omega))))
                  · refine Wp.iload rfl dX12_bridge_130 ?_
                    refine Wp.istore (ls' := [_, _, _, _, _, _, _, _, _, _]) dX12_bridge_132 (by decide) rfl ?_
                    have hb3 := hb.2 (by omega)
                    refine Wp.aload_n rfl dX12_bridge_134 ?_
                    refine Wp.gi (kz := 22) rfl dX12_bridge_135 fkX12_235 (by first | rfl | exact kd_b0 _ | exact kd_b1 _ | exact kd_b2 _ | exact kd_b3 _ | exact kd_b4 _ | exact kd_b5 _ | exact kd_b6 _) (by omega) ?_
                    rw [hb3.1]
                    refine Wp.istore (ls' := [_, _, _, _, _, _, _, _, _, _]) dX12_bridge_138 (by decide) rfl ?_
                    refine Wp.aload_n rfl dX12_bridge_140 ?_
                    refine Wp.gi (kz := 23) rfl dX12_bridge_141 fkX12_232 (by first | rfl | exact kd_b0 _ | exact kd_b1 _ | exact kd_b2 _ | exact kd_b3 _ | exact kd_b4 _ | exact kd_b5 _ | exact kd_b6 _) (by omega) ?_
                    rw [hb3.2.1]
                    refine Wp.istore (ls' := [_, _, _, _, _, _, _, _, _, _]) dX12_bridge_144 (by decide) rfl ?_
                    refine Wp.aload_n rfl dX12_bridge_146 ?_
                    refine Wp.gi (kz := 24) rfl dX12_bridge_147 fkX12_238 (by first | rfl | exact kd_b0 _ | exact kd_b1 _ | exact kd_b2 _ | exact kd_b3 _ | exact kd_b4 _ | exact kd_b5 _ | exact kd_b6 _) (by omega) ?_
                    rw [hb3.2.2]
                    refine Wp.istore (ls' := [_, _, _, _, _, _, _, _, _, _]) dX12_bridge_150 (by decide) rfl ?_
                    refine Wp.iinc (ls' := [_, _, _, _, _, _, _, _, _, _]) rfl dX12_bridge_152 (by decide) rfl ?_
                    refine Wp.goto (tgt := 49) dX12_bridge_155 (by decide) ?_
                    first | exact ih (k + 1) _ _ _ _ _ _ _ (by omega) (by omega) e0 (hstep.trans (if_neg (fun q => c62 q.1))) | exact ih (k + 1) _ _ _ _ _ _ _ (by omega) (by omega) (e0.tr hK) (hstep.trans (if_pos ⟨c62f (), by omega, Or.inl (by omega)⟩)) | exact ih (k + 1) _ _ _ _ _ _ _ (by omega) (by omega) (e0.tr hK) (hstep.trans (if_pos ⟨c62f (), by omega, Or.inr (Or.inl (by omega))⟩)) | exact ih (k + 1) _ _ _ _ _ _ _ (by omega) (by omega) (e0.tr hK) (hstep.trans (if_pos ⟨c62f (), by omega, Or.inr (Or.inr ⟨by omega, by omega⟩)⟩)) | exact ih (k + 1) _ _ _ _ _ _ _ (by omega) (by omega) (e0.tr hK) (hstep.trans (if_neg (fun q => absurd q.2 (by omega))))
            · refine Wp.iconst dX12_bridge_90 ?_
              refine Wp.goto (tgt := 109) dX12_bridge_91 (by decide) ?_
              refine Wp.istore (ls' := [_, _, _, _, _, _, _, _, _, _]) dX12_bridge_109 (by decide) rfl ?_
              refine Wp.iload rfl dX12_bridge_111 ?_
              refine Wp.if_gt (tgt := 130) dX12_bridge_113 (by decide) (by first | omega | exact bI_R _ | exact cmp_R _ _ | assumption) (fun c113 => ?_) (fun c113 => ?_)
              · refine Wp.iload rfl dX12_bridge_130 ?_
                refine Wp.istore (ls' := [_, _, _, _, _, _, _, _, _, _]) dX12_bridge_132 (by decide) rfl ?_
                have hb3 := hb.2 (by omega)
                refine Wp.aload_n rfl dX12_bridge_134 ?_
                refine Wp.gi (kz := 22) rfl dX12_bridge_135 fkX12_235 (by first | rfl | exact kd_b0 _ | exact kd_b1 _ | exact kd_b2 _ | exact kd_b3 _ | exact kd_b4 _ | exact kd_b5 _ | exact kd_b6 _) (by omega) ?_
                rw [hb3.1]
                refine Wp.istore (ls' := [_, _, _, _, _, _, _, _, _, _]) dX12_bridge_138 (by decide) rfl ?_
                refine Wp.aload_n rfl dX12_bridge_140 ?_
                refine Wp.gi (kz := 23) rfl dX12_bridge_141 fkX12_232 (by first | rfl | exact kd_b0 _ | exact kd_b1 _ | exact kd_b2 _ | exact kd_b3 _ | exact kd_b4 _ | exact kd_b5 _ | exact kd_b6 _) (by omega) ?_
                rw [hb3.2.1]
                refine Wp.istore (ls' := [_, _, _, _, _, _, _, _, _, _]) dX12_bridge_144 (by decide) rfl ?_
                refine Wp.aload_n rfl dX12_bridge_146 ?_
                refine Wp.gi (kz := 24) rfl dX12_bridge_147 fkX12_238 (by first | rfl | exact kd_b0 _ | exact kd_b1 _ | exact kd_b2 _ | exact kd_b3 _ | exact kd_b4 _ | exact kd_b5 _ | exact kd_b6 _) (by omega) ?_
                rw [hb3.2.2]
                refine Wp.istore (ls' := [_, _, _, _, _, _, _, _, _, _]) dX12_bridge_150 (by decide) rfl ?_
                refine Wp.iinc (ls' := [_, _, _, _, _, _, _, _, _, _]) rfl dX12_bridge_152 (by decide) rfl ?_
                refine Wp.goto (tgt := 49) dX12_bridge_155 (by decide) ?_
                first | exact ih (k + 1) _ _ _ _ _ _ _ (by omega) (by omega) e0 (hstep.trans (if_neg (fun q => c62 q.1))) | exact ih (k + 1) _ _ _ _ _ _ _ (by omega) (by omega) (e0.tr hK) (hstep.trans (if_pos ⟨c62f (), by omega, Or.inl (by omega)⟩)) | exact ih (k + 1) _ _ _ _ _ _ _ (by omega) (by omega) (e0.tr hK) (hstep.trans (if_pos ⟨c62f (), by omega, Or.inr (Or.inl (by omega))⟩)) | exact ih (k + 1) _ _ _ _ _ _ _ (by omega) (by omega) (e0.tr hK) (hstep.trans (if_pos ⟨c62f (), by omega, Or.inr (Or.inr ⟨by omega, by omega⟩)⟩)) | exact ih (k + 1) _ _ _ _ _ _ _ (by omega) (by omega) (e0.tr hK) (hstep.trans (if_neg (fun q => absurd q.2 (by omega))))
              · refine Wp.iload rfl dX12_bridge_116 ?_
                refine Wp.if_ne (tgt := 152) dX12_bridge_118 (by decide) (by first | omega | exact bI_R _ | exact cmp_R _ _ | assumption) (fun c118 => ?_) (fun c118 => ?_)
                · refine Wp.iinc (ls' := [_, _, _, _, _, _, _, _, _, _]) rfl dX12_bridge_152 (by decide) rfl ?_
                  refine Wp.goto (tgt := 49) dX12_bridge_155 (by decide) ?_
                  first | exact ih (k + 1) _ _ _ _ _ _ _ (by omega) (by omega) e0 (hstep.trans (if_neg (fun q => c62 q.1))) | exact ih (k + 1) _ _ _ _ _ _ _ (by omega) (by omega) (e0.tr hK) (hstep.trans (if_pos ⟨c62f (), by omega, Or.inl (by omega)⟩)) | exact ih (k + 1) _ _ _ _ _ _ _ (by omega) (by omega) (e0.tr hK) (hstep.trans (if_pos ⟨c62f (), by omega, Or.inr (Or.inl (by omega))⟩)) | exact ih (k + 1) _ _ _ _ _ _ _ (by omega) (by omega) (e0.tr hK) (hstep.trans (if_pos ⟨c62f (), by omega, Or.inr (Or.inr ⟨by omega, by omega⟩)⟩)) | exact ih (k + 1) _ _ _ _ _ _ _ (by omega) (by omega) (e0.tr hK) (hstep.trans (if_neg (fun q => absurd q.2 (by omega))))
                · refine Wp.aload_n rfl dX12_bridge_121 ?_
                  refine Wp.gi (kz := 24) rfl dX12_bridge_122 fkX12_238 (by first | rfl | exact kd_b0 _ | exact kd_b1 _ | exact kd_b2 _ | exact kd_b3 _ | exact kd_b4 _ | exact kd_b5 _ | exact kd_b6 _) (by omega) ?_
                  refine Wp.iload rfl dX12_bridge_125 ?_
                  refine Wp.icmp_le (tgt := 152) dX12_bridge_127 (by decide) (by first | omega | exact bI_R _ | exact cmp_R _ _ | assumption) (by first | omega | exact bI_R _ | exact cmp_R _ _ | assumption) (fun c127 => ?_) (fun c127 => ?_)
                  · refine Wp.iinc (ls' := [_, _, _, _, _, _, _, _, _, _]) rfl dX12_bridge_152 (by decide) rfl ?_
                    refine Wp.goto (tgt := 49) dX12_bridge_155 (by decide) ?_
                    first | exact ih (k + 1) _ _ _ _ _ _ _ (by omega) (by omega) e0 (hstep.trans (if_neg (fun q => c62 q.1))) | exact ih (k + 1) _ _ _ _ _ _ _ (by omega) (by omega) (e0.tr hK) (hstep.trans (if_pos ⟨c62f (), by omega, Or.inl (by omega)⟩)) | exact ih (k + 1) _ _ _ _ _ _ _ (by omega) (by omega) (e0.tr hK) (hstep.trans (if_pos ⟨c62f (), by omega, Or.inr (Or.inl (by omega))⟩)) | exact ih (k + 1) _ _ _ _ _ _ _ (by omega) (by omega) (e0.tr hK) (hstep.trans (if_pos ⟨c62f (), by omega, Or.inr (Or.inr ⟨by omega, by omega⟩)⟩)) | exact ih (k + 1) _ _ _ _ _ _ _ (by omega) (by omega) (e0.tr hK) (hstep.trans (if_neg (fun q => absurd q.2 (by omega))))
                  · refine Wp.iload rfl dX12_bridge_130 ?_
                    refine Wp.istore (ls' := [_, _, _, _, _, _, _, _, _, _]) dX12_bridge_132 (by decide) rfl ?_
                    have hb3 := hb.2 (by omega)
                    refine Wp.aload_n rfl dX12_bridge_134 ?_
                    refine Wp.gi (kz := 22) rfl dX12_bridge_135 fkX12_235 (by first | rfl | exact kd_b0 _ | exact kd_b1 _ | exact kd_b2 _ | exact kd_b3 _ | exact kd_b4 _ | exact kd_b5 _ | exact kd_b6 _) (by omega) ?_
                    rw [hb3.1]
                    refine Wp.istore (ls' := [_, _, _, _, _, _, _, _, _, _]) dX12_bridge_138 (by decide) rfl ?_
                    refine Wp.aload_n rfl dX12_bridge_140 ?_
                    refine Wp.gi (kz := 23) rfl dX12_bridge_141 fkX12_232 (by first | rfl | exact kd_b0 _ | exact kd_b1 _ | exact kd_b2 _ | exact kd_b3 _ | exact kd_b4 _ | exact kd_b5 _ | exact kd_b6 _) (by omega) ?_
                    rw [hb3.2.1]
                    refine Wp.istore (ls' := [_, _, _, _, _, _, _, _, _, _]) dX12_bridge_144 (by decide) rfl ?_
                    refine Wp.aload_n rfl dX12_bridge_146 ?_
                    refine Wp.gi (kz := 24) rfl dX12_bridge_147 fkX12_238 (by first | rfl | exact kd_b0 _ | exact kd_b1 _ | exact kd_b2 _ | exact kd_b3 _ | exact kd_b4 _ | exact kd_b5 _ | exact kd_b6 _) (by omega) ?_
                    rw [hb3.2.2]
                    refine Wp.istore (ls' := [_, _, _, _, _, _, _, _, _, _]) dX12_bridge_150 (by decide) rfl ?_
                    refine Wp.iinc (ls' := [_, _, _, _, _, _, _, _, _, _]) rfl dX12_bridge_152 (by decide) rfl ?_
                    refine Wp.goto (tgt := 49) dX12_bridge_155 (by decide) ?_
                    first | exact ih (k + 1) _ _ _ _ _ _ _ (by omega) (by omega) e0 (hstep.trans (if_neg (fun q => c62 q.1))) | exact ih (k + 1) _ _ _ _ _ _ _ (by omega) (by omega) (e0.tr hK) (hstep.trans (if_pos ⟨c62f (), by omega, Or.inl (by omega)⟩)) | exact ih (k + 1) _ _ _ _ _ _ _ (by omega) (by omega) (e0.tr hK) (hstep.trans (if_pos ⟨c62f (), by omega, Or.inr (Or.inl (by omega))⟩)) | exact ih (k + 1) _ _ _ _ _ _ _ (by omega) (by omega) (e0.tr hK) (hstep.trans (if_pos ⟨c62f (), by omega, Or.inr (Or.inr ⟨by omega, by omega⟩)⟩)) | exact ih (k + 1) _ _ _ _ _ _ _ (by omega) (by omega) (e0.tr hK) (hstep.trans (if_neg (fun q => absurd q.2 (by omega))))
          · refine Wp.iconst dX12_bridge_81 ?_
            refine Wp.goto (tgt := 109) dX12_bridge_82 (by decide) ?_
            refine Wp.istore (ls' := [_, _, _, _, _, _, _, _, _, _]) dX12_bridge_109 (by decide) rfl ?_
            refine Wp.iload rfl dX12_bridge_111 ?_
            refine Wp.if_gt (tgt := 130) dX12_bridge_113 (by decide) (by first | omega | exact bI_R _ | exact cmp_R _ _ | assumption) (fun c113 => ?_) (fun c113 => ?_)
            · refine Wp.iload rfl dX12_bridge_130 ?_
              refine Wp.istore (ls' := [_, _, _, _, _, _, _, _, _, _]) dX12_bridge_132 (by decide) rfl ?_
              have hb3 := hb.2 (by omega)
              refine Wp.aload_n rfl dX12_bridge_134 ?_
              refine Wp.gi (kz := 22) rfl dX12_bridge_135 fkX12_235 (by first | rfl | exact kd_b0 _ | exact kd_b1 _ | exact kd_b2 _ | exact kd_b3 _ | exact kd_b4 _ | exact kd_b5 _ | exact kd_b6 _) (by omega) ?_
              rw [hb3.1]
              refine Wp.istore (ls' := [_, _, _, _, _, _, _, _, _, _]) dX12_bridge_138 (by decide) rfl ?_
              refine Wp.aload_n rfl dX12_bridge_140 ?_
              refine Wp.gi (kz := 23) rfl dX12_bridge_141 fkX12_232 (by first | rfl | exact kd_b0 _ | exact kd_b1 _ | exact kd_b2 _ | exact kd_b3 _ | exact kd_b4 _ | exact kd_b5 _ | exact kd_b6 _) (by omega) ?_
              rw [hb3.2.1]
              refine Wp.istore (ls' := [_, _, _, _, _, _, _, _, _, _]) dX12_bridge_144 (by decide) rfl ?_
              refine Wp.aload_n rfl dX12_bridge_146 ?_
              refine Wp.gi (kz := 24) rfl dX12_bridge_147 fkX12_238 (by first | rfl | exact kd_b0 _ | exact kd_b1 _ | exact kd_b2 _ | exact kd_b3 _ | exact kd_b4 _ | exact kd_b5 _ | exact kd_b6 _) (by omega) ?_
              rw [hb3.2.2]
              refine Wp.istore (ls' := [_, _, _, _, _, _, _, _, _, _]) dX12_bridge_150 (by decide) rfl ?_
              refine Wp.iinc (ls' := [_, _, _, _, _, _, _, _, _, _]) rfl dX12_bridge_152 (by decide) rfl ?_
              refine Wp.goto (tgt := 49) dX12_bridge_155 (by decide) ?_
              first | exact ih (k + 1) _ _ _ _ _ _ _ (by omega) (by omega) e0 (hstep.trans (if_neg (fun q => c62 q.1))) | exact ih (k + 1) _ _ _ _ _ _ _ (by omega) (by omega) (e0.tr hK) (hstep.trans (if_pos ⟨c62f (), by omega, Or.inl (by omega)⟩)) | exact ih (k + 1) _ _ _ _ _ _ _ (by omega) (by omega) (e0.tr hK) (hstep.trans (if_pos ⟨c62f (), by omega, Or.inr (Or.inl (by omega))⟩)) | exact ih (k + 1) _ _ _ _ _ _ _ (by omega) (by omega) (e0.tr hK) (hstep.trans (if_pos ⟨c62f (), by omega, Or.inr (Or.inr ⟨by omega, by omega⟩)⟩)) | exact ih (k + 1) _ _ _ _ _ _ _ (by omega) (by omega) (e0.tr hK) (hstep.trans (if_neg (fun q => absurd q.2 (by omega))))
            · refine Wp.iload rfl dX12_bridge_116 ?_
              refine Wp.if_ne (tgt := 152) dX12_bridge_118 (by decide) (by first | omega | exact bI_R _ | exact cmp_R _ _ | assumption) (fun c118 => ?_) (fun c118 => ?_)
              · refine Wp.iinc (ls' := [_, _, _, _, _, _, _, _, _, _]) rfl dX12_bridge_152 (by decide) rfl ?_
                refine Wp.goto (tgt := 49) dX12_bridge_155 (by decide) ?_
                first | exact ih (k + 1) _ _ _ _ _ _ _ (by omega) (by omega) e0 (hstep.trans (if_neg (fun q => c62 q.1))) | exact ih (k + 1) _ _ _ _ _ _ _ (by omega) (by omega) (e0.tr hK) (hstep.trans (if_pos ⟨c62f (), by omega, Or.inl (by omega)⟩)) | exact ih (k + 1) _ _ _ _ _ _ _ (by omega) (by omega) (e0.tr hK) (hstep.trans (if_pos ⟨c62f (), by omega, Or.inr (Or.inl (by omega))⟩)) | exact ih (k + 1) _ _ _ _ _ _ _ (by omega) (by omega) (e0.tr hK) (hstep.trans (if_pos ⟨c62f (), by omega, Or.inr (Or.inr ⟨by omega, by omega⟩)⟩)) | exact ih (k + 1) _ _ _ _ _ _ _ (by omega) (by omega) (e0.tr hK) (hstep.trans (if_neg (fun q => absurd q.2 (by omega))))
              · refine Wp.aload_n rfl dX12_bridge_121 ?_
                refine Wp.gi (kz := 24) rfl dX12_bridge_122 fkX12_238 (by first | rfl | exact kd_b0 _ | exact kd_b1 _ | exact kd_b2 _ | exact kd_b3 _ | exact kd_b4 _ | exact kd_b5 _ | exact kd_b6 _) (by omega) ?_
                refine Wp.iload rfl dX12_bridge_125 ?_
                refine Wp.icmp_le (tgt := 152) dX12_bridge_127 (by decide) (by first | omega | exact bI_R _ | exact cmp_R _ _ | assumption) (by first | omega | exact bI_R _ | exact cmp_R _ _ | assumption) (fun c127 => ?_) (fun c127 => ?_)
                · refine Wp.iinc (ls' := [_, _, _, _, _, _, _, _, _, _]) rfl dX12_bridge_152 (by decide) rfl ?_
                  refine Wp.goto (tgt := 49) dX12_bridge_155 (by decide) ?_
                  first | exact ih (k + 1) _ _ _ _ _ _ _ (by omega) (by omega) e0 (hstep.trans (if_neg (fun q => c62 q.1))) | exact ih (k + 1) _ _ _ _ _ _ _ (by omega) (by omega) (e0.tr hK) (hstep.trans (if_pos ⟨c62f (), by omega, Or.inl (by omega)⟩)) | exact ih (k + 1) _ _ _ _ _ _ _ (by omega) (by omega) (e0.tr hK) (hstep.trans (if_pos ⟨c62f (), by omega, Or.inr (Or.inl (by omega))⟩)) | exact ih (k + 1) _ _ _ _ _ _ _ (by omega) (by omega) (e0.tr hK) (hstep.trans (if_pos ⟨c62f (), by omega, Or.inr (Or.inr ⟨by omega, by omega⟩)⟩)) | exact ih (k + 1) _ _ _ _ _ _ _ (by omega) (by omega) (e0.tr hK) (hstep.trans (if_neg (fun q => absurd q.2 (by omega))))
                · refine Wp.iload rfl dX12_bridge_130 ?_
                  refine Wp.istore (ls' := [_, _, _, _, _, _, _, _, _, _]) dX12_bridge_132 (by decide) rfl ?_
                  have hb3 := hb.2 (by omega)
                  refine Wp.aload_n rfl dX12_bridge_134 ?_
                  refine Wp.gi (kz := 22) rfl dX12_bridge_135 fkX12_235 (by first | rfl | exact kd_b0 _ | exact kd_b1 _ | exact kd_b2 _ | exact kd_b3 _ | exact kd_b4 _ | exact kd_b5 _ | exact kd_b6 _) (by omega) ?_
                  rw [hb3.1]
                  refine Wp.istore (ls' := [_, _, _, _, _, _, _, _, _, _]) dX12_bridge_138 (by decide) rfl ?_
                  refine Wp.aload_n rfl dX12_bridge_140 ?_
                  refine Wp.gi (kz := 23) rfl dX12_bridge_141 fkX12_232 (by first | rfl | exact kd_b0 _ | exact kd_b1 _ | exact kd_b2 _ | exact kd_b3 _ | exact kd_b4 _ | exact kd_b5 _ | exact kd_b6 _) (by omega) ?_
                  rw [hb3.2.1]
                  refine Wp.istore (ls' := [_, _, _, _, _, _, _, _, _, _]) dX12_bridge_144 (by decide) rfl ?_
                  refine Wp.aload_n rfl dX12_bridge_146 ?_
                  refine Wp.gi (kz := 24) rfl dX12_bridge_147 fkX12_238 (by first | rfl | exact kd_b0 _ | exact kd_b1 _ | exact kd_b2 _ | exact kd_b3 _ | exact kd_b4 _ | exact kd_b5 _ | exact kd_b6 _) (by omega) ?_
                  rw [hb3.2.2]
                  refine Wp.istore (ls' := [_, _, _, _, _, _, _, _, _, _]) dX12_bridge_150 (by decide) rfl ?_
                  refine Wp.iinc (ls' := [_, _, _, _, _, _, _, _, _, _]) rfl dX12_bridge_152 (by decide) rfl ?_
                  refine Wp.goto (tgt := 49) dX12_bridge_155 (by decide) ?_
                  first | exact ih (k + 1) _ _ _ _ _ _ _ (by omega) (by omega) e0 (hstep.trans (if_neg (fun q => c62 q.1))) | exact ih (k + 1) _ _ _ _ _ _ _ (by omega) (by omega) (e0.tr hK) (hstep.trans (if_pos ⟨c62f (), by omega, Or.inl (by omega)⟩)) | exact ih (k + 1) _ _ _ _ _ _ _ (by omega) (by omega) (e0.tr hK) (hstep.trans (if_pos ⟨c62f (), by omega, Or.inr (Or.inl (by omega))⟩)) | exact ih (k + 1) _ _ _ _ _ _ _ (by omega) (by omega) (e0.tr hK) (hstep.trans (if_pos ⟨c62f (), by omega, Or.inr (Or.inr ⟨by omega, by omega⟩)⟩)) | exact ih (k + 1) _ _ _ _ _ _ _ (by omega) (by omega) (e0.tr hK) (hstep.trans (if_neg (fun q => absurd q.2 (by omega))))
  refine Wp.iload_n rfl dX12_bridge_0 ?_
  refine Wp.callS (As := [_]) (ls0 := [_]) (bd := (0, 0)) (bd' := (0, 0)) dX12_bridge_1 kmX12_isTongue lkX12_147 (by decide) (by decide) (Nat.le_of_ble_eq_true rfl) rfl rfl (Nat.le_of_ble_eq_true rfl) rfl ?_
  refine ct_X12_isTongue (by omega) ?_
  show Wp _ _ _ (_ :: _) _ _ _
  refine Wp.if_eqB (tgt := 21) dX12_bridge_4 (by decide) (fun c4 => ?_) (fun c4 => ?_)
  · refine Wp.sipush rfl dX12_bridge_21 ?_
    refine Wp.ireturn dX12_bridge_24 rfl ?_
    first | (exfalso; omega) | (exact qI (hq _ (Eqv.rf I)) (by unfold aBridge; (repeat' split) <;> first | rfl | (exfalso; omega)))
  · refine Wp.iload_n rfl dX12_bridge_7 ?_
    refine Wp.callS (As := [_]) (ls0 := [_]) (bd := (0, 0)) (bd' := (0, 0)) dX12_bridge_8 kmX12_isWord lkX12_182 (by decide) (by decide) (Nat.le_of_ble_eq_true rfl) rfl rfl (Nat.le_of_ble_eq_true rfl) rfl ?_
    refine ct_X12_isWord (by omega) ?_
    show Wp _ _ _ (_ :: _) _ _ _
    refine Wp.if_eqB (tgt := 21) dX12_bridge_11 (by decide) (fun c11 => ?_) (fun c11 => ?_)
    · refine Wp.sipush rfl dX12_bridge_21 ?_
      refine Wp.ireturn dX12_bridge_24 rfl ?_
      first | (exfalso; omega) | (exact qI (hq _ (Eqv.rf I)) (by unfold aBridge; (repeat' split) <;> first | rfl | (exfalso; omega)))
    · refine Wp.iload_n rfl dX12_bridge_14 ?_
      refine Wp.callS (As := [_]) (ls0 := [_]) (bd := (0, 0)) (bd' := (0, 0)) dX12_bridge_15 kmX12_isTongue lkX12_147 (by decide) (by decide) (Nat.le_of_ble_eq_true rfl) rfl rfl (Nat.le_of_ble_eq_true rfl) rfl ?_
      refine ct_X12_isTongue (by omega) ?_
      show Wp _ _ _ (_ :: _) _ _ _
      refine Wp.if_neB (tgt := 25) dX12_bridge_18 (by decide) (fun c18 => ?_) (fun c18 => ?_)
      · refine Wp.iload_n rfl dX12_bridge_25 ?_
        refine Wp.iload_n rfl dX12_bridge_26 ?_
        refine Wp.icmp_ne (tgt := 34) dX12_bridge_27 (by decide) (by first | omega | exact bI_R _ | exact cmp_R _ _ | assumption) (by first | omega | exact bI_R _ | exact cmp_R _ _ | assumption) (fun c27 => ?_) (fun c27 => ?_)
        · refine Wp.iconst dX12_bridge_34 ?_
          refine Wp.istore (ls' := [_, _, _, _, _, _, _, _, _, _]) dX12_bridge_35 (by decide) rfl ?_
          refine Wp.iconst dX12_bridge_37 ?_
          refine Wp.istore (ls' := [_, _, _, _, _, _, _, _, _, _]) dX12_bridge_38 (by decide) rfl ?_
          refine Wp.iconst dX12_bridge_40 ?_
          refine Wp.istore (ls' := [_, _, _, _, _, _, _, _, _, _]) dX12_bridge_41 (by decide) rfl ?_
          refine Wp.iconst dX12_bridge_43 ?_
          refine Wp.istore (ls' := [_, _, _, _, _, _, _, _, _, _]) dX12_bridge_44 (by decide) rfl ?_
          refine Wp.iconst dX12_bridge_46 ?_
          refine Wp.istore (ls' := [_, _, _, _, _, _, _, _, _, _]) dX12_bridge_47 (by decide) rfl ?_
          exact lp ⟨by omega, by omega, by omega, by omega⟩ 4 0 _ _ _ _ _ _ _ (by omega) (by omega) (Eqv.rf I) rfl
        · refine Wp.sipush rfl dX12_bridge_30 ?_
          refine Wp.ireturn dX12_bridge_33 rfl ?_
          first | (exfalso; omega) | (exact qI (hq _ (Eqv.rf I)) (by unfold aBridge; (repeat' split) <;> first | rfl | (exfalso; omega)))
      · refine Wp.sipush rfl dX12_bridge_21 ?_
        refine Wp.ireturn dX12_bridge_24 rfl ?_
        first | (exfalso; omega) | (exact qI (hq _ (Eqv.rf I)) (by unfold aBridge; (repeat' split) <;> first | rfl | (exfalso; omega)))
end

