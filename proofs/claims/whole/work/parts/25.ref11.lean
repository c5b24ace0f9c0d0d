/-! ===== the reference: alike; chains ===== -/
theorem alk_f {A W B V : Int → Int} {a w b v : Int} {k : Nat} (h : alk A W B V a w b v k = false) (hn : ¬ ((A k = a ∧ W k = w ∧ B k = b ∧ V k = v) ∨ (A k = b ∧ W k = v ∧ B k = a ∧ V k = w))) : alk A W B V a w b v (k + 1) = false := by
  unfold alk at *
  simp only [anyB, h, Bool.false_or]
  exact decide_eq_false hn
theorem alk_t {A W B V : Int → Int} {a w b v : Int} {k N : Nat} (hk : k < N) (h : (A k = a ∧ W k = w ∧ B k = b ∧ V k = v) ∨ (A k = b ∧ W k = v ∧ B k = a ∧ V k = w)) : alk A W B V a w b v N = true := by
  unfold alk
  rw [anyB_iff]
  exact ⟨k, hk, decide_eq_true h⟩
section
variable {I : Nat → Int → Int} {L : Nat → Int → BitVec 64} {R : Nat → Int → Option Nat} {n : Nat} {m : Mm} {Q : Option AV → Mm → Prop}
set_option maxHeartbeats 1000000 in
theorem ct_X12_alike {a w b v : Int} (hn : 57 ≤ n) (hFx : Fx R) (ha : inR a) (hw : inR w) (hb : inR b) (hv : inR v) (hK : AkW (I 43) (I 44) (I 45) (I 46) (I 32 25)) (hq : Q (some (vi (aAlike (I 43) (I 44) (I 45) (I 46) (I 32 25) a w b v))) (if okAlike (I 43) (I 44) (I 45) (I 46) (I 32 25) a w b v then up (up (up (up (up I 43 (I 32 25) a) 44 (I 32 25) w) 45 (I 32 25) b) 46 (I 32 25) v) 32 25 (I 32 25 + 1) else I, L, R, n)) : Wp mX12_alike 0 [some (vr (some 32)), some (vi a), some (vi w), some (vi b), some (vi v), none, none, none] [] (I, L, R, n) (0, 0) Q := by
  have k0 := hK.1
  have k1 := hK.2.1
  have lp : ∀ (hok : tgP a ∧ wdP w ∧ tgP b ∧ wdP v) (hab : a ≠ b) , ∀ (tt k : Nat) (z : Int) (x6 : Option AV) (x7 : Option AV), k + tt = (I 32 25).toNat → z = k → alk (I 43) (I 44) (I 45) (I 46) a w b v k = false → Wp mX12_alike 45 [some (vr (some 32)), some (vi a), some (vi w), some (vi b), some (vi v), some (vi z), x6, x7] [] (I, L, R, n) (0, 0) Q := by
    intro hok hab
    intro tt
    induction tt with
    | zero =>
      intro k z x6 x7 hkt hz e0
      obtain rfl : k = (I 32 25).toNat := by omega
      refine Wp.iload rfl dX12_alike_45 ?_
      refine Wp.aload_n rfl dX12_alike_47 ?_
      refine Wp.gi (kz := 25) rfl dX12_alike_48 fkX12_159 (by first | rfl | exact kd_b0 _ | exact kd_b1 _ | exact kd_b2 _ | exact kd_b3 _ | exact kd_b4 _ | exact kd_b5 _ | exact kd_b6 _) (by omega) ?_
      refine Wp.icmp_ge (tgt := 178) dX12_alike_51 (by decide) (by first | omega | exact bI_R _ | exact cmp_R _ _ | assumption) (by first | omega | exact bI_R _ | exact cmp_R _ _ | assumption) (fun c51 => ?_) (fun c51 => ?_)
      · refine Wp.aload_n rfl dX12_alike_178 ?_
        refine Wp.gi (kz := 25) rfl dX12_alike_179 fkX12_159 (by first | rfl | exact kd_b0 _ | exact kd_b1 _ | exact kd_b2 _ | exact kd_b3 _ | exact kd_b4 _ | exact kd_b5 _ | exact kd_b6 _) (by omega) ?_
        refine Wp.bipush rfl dX12_alike_182 ?_
        refine Wp.icmp_ne (tgt := 191) dX12_alike_184 (by decide) (by first | omega | exact bI_R _ | exact cmp_R _ _ | assumption) (by first | omega | exact bI_R _ | exact cmp_R _ _ | assumption) (fun c184 => ?_) (fun c184 => ?_)
        · refine Wp.aload_n rfl dX12_alike_191 ?_
          refine Wp.gr (kz := 26) rfl dX12_alike_192 fkX12_56 (by first | rfl | exact kd_b0 _ | exact kd_b1 _ | exact kd_b2 _ | exact kd_b3 _ | exact kd_b4 _ | exact kd_b5 _ | exact kd_b6 _) (by omega) (by first | exact hFx _ 26 _ rfl | assumption | exact hBk.1 | exact hBk.2.1 | exact hBk.2.2.1 | exact hBk.2.2.2.1 | exact hBk.2.2.2.2.1 | exact hBk.2.2.2.2.2) ?_
          refine Wp.aload_n rfl dX12_alike_195 ?_
          refine Wp.gi (kz := 25) rfl dX12_alike_196 fkX12_159 (by first | rfl | exact kd_b0 _ | exact kd_b1 _ | exact kd_b2 _ | exact kd_b3 _ | exact kd_b4 _ | exact kd_b5 _ | exact kd_b6 _) (by omega) ?_
          refine Wp.iload_n rfl dX12_alike_199 ?_
          refine Wp.iastore dX12_alike_200 (by first | rfl | exact kd_b0 _ | exact kd_b1 _ | exact kd_b2 _ | exact kd_b3 _ | exact kd_b4 _ | exact kd_b5 _ | exact kd_b6 _) (by omega) (by omega) (by omega) ?_
          refine Wp.aload_n rfl dX12_alike_201 ?_
          refine Wp.gr (kz := 27) rfl dX12_alike_202 fkX12_59 (by first | rfl | exact kd_b0 _ | exact kd_b1 _ | exact kd_b2 _ | exact kd_b3 _ | exact kd_b4 _ | exact kd_b5 _ | exact kd_b6 _) (by omega) (by first | exact hFx _ 27 _ rfl | assumption | exact hBk.1 | exact hBk.2.1 | exact hBk.2.2.1 | exact hBk.2.2.2.1 | exact hBk.2.2.2.2.1 | exact hBk.2.2.2.2.2) ?_
          try simp (disch := omega) only [up_same, up_o, up_k]
          refine Wp.aload_n rfl dX12_alike_205 ?_
          refine Wp.gi (kz := 25) rfl dX12_alike_206 fkX12_159 (by first | rfl | exact kd_b0 _ | exact kd_b1 _ | exact kd_b2 _ | exact kd_b3 _ | exact kd_b4 _ | exact kd_b5 _ | exact kd_b6 _) (by omega) ?_
          try simp (disch := omega) only [up_same, up_o, up_k]
          refine Wp.iload_n rfl dX12_alike_209 ?_
          refine Wp.iastore dX12_alike_210 (by first | rfl | exact kd_b0 _ | exact kd_b1 _ | exact kd_b2 _ | exact kd_b3 _ | exact kd_b4 _ | exact kd_b5 _ | exact kd_b6 _) (by omega) (by omega) (by omega) ?_
          refine Wp.aload_n rfl dX12_alike_211 ?_
          refine Wp.gr (kz := 28) rfl dX12_alike_212 fkX12_62 (by first | rfl | exact kd_b0 _ | exact kd_b1 _ | exact kd_b2 _ | exact kd_b3 _ | exact kd_b4 _ | exact kd_b5 _ | exact kd_b6 _) (by omega) (by first | exact hFx _ 28 _ rfl | assumption | exact hBk.1 | exact hBk.2.1 | exact hBk.2.2.1 | exact hBk.2.2.2.1 | exact hBk.2.2.2.2.1 | exact hBk.2.2.2.2.2) ?_
          try simp (disch := omega) only [up_same, up_o, up_k]
          refine Wp.aload_n rfl dX12_alike_215 ?_
          refine Wp.gi (kz := 25) rfl dX12_alike_216 fkX12_159 (by first | rfl | exact kd_b0 _ | exact kd_b1 _ | exact kd_b2 _ | exact kd_b3 _ | exact kd_b4 _ | exact kd_b5 _ | exact kd_b6 _) (by omega) ?_
          try simp (disch := omega) only [up_same, up_o, up_k]
          refine Wp.iload_n rfl dX12_alike_219 ?_
          refine Wp.iastore dX12_alike_220 (by first | rfl | exact kd_b0 _ | exact kd_b1 _ | exact kd_b2 _ | exact kd_b3 _ | exact kd_b4 _ | exact kd_b5 _ | exact kd_b6 _) (by omega) (by omega) (by omega) ?_
          refine Wp.aload_n rfl dX12_alike_221 ?_
          refine Wp.gr (kz := 29) rfl dX12_alike_222 fkX12_65 (by first | rfl | exact kd_b0 _ | exact kd_b1 _ | exact kd_b2 _ | exact kd_b3 _ | exact kd_b4 _ | exact kd_b5 _ | exact kd_b6 _) (by omega) (by first | exact hFx _ 29 _ rfl | assumption | exact hBk.1 | exact hBk.2.1 | exact hBk.2.2.1 | exact hBk.2.2.2.1 | exact hBk.2.2.2.2.1 | exact hBk.2.2.2.2.2) ?_
          try simp (disch := omega) only [up_same, up_o, up_k]
          refine Wp.aload_n rfl dX12_alike_225 ?_
          refine Wp.gi (kz := 25) rfl dX12_alike_226 fkX12_159 (by first | rfl | exact kd_b0 _ | exact kd_b1 _ | exact kd_b2 _ | exact kd_b3 _ | exact kd_b4 _ | exact kd_b5 _ | exact kd_b6 _) (by omega) ?_
          try simp (disch := omega) only [up_same, up_o, up_k]
          refine Wp.iload rfl dX12_alike_229 ?_
          refine Wp.iastore dX12_alike_231 (by first | rfl | exact kd_b0 _ | exact kd_b1 _ | exact kd_b2 _ | exact kd_b3 _ | exact kd_b4 _ | exact kd_b5 _ | exact kd_b6 _) (by omega) (by omega) (by omega) ?_
          refine Wp.aload_n rfl dX12_alike_232 ?_
          first | refine Wp.dupR dX12_alike_233 ?_ | refine Wp.dupI dX12_alike_233 ?_
          refine Wp.gi (kz := 25) rfl dX12_alike_234 fkX12_159 (by first | rfl | exact kd_b0 _ | exact kd_b1 _ | exact kd_b2 _ | exact kd_b3 _ | exact kd_b4 _ | exact kd_b5 _ | exact kd_b6 _) (by omega) ?_
          try simp (disch := omega) only [up_same, up_o, up_k]
          refine Wp.iconst dX12_alike_237 ?_
          refine Wp.iadd dX12_alike_238 ?_
          refine Wp.pi (kz := 25) rfl dX12_alike_239 fkX12_159 (Or.inl rfl) (Or.inl rfl) (by first | rfl | exact kd_b0 _ | exact kd_b1 _ | exact kd_b2 _ | exact kd_b3 _ | exact kd_b4 _ | exact kd_b5 _ | exact kd_b6 _) (by omega) ?_
          refine Wp.aload_n rfl dX12_alike_242 ?_
          refine Wp.gi (kz := 25) rfl dX12_alike_243 fkX12_159 (by first | rfl | exact kd_b0 _ | exact kd_b1 _ | exact kd_b2 _ | exact kd_b3 _ | exact kd_b4 _ | exact kd_b5 _ | exact kd_b6 _) (by omega) ?_
          try simp (disch := omega) only [up_same, up_o, up_k]
          refine Wp.ireturn dX12_alike_246 rfl ?_
          first | (exfalso; omega) | (first | exact qIM hq (by unfold aAlike; rw [if_pos hok, if_neg hab, if_neg (by rw [e0]; decide), if_pos (by omega)]) (if_neg (fun q => q.2.2 (by omega))).symm | exact qIM hq (by unfold aAlike; rw [if_pos hok, if_neg hab, if_neg (by rw [e0]; decide), if_neg (by omega)]) (if_pos ⟨hok, ⟨hab, by rw [e0]; decide⟩, by omega⟩).symm)
        · refine Wp.sipush rfl dX12_alike_187 ?_
          refine Wp.ireturn dX12_alike_190 rfl ?_
          first | (exfalso; omega) | (first | exact qIM hq (by unfold aAlike; rw [if_pos hok, if_neg hab, if_neg (by rw [e0]; decide), if_pos (by omega)]) (if_neg (fun q => q.2.2 (by omega))).symm | exact qIM hq (by unfold aAlike; rw [if_pos hok, if_neg hab, if_neg (by rw [e0]; decide), if_neg (by omega)]) (if_pos ⟨hok, ⟨hab, by rw [e0]; decide⟩, by omega⟩).symm)
      · exfalso; omega
    | succ tt ih =>
      intro k z x6 x7 hkt hz e0
      subst hz
      have hj := hK.2.2 k (by omega)
      have hUn : Unit → tgP a ∧ wdP w ∧ tgP b ∧ wdP v ∧ a ≠ b := fun _ => ⟨hok.1, hok.2.1, hok.2.2.1, hok.2.2.2, hab⟩
      refine Wp.iload rfl dX12_alike_45 ?_
      refine Wp.aload_n rfl dX12_alike_47 ?_
      refine Wp.gi (kz := 25) rfl dX12_alike_48 fkX12_159 (by first | rfl | exact kd_b0 _ | exact kd_b1 _ | exact kd_b2 _ | exact kd_b3 _ | exact kd_b4 _ | exact kd_b5 _ | exact kd_b6 _) (by omega) ?_
      refine Wp.icmp_ge (tgt := 178) dX12_alike_51 (by decide) (by first | omega | exact bI_R _ | exact cmp_R _ _ | assumption) (by first | omega | exact bI_R _ | exact cmp_R _ _ | assumption) (fun c51 => ?_) (fun c51 => ?_)
      · exfalso; omega
      · refine Wp.aload_n rfl dX12_alike_54 ?_
        refine Wp.gr (kz := 26) rfl dX12_alike_55 fkX12_56 (by first | rfl | exact kd_b0 _ | exact kd_b1 _ | exact kd_b2 _ | exact kd_b3 _ | exact kd_b4 _ | exact kd_b5 _ | exact kd_b6 _) (by omega) (by first | exact hFx _ 26 _ rfl | assumption | exact hBk.1 | exact hBk.2.1 | exact hBk.2.2.1 | exact hBk.2.2.2.1 | exact hBk.2.2.2.2.1 | exact hBk.2.2.2.2.2) ?_
        refine Wp.iload rfl dX12_alike_58 ?_
        refine Wp.iaload dX12_alike_60 (by first | rfl | exact kd_b0 _ | exact kd_b1 _ | exact kd_b2 _ | exact kd_b3 _ | exact kd_b4 _ | exact kd_b5 _ | exact kd_b6 _) (by omega) (by omega) (by omega) ?_
        refine Wp.iload_n rfl dX12_alike_61 ?_
        refine Wp.icmp_ne (tgt := 103) dX12_alike_62 (by decide) (by first | omega | exact bI_R _ | exact cmp_R _ _ | assumption) (by first | omega | exact bI_R _ | exact cmp_R _ _ | assumption) (fun c62 => ?_) (fun c62 => ?_)
        · refine Wp.iconst dX12_alike_103 ?_
          refine Wp.istore (ls' := [_, _, _, _, _, _, _, _]) dX12_alike_104 (by decide) rfl ?_
          refine Wp.aload_n rfl dX12_alike_106 ?_
          refine Wp.gr (kz := 26) rfl dX12_alike_107 fkX12_56 (by first | rfl | exact kd_b0 _ | exact kd_b1 _ | exact kd_b2 _ | exact kd_b3 _ | exact kd_b4 _ | exact kd_b5 _ | exact kd_b6 _) (by omega) (by first | exact hFx _ 26 _ rfl | assumption | exact hBk.1 | exact hBk.2.1 | exact hBk.2.2.1 | exact hBk.2.2.2.1 | exact hBk.2.2.2.2.1 | exact hBk.2.2.2.2.2) ?_
          refine Wp.iload rfl dX12_alike_110 ?_
          refine Wp.iaload dX12_alike_112 (by first | rfl | exact kd_b0 _ | exact kd_b1 _ | exact kd_b2 _ | exact kd_b3 _ | exact kd_b4 _ | exact kd_b5 _ | exact kd_b6 _) (by omega) (by omega) (by omega) ?_
          refine Wp.iload_n rfl dX12_alike_113 ?_
          refine Wp.icmp_ne (tgt := 155) dX12_alike_114 (by decide) (by first | omega | exact bI_R _ | exact cmp_R _ _ | assumption) (by first | omega | exact bI_R _ | exact cmp_R _ _ | assumption) (fun c114 => ?_) (fun c114 => ?_)
          · refine Wp.iconst dX12_alike_155 ?_
            refine Wp.istore (ls' := [_, _, _, _, _, _, _, _]) dX12_alike_156 (by decide) rfl ?_
            refine Wp.iload rfl dX12_alike_158 ?_
            refine Wp.if_ne (tgt := 168) dX12_alike_160 (by decide) (by first | omega | exact bI_R _ | exact cmp_R _ _ | assumption) (fun c160 => ?_) (fun c160 => ?_)
            · refine Wp.sipush rfl dX12_alike_168 ?_
              refine Wp.ireturn dX12_alike_171 rfl ?_
              first | (exfalso; omega) | (exact qIM hq (by unfold aAlike; rw [if_pos hok, if_neg hab, if_pos (alk_t (k := k) (by omega) (by omega))]) (if_neg (fun q => q.2.1.2 (alk_t (k := k) (by omega) (by omega)))).symm)
            · refine Wp.iload rfl dX12_alike_163 ?_
              refine Wp.if_eq (tgt := 172) dX12_alike_165 (by decide) (by first | omega | exact bI_R _ | exact cmp_R _ _ | assumption) (fun c165 => ?_) (fun c165 => ?_)
              · refine Wp.iinc (ls' := [_, _, _, _, _, _, _, _]) rfl dX12_alike_172 (by decide) rfl ?_
                refine Wp.goto (tgt := 45) dX12_alike_175 (by decide) ?_
                exact ih (k + 1) _ _ _ (by omega) (by omega) (alk_f e0 (by omega))
              · refine Wp.sipush rfl dX12_alike_168 ?_
                refine Wp.ireturn dX12_alike_171 rfl ?_
                first | (exfalso; omega) | (exact qIM hq (by unfold aAlike; rw [if_pos hok, if_neg hab, if_pos (alk_t (k := k) (by omega) (by omega))]) (if_neg (fun q => q.2.1.2 (alk_t (k := k) (by omega) (by omega)))).symm)
          · refine Wp.aload_n rfl dX12_alike_117 ?_
            refine Wp.gr (kz := 27) rfl dX12_alike_118 fkX12_59 (by first | rfl | exact kd_b0 _ | exact kd_b1 _ | exact kd_b2 _ | exact kd_b3 _ | exact kd_b4 _ | exact kd_b5 _ | exact kd_b6 _) (by omega) (by first | exact hFx _ 27 _ rfl | assumption | exact hBk.1 | exact hBk.2.1 | exact hBk.2.2.1 | exact hBk.2.2.2.1 | exact hBk.2.2.2.2.1 | exact hBk.2.2.2.2.2) ?_
            refine Wp.iload rfl dX12_alike_121 ?_
            refine Wp.iaload dX12_alike_123 (by first | rfl | exact kd_b0 _ | exact kd_b1 _ | exact kd_b2 _ | exact kd_b3 _ | exact kd_b4 _ | exact kd_b5 _ | exact kd_b6 _) (by omega) (by omega) (by omega) ?_
            refine Wp.iload rfl dX12_alike_124 ?_
            refine Wp.icmp_ne (tgt := 155) dX12_alike_126 (by decide) (by first | omega | exact bI_R _ | exact cmp_R _ _ | assumption) (by first | omega | exact bI_R _ | exact cmp_R _ _ | assumption) (fun c126 => ?_) (fun c126 => ?_)
            · refine Wp.iconst dX12_alike_155 ?_
              refine Wp.istore (ls' := [_, _, _, _, _, _, _, _]) dX12_alike_156 (by decide) rfl ?_
              refine Wp.iload rfl dX12_alike_158 ?_
              refine Wp.if_ne (tgt := 168) dX12_alike_160 (by decide) (by first | omega | exact bI_R _ | exact cmp_R _ _ | assumption) (fun c160 => ?_) (fun c160 => ?_)
              · refine Wp.sipush rfl dX12_alike_168 ?_
                refine Wp.ireturn dX12_alike_171 rfl ?_
                first | (exfalso; omega) | (exact qIM hq (by unfold aAlike; rw [if_pos hok, if_neg hab, if_pos (alk_t (k := k) (by omega) (by omega))]) (if_neg (fun q => q.2.1.2 (alk_t (k := k) (by omega) (by omega)))).symm)
              · refine Wp.iload rfl dX12_alike_163 ?_
                refine Wp.if_eq (tgt := 172) dX12_alike_165 (by decide) (by first | omega | exact bI_R _ | exact cmp_R _ _ | assumption) (fun c165 => ?_) (fun c165 => ?_)
                · refine Wp.iinc (ls' := [_, _, _, _, _, _, _, _]) rfl dX12_alike_172 (by decide) rfl ?_
                  refine Wp.goto (tgt := 45) dX12_alike_175 (by decide) ?_
                  exact ih (k + 1) _ _ _ (by omega) (by omega) (alk_f e0 (by omega))
                · refine Wp.sipush rfl dX12_alike_168 ?_
                  refine Wp.ireturn dX12_alike_171 rfl ?_
                  first | (exfalso; omega) | (exact qIM hq (by unfold aAlike; rw [if_pos hok, if_neg hab, if_pos (alk_t (k := k) (by omega) (by omega))]) (if_neg (fun q => q.2.1.2 (alk_t (k := k) (by omega) (by omega)))).symm)
            · refine Wp.aload_n rfl dX12_alike_129 ?_
              refine Wp.gr (kz := 28) rfl dX12_alike_130 fkX12_62 (by first | rfl | exact kd_b0 _ | exact kd_b1 _ | exact kd_b2 _ | exact kd_b3 _ | exact kd_b4 _ | exact kd_b5 _ | exact kd_b6 _) (by omega) (by first | exact hFx _ 28 _ rfl | assumption | exact hBk.1 | exact hBk.2.1 | exact hBk.2.2.1 | exact hBk.2.2.2.1 | exact hBk.2.2.2.2.1 | exact hBk.2.2.2.2.2) ?_
              refine Wp.iload rfl dX12_alike_133 ?_
              refine Wp.iaload dX12_alike_135 (by first | rfl | exact kd_b0 _ | exact kd_b1 _ | exact kd_b2 _ | exact kd_b3 _ | exact kd_b4 _ | exact kd_b5 _ | exact kd_b6 _) (by omega) (by omega) (by omega) ?_
              refine Wp.iload_n rfl dX12_alike_136 ?_
              refine Wp.icmp_ne (tgt := 155) dX12_alike_137 (by decide) (by first | omega | exact bI_R _ | exact cmp_R _ _ | assumption) (by first | omega | exact bI_R _ | exact cmp_R _ _ | assumption) (fun c137 => ?_) (fun c137 => ?_)
              · refine Wp.iconst dX12_alike_155 ?_
                refine Wp.istore (ls' := [_, _, _, _, _, _, _, _]) dX12_alike_156 (by decide) rfl ?_
                refine Wp.iload rfl dX12_alike_158 ?_
                refine Wp.if_ne (tgt := 168) dX12_alike_160 (by decide) (by first | omega | exact bI_R _ | exact cmp_R _ _ | assumption) (fun c160 => ?_) (fun c160 => ?_)
                · refine Wp.sipush rfl dX12_alike_168 ?_
                  refine Wp.ireturn dX12_alike_171 rfl ?_
                  first | (exfalso; omega) | (exact qIM hq (by unfold aAlike; rw [if_pos hok, if_neg hab, if_pos (alk_t (k := k) (by omega) (by omega))]) (if_neg (fun q => q.2.1.2 (alk_t (k := k) (by omega) (by omega)))).symm)
                · refine Wp.iload rfl dX12_alike_163 ?_
                  refine Wp.if_eq (tgt := 172) dX12_alike_165 (by decide) (by first | omega | exact bI_R _ | exact cmp_R _ _ | assumption) (fun c165 => ?_) (fun c165 => ?_)
                  · refine Wp.iinc (ls' := [_, _, _, _, _, _, _, _]) rfl dX12_alike_172 (by decide) rfl ?_
                    refine Wp.goto (tgt := 45) dX12_alike_175 (by decide) ?_
                    exact ih (k + 1) _ _ _ (by omega) (by omega) (alk_f e0 (by omega))
                  · refine Wp.sipush rfl dX12_alike_168 ?_
                    refine Wp.ireturn dX12_alike_171 rfl ?_
                    first | (exfalso; omega) | (exact qIM hq (by unfold aAlike; rw [if_pos hok, if_neg hab, if_pos (alk_t (k := k) (by omega) (by omega))]) (if_neg (fun q => q.2.1.2 (alk_t (k := k) (by omega) (by omega)))).symm)
              · refine Wp.aload_n rfl dX12_alike_140 ?_
                refine Wp.gr (kz := 29) rfl dX12_alike_141 fkX12_65 (by first | rfl | exact kd_b0 _ | exact kd_b1 _ | exact kd_b2 _ | exact kd_b3 _ | exact kd_b4 _ | exact kd_b5 _ | exact kd_b6 _) (by omega) (by first | exact hFx _ 29 _ rfl | assumption | exact hBk.1 | exact hBk.2.1 | exact hBk.2.2.1 | exact hBk.2.2.2.1 | exact hBk.2.2.2.2.1 | exact hBk.2.2.2.2.2) ?_
                refine Wp.iload rfl dX12_alike_144 ?_
                refine Wp.iaload dX12_alike_146 (by first | rfl | exact kd_b0 _ | exact kd_b1 _ | exact kd_b2 _ | exact kd_b3 _ | exact kd_b4 _ | exact kd_b5 _ | exact kd_b6 _) (by omega) (by omega) (by omega) ?_
                refine Wp.iload_n rfl dX12_alike_147 ?_
                refine Wp.icmp_ne (tgt := 155) dX12_alike_148 (by decide) (by first | omega | exact bI_R _ | exact cmp_R _ _ | assumption) (by first | omega | exact bI_R _ | exact cmp_R _ _ | assumption) (fun c148 => ?_) (fun c148 => ?_)
                · refine Wp.iconst dX12_alike_155 ?_
                  refine Wp.istore (ls' := [_, _, _, _, _, _, _, _]) dX12_alike_156 (by decide) rfl ?_
                  refine Wp.iload rfl dX12_alike_158 ?_
                  refine Wp.if_ne (tgt := 168) dX12_alike_160 (by decide) (by first | omega | exact bI_R _ | exact cmp_R _ _ | assumption) (fun c160 => ?_) (fun c160 => ?_)
                  · refine Wp.sipush rfl dX12_alike_168 ?_
                    refine Wp.ireturn dX12_alike_171 rfl ?_
                    first | (exfalso; omega) | (exact qIM hq (by unfold aAlike; rw [if_pos hok, if_neg hab, if_pos (alk_t (k := k) (by omega) (by omega))]) (if_neg (fun q => q.2.1.2 (alk_t (k := k) (by omega) (by omega)))).symm)
                  · refine Wp.iload rfl dX12_alike_163 ?_
                    refine Wp.if_eq (tgt := 172) dX12_alike_165 (by decide) (by first | omega | exact bI_R _ | exact cmp_R _ _ | assumption) (fun c165 => ?_) (fun c165 => ?_)
                    · refine Wp.iinc (ls' := [_, _, _, _, _, _, _, _]) rfl dX12_alike_172 (by decide) rfl ?_
                      refine Wp.goto (tgt := 45) dX12_alike_175 (by decide) ?_
                      exact ih (k + 1) _ _ _ (by omega) (by omega) (alk_f e0 (by omega))
                    · refine Wp.sipush rfl dX12_alike_168 ?_
                      refine Wp.ireturn dX12_alike_171 rfl ?_
                      first | (exfalso; omega) | (exact qIM hq (by unfold aAlike; rw [if_pos hok, if_neg hab, if_pos (alk_t (k := k) (by omega) (by omega))]) (if_neg (fun q => q.2.1.2 (alk_t (k := k) (by omega) (by omega)))).symm)
                · refine Wp.iconst dX12_alike_151 ?_
                  refine Wp.goto (tgt := 156) dX12_alike_152 (by decide) ?_
                  refine Wp.istore (ls' := [_, _, _, _, _, _, _, _]) dX12_alike_156 (by decide) rfl ?_
                  refine Wp.iload rfl dX12_alike_158 ?_
                  refine Wp.if_ne (tgt := 168) dX12_alike_160 (by decide) (by first | omega | exact bI_R _ | exact cmp_R _ _ | assumption) (fun c160 => ?_) (fun c160 => ?_)
                  · refine Wp.sipush rfl dX12_alike_168 ?_
                    refine Wp.ireturn dX12_alike_171 rfl ?_
                    first | (exfalso; omega) | (exact qIM hq (by unfold aAlike; rw [if_pos hok, if_neg hab, if_pos (alk_t (k := k) (by omega) (by omega))]) (if_neg (fun q => q.2.1.2 (alk_t (k := k) (by omega) (by omega)))).symm)
                  · refine Wp.iload rfl dX12_alike_163 ?_
                    refine Wp.if_eq (tgt := 172) dX12_alike_165 (by decide) (by first | omega | exact bI_R _ | exact cmp_R _ _ | assumption) (fun c165 => ?_) (fun c165 => ?_)
                    · refine Wp.iinc (ls' := [_, _, _, _, _, _, _, _]) rfl dX12_alike_172 (by decide) rfl ?_
                      refine Wp.goto (tgt := 45) dX12_alike_175 (by decide) ?_
                      exact ih (k + 1) _ _ _ (by omega) (by omega) (alk_f e0 (by omega))
                    · refine Wp.sipush rfl dX12_alike_168 ?_
                      refine Wp.ireturn dX12_alike_171 rfl ?_
                      first | (exfalso; omega) | (exact qIM hq (by unfold aAlike; rw [if_pos hok, if_neg hab, if_pos (alk_t (k := k) (by omega) (by omega))]) (if_neg (fun q => q.2.1.2 (alk_t (k := k) (by omega) (by omega)))).symm)
        · refine Wp.aload_n rfl dX12_alike_65 ?_
          refine Wp.gr (kz := 27) rfl dX12_alike_66 fkX12_59 (by first | rfl | exact kd_b0 _ | exact kd_b1 _ | exact kd_b2 _ | exact kd_b3 _ | exact kd_b4 _ | exact kd_b5 _ | exact kd_b6 _) (by omega) (by first | exact hFx _ 27 _ rfl | assumption | exact hBk.1 | exact hBk.2.1 | exact hBk.2.2.1 | exact hBk.2.2.2.1 | exact hBk.2.2.2.2.1 | exact hBk.2.2.2.2.2) ?_
          refine Wp.iload rfl dX12_alike_69 ?_
          refine Wp.iaload dX12_alike_71 (by first | rfl | exact kd_b0 _ | exact kd_b1 _ | exact kd_b2 _ | exact kd_b3 _ | exact kd_b4 _ | exact kd_b5 _ | exact kd_b6 _) (by omega) (by omega) (by omega) ?_
          refine Wp.iload_n rfl dX12_alike_72 ?_
          refine Wp.icmp_ne (tgt := 103) dX12_alike_73 (by decide) (by first | omega | exact bI_R _ | exact cmp_R _ _ | assumption) (by first | omega | exact bI_R _ | exact cmp_R _ _ | assumption) (fun c73 => ?_) (fun c73 => ?_)
          · refine Wp.iconst dX12_alike_103 ?_
            refine Wp.istore (ls' := [_, _, _, _, _, _, _, _]) dX12_alike_104 (by decide) rfl ?_
            refine Wp.aload_n rfl dX12_alike_106 ?_
            refine Wp.gr (kz := 26) rfl dX12_alike_107 fkX12_56 (by first | rfl | exact kd_b0 _ | exact kd_b1 _ | exact kd_b2 _ | exact kd_b3 _ | exact kd_b4 _ | exact kd_b5 _ | exact kd_b6 _) (by omega) (by first | exact hFx _ 26 _ rfl | assumption | exact hBk.1 | exact hBk.2.1 | exact hBk.2.2.1 | exact hBk.2.2.2.1 | exact hBk.2.2.2.2.1 | exact hBk.2.2.2.2.2) ?_
            refine Wp.iload rfl dX12_alike_110 ?_
            refine Wp.iaload dX12_alike_112 (by first | rfl | exact kd_b0 _ | exact kd_b1 _ | exact kd_b2 _ | exact kd_b3 _ | exact kd_b4 _ | exact kd_b5 _ | exact kd_b6 _) (by omega) (by omega) (by omega) ?_
            refine Wp.iload_n rfl dX12_alike_113 ?_
            refine Wp.icmp_ne (tgt := 155) dX12_alike_114 (by decide) (by first | omega | exact bI_R _ | exact cmp_R _ _ | assumption) (by first | omega | exact bI_R _ | exact cmp_R _ _ | assumption) (fun c114 => ?_) (fun c114 => ?_)
            · refine Wp.iconst dX12_alike_155 ?_
              refine Wp.istore (ls' := [_, _, _, _, _, _, _, _]) dX12_alike_156 (by decide) rfl ?_
              refine Wp.iload rfl dX12_alike_158 ?_
              refine Wp.if_ne (tgt := 168) dX12_alike_160 (by decide) (by first | omega | exact bI_R _ | exact cmp_R _ _ | assumption) (fun c160 => ?_) (fun c160 => ?_)
              · refine Wp.sipush rfl dX12_alike_168 ?_
                refine Wp.ireturn dX12_alike_171 rfl ?_
                first | (exfalso; omega) | (exact qIM hq (by unfold aAlike; rw [if_pos hok, if_neg hab, if_pos (alk_t (k := k) (by omega) (by omega))]) (if_neg (fun q => q.2.1.2 (alk_t (k := k) (by omega) (by omega)))).symm)
              · refine Wp.iload rfl dX12_alike_163 ?_
                refine Wp.if_eq (tgt := 172) dX12_alike_165 (by decide) (by first | omega | exact bI_R _ | exact cmp_R _ _ | assumption) (fun c165 => ?_) (fun c165 => ?_)
                · refine Wp.iinc (ls' := [_, _, _, _, _, _, _, _]) rfl dX12_alike_172 (by decide) rfl ?_
                  refine Wp.goto (tgt := 45) dX12_alike_175 (by decide) ?_
                  exact ih (k + 1) _ _ _ (by omega) (by omega) (alk_f e0 (by omega))
                · refine Wp.sipush rfl dX12_alike_168 ?_
                  refine Wp.ireturn dX12_alike_171 rfl ?_
                  first | (exfalso; omega) | (exact qIM hq (by unfold aAlike; rw [if_pos hok, if_neg hab, if_pos (alk_t (k := k) (by omega) (by omega))]) (if_neg (fun q => q.2.1.2 (alk_t (k := k) (by omega) (by omega)))).symm)
            · refine Wp.aload_n rfl dX12_alike_117 ?_
              refine Wp.gr (kz := 27) rfl dX12_alike_118 fkX12_59 (by first | rfl | exact kd_b0 _ | exact kd_b1 _ | exact kd_b2 _ | exact kd_b3 _ | exact kd_b4 _ | exact kd_b5 _ | exact kd_b6 _) (by omega) (by first | exact hFx _ 27 _ rfl | assumption | exact hBk.1 | exact hBk.2.1 | exact hBk.2.2.1 | exact hBk.2.2.2.1 | exact hBk.2.2.2.2.1 | exact hBk.2.2.2.2.2) ?_
              refine Wp.iload rfl dX12_alike_121 ?_
              refine Wp.iaload dX12_alike_123 (by first | rfl | exact kd_b0 _ | exact kd_b1 _ | exact kd_b2 _ | exact kd_b3 _ | exact kd_b4 _ | exact kd_b5 _ | exact kd_b6 _) (by omega) (by omega) (by omega) ?_
              refine Wp.iload rfl dX12_alike_124 ?_
              refine Wp.icmp_ne (tgt := 155) dX12_alike_126 (by decide) (by first | omega | exact bI_R _ | exact cmp_R _ _ | assumption) (by first | omega | exact bI_R _ | exact cmp_R _ _ | assumption) (fun c126 => ?_) (fun c126 => ?_)
              · refine Wp.iconst dX12_alike_155 ?_
                refine Wp.istore (ls' := [_, _, _, _, _, _, _, _]) dX12_alike_156 (by decide) rfl ?_
                refine Wp.iload rfl dX12_alike_158 ?_
                refine Wp.if_ne (tgt := 168) dX12_alike_160 (by decide) (by first | omega | exact bI_R _ | exact cmp_R _ _ | assumption) (fun c160 => ?_) (fun c160 => ?_)
                · refine Wp.sipush rfl dX12_alike_168 ?_
                  refine Wp.ireturn dX12_alike_171 rfl ?_
                  first | (exfalso; omega) | (exact qIM hq (by unfold aAlike; rw [if_pos hok, if_neg hab, if_pos (alk_t (k := k) (by omega) (by omega))]) (if_neg (fun q => q.2.1.2 (alk_t (k := k) (by omega) (by omega)))).symm)
                · refine Wp.iload rfl dX12_alike_163 ?_
                  refine Wp.if_eq (tgt := 172) dX12_alike_165 (by decide) (by first | omega | exact bI_R _ | exact cmp_R _ _ | assumption) (fun c165 => ?_) (fun c165 => ?_)
                  · refine Wp.iinc (ls' := [_, _, _, _, _, _, _, _]) rfl dX12_alike_172 (by decide) rfl ?_
                    refine Wp.goto (tgt := 45) dX12_alike_175 (by decide) ?_
                    exact ih (k + 1) _ _ _ (by omega) (by omega) (alk_f e0 (by omega))
                  · refine Wp.sipush rfl dX12_alike_168 ?_
                    refine Wp.ireturn dX12_alike_171 rfl ?_
                    first | (exfalso; omega) | (exact qIM hq (by unfold aAlike; rw [if_pos hok, if_neg hab, if_pos (alk_t (k := k) (by omega) (by omega))]) (if_neg (fun q => q.2.1.2 (alk_t (k := k) (by omega) (by omega)))).symm)
              · refine Wp.aload_n rfl dX12_alike_129 ?_
                refine Wp.gr (kz := 28) rfl dX12_alike_130 fkX12_62 (by first | rfl | exact kd_b0 _ | exact kd_b1 _ | exact kd_b2 _ | exact kd_b3 _ | exact kd_b4 _ | exact kd_b5 _ | exact kd_b6 _) (by omega) (by first | exact hFx _ 28 _ rfl | assumption | exact hBk.1 | exact hBk.2.1 | exact hBk.2.2.1 | exact hBk.2.2.2.1 | exact hBk.2.2.2.2.1 | exact hBk.2.2.2.2.2) ?_
                refine Wp.iload rfl dX12_alike_133 ?_
                refine Wp.iaload dX12_alike_135 (by first | rfl | exact kd_b0 _ | exact kd_b1 _ | exact kd_b2 _ | exact kd_b3 _ | exact kd_b4 _ | exact kd_b5 _ | exact kd_b6 _) (by omega) (by omega) (by omega) ?_
                refine Wp.iload_n rfl dX12_alike_136 ?_
                refine Wp.icmp_ne (tgt := 155) dX12_alike_137 (by decide) (by first | omega | exact bI_R _ | exact cmp_R _ _ | assumption) (by first | omega | exact bI_R _ | exact cmp_R _ _ | assumption) (fun c137 => ?_) (fun c137 => ?_)
                · refine Wp.iconst dX12_alike_155 ?_
                  refine Wp.istore (ls' := [_, _, _, _, _, _, _, _]) dX12_alike_156 (by decide) rfl ?_
                  refine Wp.iload rfl dX12_alike_158 ?_
                  refine Wp.if_ne (tgt := 168) dX12_alike_160 (by decide) (by first | omega | exact bI_R _ | exact cmp_R _ _ | assumption) (fun c160 => ?_) (fun c160 => ?_)
                  · refine Wp.sipush rfl dX12_alike_168 ?_
                    refine Wp.ireturn dX12_alike_171 rfl ?_
                    first | (exfalso; omega) | (exact qIM hq (by unfold aAlike; rw [if_pos hok, if_neg hab, if_pos (alk_t (k := k) (by omega) (by omega))]) (if_neg (fun q => q.2.1.2 (alk_t (k := k) (by omega) (by omega)))).symm)
                  · refine Wp.iload rfl dX12_alike_163 ?_
                    refine Wp.if_eq (tgt := 172) dX12_alike_165 (by decide) (by first | omega | exact bI_R _ | exact cmp_R _ _ | assumption) (fun c165 => ?_) (fun c165 => ?_)
                    · refine Wp.iinc (ls' := [_, _, _, _, _, _, _, _]) rfl dX12_alike_172 (by decide) rfl ?_
                      refine Wp.goto (tgt := 45) dX12_alike_175 (by decide) ?_
                      exact ih (k + 1) _ _ _ (by omega) (by omega) (alk_f e0 (by omega))
                    · refine Wp.sipush rfl dX12_alike_168 ?_
                      refine Wp.ireturn dX12_alike_171 rfl ?_
                      first | (exfalso; omega) | (exact qIM hq (by unfold aAlike; rw [if_pos hok, if_neg hab, if_pos (alk_t (k := k) (by omega) (by omega))]) (if_neg (fun q => q.2.1.2 (alk_t (k := k) (by omega) (by omega)))).symm)
                · refine Wp.aload_n rfl dX12_alike_140 ?_
                  refine Wp.gr (kz := 29) rfl dX12_alike_141 fkX12_65 (by first | rfl | exact kd_b0 _ | exact kd_b1 _ | exact kd_b2 _ | exact kd_b3 _ | exact kd_b4 _ | exact kd_b5 _ | exact kd_b6 _) (by omega) (by first | exact hFx _ 29 _ rfl | assumption | exact hBk.1 | exact hBk.2.1 | exact hBk.2.2.1 | exact hBk.2.2.2.1 | exact hBk.2.2.2.2.1 | exact hBk.2.2.2.2.2) ?_
                  refine Wp.iload rfl dX12_alike_144 ?_
                  refine Wp.iaload dX12_alike_146 (by first | rfl | exact kd_b0 _ | exact kd_b1 _ | exact kd_b2 _ | exact kd_b3 _ | exact kd_b4 _ | exact kd_b5 _ | exact kd_b6 _) (by omega) (by omega) (by omega) ?_
                  refine Wp.iload_n rfl dX12_alike_147 ?_
                  refine Wp.icmp_ne (tgt := 155) dX12_alike_148 (by decide) (by first | omega | exact bI_R _ | exact cmp_R _ _ | assumption) (by first | omega | exact bI_R _ | exact cmp_R _ _ | assumption) (fun c148 => ?_) (fun c148 => ?_)
                  · refine Wp.iconst dX12_alike_155 ?_
                    refine Wp.istore (ls' := [_, _, _, _, _, _, _, _]) dX12_alike_156 (by decide) rfl ?_
                    refine Wp.iload rfl dX12_alike_158 ?_
                    refine Wp.if_ne (tgt := 168) dX12_alike_160 (by decide) (by first | omega | exact bI_R _ | exact cmp_R _ _ | assumption) (fun c160 => ?_) (fun c160 => ?_)
                    · refine Wp.sipush rfl dX12_alike_168 ?_
                      refine Wp.ireturn dX12_alike_171 rfl ?_
                      first | (exfalso; omega) | (exact qIM hq (by unfold aAlike; rw [if_pos hok, if_neg hab, if_pos (alk_t (k := k) (by omega) (by omega))]) (if_neg (fun q => q.2.1.2 (alk_t (k := k) (by omega) (by omega)))).symm)
                    · refine Wp.iload rfl dX12_alike_163 ?_
                      refine Wp.if_eq (tgt := 172) dX12_alike_165 (by decide) (by first | omega | exact bI_R _ | exact cmp_R _ _ | assumption) (fun c165 => ?_) (fun c165 => ?_)
                      · refine Wp.iinc (ls' := [_, _, _, _, _, _, _, _]) rfl dX12_alike_172 (by decide) rfl ?_
                        refine Wp.goto (tgt := 45) dX12_alike_175 (by decide) ?_
                        exact ih (k + 1) _ _ _ (by omega) (by omega) (alk_f e0 (by omega))
                      · refine Wp.sipush rfl dX12_alike_168 ?_
                        refine Wp.ireturn dX12_alike_171 rfl ?_
                        first | (exfalso; omega) | (exact qIM hq (by unfold aAlike; rw [if_pos hok, if_neg hab, if_pos (alk_t (k := k) (by omega) (by omega))]) (if_neg (fun q => q.2.1.2 (alk_t (k := k) (by omega) (by omega)))).symm)
                  · refine Wp.iconst dX12_alike_151 ?_
                    refine Wp.goto (tgt := 156) dX12_alike_152 (by decide) ?_
                    refine Wp.istore (ls' := [_, _, _, _, _, _, _, _]) dX12_alike_156 (by decide) rfl ?_
                    refine Wp.iload rfl dX12_alike_158 ?_
                    refine Wp.if_ne (tgt := 168) dX12_alike_160 (by decide) (by first | omega | exact bI_R _ | exact cmp_R _ _ | assumption) (fun c160 => ?_) (fun c160 => ?_)
                    · refine Wp.sipush rfl dX12_alike_168 ?_
                      refine Wp.ireturn dX12_alike_171 rfl ?_
                      first | (exfalso; omega) | (exact qIM hq (by unfold aAlike; rw [if_pos hok, if_neg hab, if_pos (alk_t (k := k) (by omega) (by omega))]) (if_neg (fun q => q.2.1.2 (alk_t (k := k) (by omega) (by omega)))).symm)
                    · refine Wp.iload rfl dX12_alike_163 ?_
                      refine Wp.if_eq (tgt := 172) dX12_alike_165 (by decide) (by first | omega | exact bI_R _ | exact cmp_R _ _ | assumption) (fun c165 => ?_) (fun c165 => ?_)
                      · refine Wp.iinc (ls' := [_, _, _, _, _, _, _, _]) rfl dX12_alike_172 (by decide) rfl ?_
                        refine Wp.goto (tgt := 45) dX12_alike_175 (by decide) ?_
                        exact ih (k + 1) _ _ _ (by omega) (by omega) (alk_f e0 (by omega))
                      · refine Wp.sipush rfl dX12_alike_168 ?_
                        refine Wp.ireturn dX12_alike_171 rfl ?_
                        first | (exfalso; omega) | (exact qIM hq (by unfold aAlike; rw [if_pos hok, if_neg hab, if_pos (alk_t (k := k) (by omega) (by omega))]) (if_neg (fun q => q.2.1.2 (alk_t (k := k) (by omega) (by omega)))).symm)
          · refine Wp.aload_n rfl dX12_alike_76 ?_
            refine Wp.gr (kz := 28) rfl dX12_alike_77 fkX12_62 (by first | rfl | exact kd_b0 _ | exact kd_b1 _ | exact kd_b2 _ | exact kd_b3 _ | exact kd_b4 _ | exact kd_b5 _ | exact kd_b6 _) (by omega) (by first | exact hFx _ 28 _ rfl | assumption | exact hBk.1 | exact hBk.2.1 | exact hBk.2.2.1 | exact hBk.2.2.2.1 | exact hBk.2.2.2.2.1 | exact hBk.2.2.2.2.2) ?_
            refine Wp.iload rfl dX12_alike_80 ?_
            refine Wp.iaload dX12_alike_82 (by first | rfl | exact kd_b0 _ | exact kd_b1 _ | exact kd_b2 _ | exact kd_b3 _ | exact kd_b4 _ | exact kd_b5 _ | exact kd_b6 _) (by omega) (by omega) (by omega) ?_
            refine Wp.iload_n rfl dX12_alike_83 ?_
            refine Wp.icmp_ne (tgt := 103) dX12_alike_84 (by decide) (by first | omega | exact bI_R _ | exact cmp_R _ _ | assumption) (by first | omega | exact bI_R _ | exact cmp_R _ _ | assumption) (fun c84 => ?_) (fun c84 => ?_)
            · refine Wp.iconst dX12_alike_103 ?_
              refine Wp.istore (ls' := [_, _, _, _, _, _, _, _]) dX12_alike_104 (by decide) rfl ?_
              refine Wp.aload_n rfl dX12_alike_106 ?_
              refine Wp.gr (kz := 26) rfl dX12_alike_107 fkX12_56 (by first | rfl | exact kd_b0 _ | exact kd_b1 _ | exact kd_b2 _ | exact kd_b3 _ | exact kd_b4 _ | exact kd_b5 _ | exact kd_b6 _) (by omega) (by first | exact hFx _ 26 _ rfl | assumption | exact hBk.1 | exact hBk.2.1 | exact hBk.2.2.1 | exact hBk.2.2.2.1 | exact hBk.2.2.2.2.1 | exact hBk.2.2.2.2.2) ?_
              refine Wp.iload rfl dX12_alike_110 ?_
              refine Wp.iaload dX12_alike_112 (by first | rfl | exact kd_b0 _ | exact kd_b1 _ | exact kd_b2 _ | exact kd_b3 _ | exact kd_b4 _ | exact kd_b5 _ | exact kd_b6 _) (by omega) (by omega) (by omega) ?_
              refine Wp.iload_n rfl dX12_alike_113 ?_
              refine Wp.icmp_ne (tgt := 155) dX12_alike_114 (by decide) (by first | omega | exact bI_R _ | exact cmp_R _ _ | assumption) (by first | omega | exact bI_R _ | exact cmp_R _ _ | assumption) (fun c114 => ?_) (fun c114 => ?_)
              · refine Wp.iconst dX12_alike_155 ?_
                refine Wp.istore (ls' := [_, _, _, _, _, _, _, _]) dX12_alike_156 (by decide) rfl ?_
                refine Wp.iload rfl dX12_alike_158 ?_
                refine Wp.if_ne (tgt := 168) dX12_alike_160 (by decide) (by first | omega | exact bI_R _ | exact cmp_R _ _ | assumption) (fun c160 => ?_) (fun c160 => ?_)
                · refine Wp.sipush rfl dX12_alike_168 ?_
                  refine Wp.ireturn dX12_alike_171 rfl ?_
                  first | (exfalso; omega) | (exact qIM hq (by unfold aAlike; rw [if_pos hok, if_neg hab, if_pos (alk_t (k := k) (by omega) (by omega))]) (if_neg (fun q => q.2.1.2 (alk_t (k := k) (by omega) (by omega)))).symm)
                · refine Wp.iload rfl dX12_alike_163 ?_
                  refine Wp.if_eq (tgt := 172) dX12_alike_165 (by decide) (by first | omega | exact bI_R _ | exact cmp_R _ _ | assumption) (fun c165 => ?_) (fun c165 => ?_)
                  · refine Wp.iinc (ls' := [_, _, _, _, _, _, _, _]) rfl dX12_alike_172 (by decide) rfl ?_
                    refine Wp.goto (tgt := 45) dX12_alike_175 (by decide) ?_
                    exact ih (k + 1) _ _ _ (by omega) (by omega) (alk_f e0 (by omega))
                  · refine Wp.sipush rfl dX12_alike_168 ?_
                    refine Wp.ireturn dX12_alike_171 rfl ?_
                    first | (exfalso; omega) | (exact qIM hq (by unfold aAlike; rw [if_pos hok, if_neg hab, if_pos (alk_t (k := k) (by omega) (by omega))]) (if_neg (fun q => q.2.1.2 (alk_t (k := k) (by omega) (by omega)))).symm)
              · refine Wp.aload_n rfl dX12_alike_117 ?_
                refine Wp.gr (kz := 27) rfl dX12_alike_118 fkX12_59 (by first | rfl | exact kd_b0 _ | exact kd_b1 _ | exact kd_b2 _ | exact kd_b3 _ | exact kd_b4 _ | exact kd_b5 _ | exact kd_b6 _) (by omega) (by first | exact hFx _ 27 _ rfl | assumption | exact hBk.1 | exact hBk.2.1 | exact hBk.2.2.1 | exact hBk.2.2.2.1 | exact hBk.2.2.2.2.1 | exact hBk.2.2.2.2.2) ?_
                refine Wp.iload rfl dX12_alike_121 ?_
                refine Wp.iaload dX12_alike_123 (by first | rfl | exact kd_b0 _ | exact kd_b1 _ | exact kd_b2 _ | exact kd_b3 _ | exact kd_b4 _ | exact kd_b5 _ | exact kd_b6 _) (by omega) (by omega) (by omega) ?_
                refine Wp.iload rfl dX12_alike_124 ?_
                refine Wp.icmp_ne (tgt := 155) dX12_alike_126 (by decide) (by first | omega | exact bI_R _ | exact cmp_R _ _ | assumption) (by first | omega | exact bI_R _ | exact cmp_R _ _ | assumption) (fun c126 => ?_) (fun c126 => ?_)
                · refine Wp.iconst dX12_alike_155 ?_
                  refine Wp.istore (ls' := [_, _, _, _, _, _, _, _]) dX12_alike_156 (by decide) rfl ?_
                  refine Wp.iload rfl dX12_alike_158 ?_
                  refine Wp.if_ne (tgt := 168) dX12_alike_160 (by decide) (by first | omega | exact bI_R _ | exact cmp_R _ _ | assumption) (fun c160 => ?_) (fun c160 => ?_)
                  · refine Wp.sipush rfl dX12_alike_168 ?_
                    refine Wp.ireturn dX12_alike_171 rfl ?_
                    first | (exfalso; omega) | (exact qIM hq (by unfold aAlike; rw [if_pos hok, if_neg hab, if_pos (alk_t (k := k) (by omega) (by omega))]) (if_neg (fun q => q.2.1.2 (alk_t (k := k) (by omega) (by omega)))).symm)
                  · refine Wp.iload rfl dX12_alike_163 ?_
                    refine Wp.if_eq (tgt := 172) dX12_alike_165 (by decide) (by first | omega | exact bI_R _ | exact cmp_R _ _ | assumption) (fun c165 => ?_) (fun c165 => ?_)
                    · refine Wp.iinc (ls' := [_, _, _, _, _, _, _, _]) rfl dX12_alike_172 (by decide) rfl ?_
                      refine Wp.goto (tgt := 45) dX12_alike_175 (by decide) ?_
                      exact ih (k + 1) _ _ _ (by omega) (by omega) (alk_f e0 (by omega))
                    · refine Wp.sipush rfl dX12_alike_168 ?_
                      refine Wp.ireturn dX12_alike_171 rfl ?_
                      first | (exfalso; omega) | (exact qIM hq (by unfold aAlike; rw [if_pos hok, if_neg hab, if_pos (alk_t (k := k) (by omega) (by omega))]) (if_neg (fun q => q.2.1.2 (alk_t (k := k) (by omega) (by omega)))).symm)
                · refine Wp.aload_n rfl dX12_alike_129 ?_
                  refine Wp.gr (kz := 28) rfl dX12_alike_130 fkX12_62 (by first | rfl | exact kd_b0 _ | exact kd_b1 _ | exact kd_b2 _ | exact kd_b3 _ | exact kd_b4 _ | exact kd_b5 _ | exact kd_b6 _) (by omega) (by first | exact hFx _ 28 _ rfl | assumption | exact hBk.1 | exact hBk.2.1 | exact hBk.2.2.1 | exact hBk.2.2.2.1 | exact hBk.2.2.2.2.1 | exact hBk.2.2.2.2.2) ?_
                  refine Wp.iload rfl dX12_alike_133 ?_
                  refine Wp.iaload dX12_alike_135 (by first | rfl | exact kd_b0 _ | exact kd_b1 _ | exact kd_b2 _ | exact kd_b3 _ | exact kd_b4 _ | exact kd_b5 _ | exact kd_b6 _) (by omega) (by omega) (by omega) ?_
                  refine Wp.iload_n rfl dX12_alike_136 ?_
                  refine Wp.icmp_ne (tgt := 155) dX12_alike_137 (by decide) (by first | omega | exact bI_R _ | exact cmp_R _ _ | assumption) (by first | omega | exact bI_R _ | exact cmp_R _ _ | assumption) (fun c137 => ?_) (fun c137 => ?_)
                  · refine Wp.iconst dX12_alike_155 ?_
                    refine Wp.istore (ls' := [_, _, _, _, _, _, _, _]) dX12_alike_156 (by decide) rfl ?_
                    refine Wp.iload rfl dX12_alike_158 ?_
                    refine Wp.if_ne (tgt := 168) dX12_alike_160 (by decide) (by first | omega | exact bI_R _ | exact cmp_R _ _ | assumption) (fun c160 => ?_) (fun c160 => ?_)
                    · refine Wp.sipush rfl dX12_alike_168 ?_
                      refine Wp.ireturn dX12_alike_171 rfl ?_
                      first | (exfalso; omega) | (exact qIM hq (by unfold aAlike; rw [if_pos hok, if_neg hab, if_pos (alk_t (k := k) (by omega) (by omega))]) (if_neg (fun q => q.2.1.2 (alk_t (k := k) (by omega) (by omega)))).symm)
                    · refine Wp.iload rfl dX12_alike_163 ?_
                      refine Wp.if_eq (tgt := 172) dX12_alike_165 (by decide) (by first | omega | exact bI_R _ | exact cmp_R _ _ | assumption) (fun c165 => ?_) (fun c165 => ?_)
                      · refine Wp.iinc (ls' := [_, _, _, _, _, _, _, _]) rfl dX12_alike_172 (by decide) rfl ?_
                        refine Wp.goto (tgt := 45) dX12_alike_175 (by decide) ?_
                        exact ih (k + 1) _ _ _ (by omega) (by omega) (alk_f e0 (by omega))
                      · refine Wp.sipush rfl dX12_alike_168 ?_
                        refine Wp.ireturn dX12_alike_171 rfl ?_
                        first | (exfalso; omega) | (exact qIM hq (by unfold aAlike; rw [if_pos hok, if_neg hab, if_pos (alk_t (k := k) (by omega) (by omega))]) (if_neg (fun q => q.2.1.2 (alk_t (k := k) (by omega) (by omega)))).symm)
                  · refine Wp.aload_n rfl dX12_alike_140 ?_
                    refine Wp.gr (kz := 29) rfl dX12_alike_141 fkX12_65 (by first | rfl | exact kd_b0 _ | exact kd_b1 _ | exact kd_b2 _ | exact kd_b3 _ | exact kd_b4 _ | exact kd_b5 _ | exact kd_b6 _) (by omega) (by first | exact hFx _ 29 _ rfl | assumption | exact hBk.1 | exact hBk.2.1 | exact hBk.2.2.1 | exact hBk.2.2.2.1 | exact hBk.2.2.2.2.1 | exact hBk.2.2.2.2.2) ?_
                    refine Wp.iload rfl dX12_alike_144 ?_
                    refine Wp.iaload dX12_alike_146 (by first | rfl | exact kd_b0 _ | exact kd_b1 _ | exact kd_b2 _ | exact kd_b3 _ | exact kd_b4 _ | exact kd_b5 _ | exact kd_b6 _) (by omega) (by omega) (by omega) ?_
                    refine Wp.iload_n rfl dX12_alike_147 ?_
                    refine Wp.icmp_ne (tgt := 155) dX12_alike_148 (by decide) (by first | omega | exact bI_R _ | exact cmp_R _ _ | assumption) (by first | omega | exact bI_R _ | exact cmp_R _ _ | assumption) (fun c148 => ?_) (fun c148 => ?_)
                    · refine Wp.iconst dX12_alike_155 ?_
                      refine Wp.istore (ls' := [_, _, _, _, _, _, _, _]) dX12_alike_156 (by decide) rfl ?_
                      refine Wp.iload rfl dX12_alike_158 ?_
                      refine Wp.if_ne (tgt := 168) dX12_alike_160 (by decide) (by first | omega | exact bI_R _ | exact cmp_R _ _ | assumption) (fun c160 => ?_) (fun c160 => ?_)
                      · refine Wp.sipush rfl dX12_alike_168 ?_
                        refine Wp.ireturn dX12_alike_171 rfl ?_
                        first | (exfalso; omega) | (exact qIM hq (by unfold aAlike; rw [if_pos hok, if_neg hab, if_pos (alk_t (k := k) (by omega) (by omega))]) (if_neg (fun q => q.2.1.2 (alk_t (k := k) (by omega) (by omega)))).symm)
                      · refine Wp.iload rfl dX12_alike_163 ?_
                        refine Wp.if_eq (tgt := 172) dX12_alike_165 (by decide) (by first | omega | exact bI_R _ | exact cmp_R _ _ | assumption) (fun c165 => ?_) (fun c165 => ?_)
                        · refine Wp.iinc (ls' := [_, _, _, _, _, _, _, _]) rfl dX12_alike_172 (by decide) rfl ?_
                          refine Wp.goto (tgt := 45) dX12_alike_175 (by decide) ?_
                          exact ih (k + 1) _ _ _ (by omega) (by omega) (alk_f e0 (by omega))
                        · refine Wp.sipush rfl dX12_alike_168 ?_
                          refine Wp.ireturn dX12_alike_171 rfl ?_
                          first | (exfalso; omega) | (exact qIM hq (by unfold aAlike; rw [if_pos hok, if_neg hab, if_pos (alk_t (k := k) (by omega) (by omega))]) (if_neg (fun q => q.2.1.2 (alk_t (k := k) (by omega) (by omega)))).symm)
                    · refine Wp.iconst dX12_alike_151 ?_
                      refine Wp.goto (tgt := 156) dX12_alike_152 (by decide) ?_
                      refine Wp.istore (ls' := [_, _, _, _, _, _, _, _]) dX12_alike_156 (by decide) rfl ?_
                      refine Wp.iload rfl dX12_alike_158 ?_
                      refine Wp.if_ne (tgt := 168) dX12_alike_160 (by decide) (by first | omega | exact bI_R _ | exact cmp_R _ _ | assumption) (fun c160 => ?_) (fun c160 => ?_)
                      · refine Wp.sipush rfl dX12_alike_168 ?_
                        refine Wp.ireturn dX12_alike_171 rfl ?_
                        first | (exfalso; omega) | (exact qIM hq (by unfold aAlike; rw [if_pos hok, if_neg hab, if_pos (alk_t (k := k) (by omega) (by omega))]) (if_neg (fun q => q.2.1.2 (alk_t (k := k) (by omega) (by omega)))).symm)
                      · refine Wp.iload rfl dX12_alike_163 ?_
                        refine Wp.if_eq (tgt := 172) dX12_alike_165 (by decide) (by first | omega | exact bI_R _ | exact cmp_R _ _ | assumption) (fun c165 => ?_) (fun c165 => ?_)
                        · refine Wp.iinc (ls' := [_, _, _, _, _, _, _, _]) rfl dX12_alike_172 (by decide) rfl ?_
                          refine Wp.goto (tgt := 45) dX12_alike_175 (by decide) ?_
                          exact ih (k + 1) _ _ _ (by omega) (by omega) (alk_f e0 (by omega))
                        · refine Wp.sipush rfl dX12_alike_168 ?_
                          refine Wp.ireturn dX12_alike_171 rfl ?_
                          first | (exfalso; omega) | (exact qIM hq (by unfold aAlike; rw [if_pos hok, if_neg hab, if_pos (alk_t (k := k) (by omega) (by omega))]) (if_neg (fun q => q.2.1.2 (alk_t (k := k) (by omega) (by omega)))).symm)
            · refine Wp.aload_n rfl dX12_alike_87 ?_
              refine Wp.gr (kz := 29) rfl dX12_alike_88 fkX12_65 (by first | rfl | exact kd_b0 _ | exact kd_b1 _ | exact kd_b2 _ | exact kd_b3 _ | exact kd_b4 _ | exact kd_b5 _ | exact kd_b6 _) (by omega) (by first | exact hFx _ 29 _ rfl | assumption | exact hBk.1 | exact hBk.2.1 | exact hBk.2.2.1 | exact hBk.2.2.2.1 | exact hBk.2.2.2.2.1 | exact hBk.2.2.2.2.2) ?_
              refine Wp.iload rfl dX12_alike_91 ?_
              refine Wp.iaload dX12_alike_93 (by first | rfl | exact kd_b0 _ | exact kd_b1 _ | exact kd_b2 _ | exact kd_b3 _ | exact kd_b4 _ | exact kd_b5 _ | exact kd_b6 _) (by omega) (by omega) (by omega) ?_
              refine Wp.iload rfl dX12_alike_94 ?_
              refine Wp.icmp_ne (tgt := 103) dX12_alike_96 (by decide) (by first | omega | exact bI_R _ | exact cmp_R _ _ | assumption) (by first | omega | exact bI_R _ | exact cmp_R _ _ | assumption) (fun c96 => ?_) (fun c96 => ?_)
              · refine Wp.iconst dX12_alike_103 ?_
                refine Wp.istore (ls' := [_, _, _, _, _, _, _, _]) dX12_alike_104 (by decide) rfl ?_
                refine Wp.aload_n rfl dX12_alike_106 ?_
                refine Wp.gr (kz := 26) rfl dX12_alike_107 fkX12_56 (by first | rfl | exact kd_b0 _ | exact kd_b1 _ | exact kd_b2 _ | exact kd_b3 _ | exact kd_b4 _ | exact kd_b5 _ | exact kd_b6 _) (by omega) (by first | exact hFx _ 26 _ rfl | assumption | exact hBk.1 | exact hBk.2.1 | exact hBk.2.2.1 | exact hBk.2.2.2.1 | exact hBk.2.2.2.2.1 | exact hBk.2.2.2.2.2) ?_
                refine Wp.iload rfl dX12_alike_110 ?_
                refine Wp.iaload dX12_alike_112 (by first | rfl | exact kd_b0 _ | exact kd_b1 _ | exact kd_b2 _ | exact kd_b3 _ | exact kd_b4 _ | exact kd_b5 _ | exact kd_b6 _) (by omega) (by omega) (by omega) ?_
                refine Wp.iload_n rfl dX12_alike_113 ?_
                refine Wp.icmp_ne (tgt := 155) dX12_alike_114 (by decide) (by first | omega | exact bI_R _ | exact cmp_R _ _ | assumption) (by first | omega | exact bI_R _ | exact cmp_R _ _ | assumption) (fun c114 => ?_) (fun c114 => ?_)
                · refine Wp.iconst dX12_alike_155 ?_
                  refine Wp.istore (ls' := [_, _, _, _, _, _, _, _]) dX12_alike_156 (by decide) rfl ?_
                  refine Wp.iload rfl dX12_alike_158 ?_
                  refine Wp.if_ne (tgt := 168) dX12_alike_160 (by decide) (by first | omega | exact bI_R _ | exact cmp_R _ _ | assumption) (fun c160 => ?_) (fun c160 => ?_)
                  · refine Wp.sipush rfl dX12_alike_168 ?_
                    refine Wp.ireturn dX12_alike_171 rfl ?_
                    first | (exfalso; omega) | (exact qIM hq (by unfold aAlike; rw [if_pos hok, if_neg hab, if_pos (alk_t (k := k) (by omega) (by omega))]) (if_neg (fun q => q.2.1.2 (alk_t (k := k) (by omega) (by omega)))).symm)
                  · refine Wp.iload rfl dX12_alike_163 ?_
                    refine Wp.if_eq (tgt := 172) dX12_alike_165 (by decide) (by first | omega | exact bI_R _ | exact cmp_R _ _ | assumption) (fun c165 => ?_) (fun c165 => ?_)
                    · refine Wp.iinc (ls' := [_, _, _, _, _, _, _, _]) rfl dX12_alike_172 (by decide) rfl ?_
                      refine Wp.goto (tgt := 45) dX12_alike_175 (by decide) ?_
                      exact ih (k + 1) _ _ _ (by omega) (by omega) (alk_f e0 (by omega))
                    · refine Wp.sipush rfl dX12_alike_168 ?_
                      refine Wp.ireturn dX12_alike_171 rfl ?_
                      first | (exfalso; omega) | (exact qIM hq (by unfold aAlike; rw [if_pos hok, if_neg hab, if_pos (alk_t (k := k) (by omega) (by omega))]) (if_neg (fun q => q.2.1.2 (alk_t (k := k) (by omega) (by omega)))).symm)
                · refine Wp.aload_n rfl dX12_alike_117 ?_
                  refine Wp.gr (kz := 27) rfl dX12_alike_118 fkX12_59 (by first | rfl | exact kd_b0 _ | exact kd_b1 _ | exact kd_b2 _ | exact kd_b3 _ | exact kd_b4 _ | exact kd_b5 _ | exact kd_b6 _) (by omega) (by first | exact hFx _ 27 _ rfl | assumption | exact hBk.1 | exact hBk.2.1 | exact hBk.2.2.1 | exact hBk.2.2.2.1 | exact hBk.2.2.2.2.1 | exact hBk.2.2.2.2.2) ?_
                  refine Wp.iload rfl dX12_alike_121 ?_
                  refine Wp.iaload dX12_alike_123 (by first | rfl | exact kd_b0 _ | exact kd_b1 _ | exact kd_b2 _ | exact kd_b3 _ | exact kd_b4 _ | exact kd_b5 _ | exact kd_b6 _) (by omega) (by omega) (by omega) ?_
                  refine Wp.iload rfl dX12_alike_124 ?_
                  refine Wp.icmp_ne (tgt := 155) dX12_alike_126 (by decide) (by first | omega | exact bI_R _ | exact cmp_R _ _ | assumption) (by first | omega | exact bI_R _ | exact cmp_R _ _ | assumption) (fun c126 => ?_) (fun c126 => ?_)
                  · refine Wp.iconst dX12_alike_155 ?_
                    refine Wp.istore (ls' := [_, _, _, _, _, _, _, _]) dX12_alike_156 (by decide) rfl ?_
                    refine Wp.iload rfl dX12_alike_158 ?_
                    refine Wp.if_ne (tgt := 168) dX12_alike_160 (by decide) (by first | omega | exact bI_R _ | exact cmp_R _ _ | assumption) (fun c160 => ?_) (fun c160 => ?_)
                    · refine Wp.sipush rfl dX12_alike_168 ?_
                      refine Wp.ireturn dX12_alike_171 rfl ?_
                      first | (exfalso; omega) | (exact qIM hq (by unfold aAlike; rw [if_pos hok, if_neg hab, if_pos (alk_t (k := k) (by omega) (by omega))]) (if_neg (fun q => q.2.1.2 (alk_t (k := k) (by omega) (by omega)))).symm)
                    · refine Wp.iload rfl dX12_alike_163 ?_
                      refine Wp.if_eq (tgt := 172) dX12_alike_165 (by decide) (by first | omega | exact bI_R _ | exact cmp_R _ _ | assumption) (fun c165 => ?_) (fun c165 => ?_)
                      · refine Wp.iinc (ls' := [_, _, _, _, _, _, _, _]) rfl dX12_alike_172 (by decide) rfl ?_
                        refine Wp.goto (tgt := 45) dX12_alike_175 (by decide) ?_
                        exact ih (k + 1) _ _ _ (by omega) (by omega) (alk_f e0 (by omega))
                      · refine Wp.sipush rfl dX12_alike_168 ?_
                        refine Wp.ireturn dX12_alike_171 rfl ?_
                        first | (exfalso; omega) | (exact qIM hq (by unfold aAlike; rw [if_pos hok, if_neg hab, if_pos (alk_t (k := k) (by omega) (by omega))]) (if_neg (fun q => q.2.1.2 (alk_t (k := k) (by omega) (by omega)))).symm)
                  · refine Wp.aload_n rfl dX12_alike_129 ?_
                    refine Wp.gr (kz := 28) rfl dX12_alike_130 fkX12_62 (by first | rfl | exact kd_b0 _ | exact kd_b1 _ | exact kd_b2 _ | exact kd_b3 _ | exact kd_b4 _ | exact kd_b5 _ | exact kd_b6 _) (by omega) (by first | exact hFx _ 28 _ rfl | assumption | exact hBk.1 | exact hBk.2.1 | exact hBk.2.2.1 | exact hBk.2.2.2.1 | exact hBk.2.2.2.2.1 | exact hBk.2.2.2.2.2) ?_
                    refine Wp.iload rfl dX12_alike_133 ?_
                    refine Wp.iaload dX12_alike_135 (by first | rfl | exact kd_b0 _ | exact kd_b1 _ | exact kd_b2 _ | exact kd_b3 _ | exact kd_b4 _ | exact kd_b5 _ | exact kd_b6 _) (by omega) (by omega) (by omega) ?_
                    refine Wp.iload_n rfl dX12_alike_136 ?_
                    refine Wp.icmp_ne (tgt := 155) dX12_alike_137 (by decide) (by first | omega | exact bI_R _ | exact cmp_R _ _ | assumption) (by first | omega | exact bI_R _ | exact cmp_R _ _ | assumption) (fun c137 => ?_) (fun c137 => ?_)
                    · refine Wp.iconst dX12_alike_155 ?_
                      refine Wp.istore (ls' := [_, _, _, _, _, _, _, _]) dX12_alike_156 (by decide) rfl ?_
                      refine Wp.iload rfl dX12_alike_158 ?_
                      refine Wp.if_ne (tgt := 168) dX12_alike_160 (by decide) (by first | omega | exact bI_R _ | exact cmp_R _ _ | assumption) (fun c160 => ?_) (fun c160 => ?_)
                      · refine Wp.sipush rfl dX12_alike_168 ?_
                        refine Wp.ireturn dX12_alike_171 rfl ?_
                        first | (exfalso; omega) | (exact qIM hq (by unfold aAlike; rw [if_pos hok, if_neg hab, if_pos (alk_t (k := k) (by omega) (by omega))]) (if_neg (fun q => q.2.1.2 (alk_t (k := k) (by omega) (by omega)))).symm)
                      · refine Wp.iload rfl dX12_alike_163 ?_
                        refine Wp.if_eq (tgt := 172) dX12_alike_165 (by decide) (by first | omega | exact bI_R _ | exact cmp_R _ _ | assumption) (fun c165 => ?_) (fun c165 => ?_)
                        · refine Wp.iinc (ls' := [_, _, _, _, _, _, _, _]) rfl dX12_alike_172 (by decide) rfl ?_
                          refine Wp.goto (tgt := 45) dX12_alike_175 (by decide) ?_
                          exact ih (k + 1) _ _ _ (by omega) (by omega) (alk_f e0 (by omega))
                        · refine Wp.sipush rfl dX12_alike_168 ?_
                          refine Wp.ireturn dX12_alike_171 rfl ?_
                          first | (exfalso; omega) | (exact qIM hq (by unfold aAlike; rw [if_pos hok, if_neg hab, if_pos (alk_t (k := k) (by omega) (by omega))]) (if_neg (fun q => q.2.1.2 (alk_t (k := k) (by omega) (by omega)))).symm)
                    · refine Wp.aload_n rfl dX12_alike_140 ?_
                      refine Wp.gr (kz := 29) rfl dX12_alike_141 fkX12_65 (by first | rfl | exact kd_b0 _ | exact kd_b1 _ | exact kd_b2 _ | exact kd_b3 _ | exact kd_b4 _ | exact kd_b5 _ | exact kd_b6 _) (by omega) (by first | exact hFx _ 29 _ rfl | assumption | exact hBk.1 | exact hBk.2.1 | exact hBk.2.2.1 | exact hBk.2.2.2.1 | exact hBk.2.2.2.2.1 | exact hBk.2.2.2.2.2) ?_
                      refine Wp.iload rfl dX12_alike_144 ?_
                      refine Wp.iaload dX12_alike_146 (by first | rfl | exact kd_b0 _ | exact kd_b1 _ | exact kd_b2 _ | exact kd_b3 _ | exact kd_b4 _ | exact kd_b5 _ | exact kd_b6 _) (by omega) (by omega) (by omega) ?_
                      refine Wp.iload_n rfl dX12_alike_147 ?_
                      refine Wp.icmp_ne (tgt := 155) dX12_alike_148 (by decide) (by first | omega | exact bI_R _ | exact cmp_R _ _ | assumption) (by first | omega | exact bI_R _ | exact cmp_R _ _ | assumption) (fun c148 => ?_) (fun c148 => ?_)
                      · refine Wp.iconst dX12_alike_155 ?_
                        refine Wp.istore (ls' := [_, _, _, _, _, _, _, _]) dX12_alike_156 (by decide) rfl ?_
                        refine Wp.iload rfl dX12_alike_158 ?_
                        refine Wp.if_ne (tgt := 168) dX12_alike_160 (by decide) (by first | omega | exact bI_R _ | exact cmp_R _ _ | assumption) (fun c160 => ?_) (fun c160 => ?_)
                        · refine Wp.sipush rfl dX12_alike_168 ?_
                          refine Wp.ireturn dX12_alike_171 rfl ?_
                          first | (exfalso; omega) | (exact qIM hq (by unfold aAlike; rw [if_pos hok, if_neg hab, if_pos (alk_t (k := k) (by omega) (by omega))]) (if_neg (fun q => q.2.1.2 (alk_t (k := k) (by omega) (by omega)))).symm)
                        · refine Wp.iload rfl dX12_alike_163 ?_
                          refine Wp.if_eq (tgt := 172) dX12_alike_165 (by decide) (by first | omega | exact bI_R _ | exact cmp_R _ _ | assumption) (fun c165 => ?_) (fun c165 => ?_)
                          · refine Wp.iinc (ls' := [_, _, _, _, _, _, _, _]) rfl dX12_alike_172 (by decide) rfl ?_
                            refine Wp.goto (tgt := 45) dX12_alike_175 (by decide) ?_
                            exact ih (k + 1) _ _ _ (by omega) (by omega) (alk_f e0 (by omega))
                          · refine Wp.sipush rfl dX12_alike_168 ?_
                            refine Wp.ireturn dX12_alike_171 rfl ?_
                            first | (exfalso; omega) | (exact qIM hq (by unfold aAlike; rw [if_pos hok, if_neg hab, if_pos (alk_t (k := k) (by omega) (by omega))]) (if_neg (fun q => q.2.1.2 (alk_t (k := k) (by omega) (by omega)))).symm)
                      · refine Wp.iconst dX12_alike_151 ?_
                        refine Wp.goto (tgt := 156) dX12_alike_152 (by decide) ?_
                        refine Wp.istore (ls' := [_, _, _, _, _, _, _, _]) dX12_alike_156 (by decide) rfl ?_
                        refine Wp.iload rfl dX12_alike_158 ?_
                        refine Wp.if_ne (tgt := 168) dX12_alike_160 (by decide) (by first | omega | exact bI_R _ | exact cmp_R _ _ | assumption) (fun c160 => ?_) (fun c160 => ?_)
                        · refine Wp.sipush rfl dX12_alike_168 ?_
                          refine Wp.ireturn dX12_alike_171 rfl ?_
                          first | (exfalso; omega) | (exact qIM hq (by unfold aAlike; rw [if_pos hok, if_neg hab, if_pos (alk_t (k := k) (by omega) (by omega))]) (if_neg (fun q => q.2.1.2 (alk_t (k := k) (by omega) (by omega)))).symm)
                        · refine Wp.iload rfl dX12_alike_163 ?_
                          refine Wp.if_eq (tgt := 172) dX12_alike_165 (by decide) (by first | omega | exact bI_R _ | exact cmp_R _ _ | assumption) (fun c165 => ?_) (fun c165 => ?_)
                          · refine Wp.iinc (ls' := [_, _, _, _, _, _, _, _]) rfl dX12_alike_172 (by decide) rfl ?_
                            refine Wp.goto (tgt := 45) dX12_alike_175 (by decide) ?_
                            exact ih (k + 1) _ _ _ (by omega) (by omega) (alk_f e0 (by omega))
                          · refine Wp.sipush rfl dX12_alike_168 ?_
                            refine Wp.ireturn dX12_alike_171 rfl ?_
                            first | (exfalso; omega) | (exact qIM hq (by unfold aAlike; rw [if_pos hok, if_neg hab, if_pos (alk_t (k := k) (by omega) (by omega))]) (if_neg (fun q => q.2.1.2 (alk_t (k := k) (by omega) (by omega)))).symm)
              · refine Wp.iconst dX12_alike_99 ?_
                refine Wp.goto (tgt := 104) dX12_alike_100 (by decide) ?_
                refine Wp.istore (ls' := [_, _, _, _, _, _, _, _]) dX12_alike_104 (by decide) rfl ?_
                refine Wp.aload_n rfl dX12_alike_106 ?_
                refine Wp.gr (kz := 26) rfl dX12_alike_107 fkX12_56 (by first | rfl | exact kd_b0 _ | exact kd_b1 _ | exact kd_b2 _ | exact kd_b3 _ | exact kd_b4 _ | exact kd_b5 _ | exact kd_b6 _) (by omega) (by first | exact hFx _ 26 _ rfl | assumption | exact hBk.1 | exact hBk.2.1 | exact hBk.2.2.1 | exact hBk.2.2.2.1 | exact hBk.2.2.2.2.1 | exact hBk.2.2.2.2.2) ?_
                refine Wp.iload rfl dX12_alike_110 ?_
                refine Wp.iaload dX12_alike_112 (by first | rfl | exact kd_b0 _ | exact kd_b1 _ | exact kd_b2 _ | exact kd_b3 _ | exact kd_b4 _ | exact kd_b5 _ | exact kd_b6 _) (by omega) (by omega) (by omega) ?_
                refine Wp.iload_n rfl dX12_alike_113 ?_
                refine Wp.icmp_ne (tgt := 155) dX12_alike_114 (by decide) (by first | omega | exact bI_R _ | exact cmp_R _ _ | assumption) (by first | omega | exact bI_R _ | exact cmp_R _ _ | assumption) (fun c114 => ?_) (fun c114 => ?_)
                · refine Wp.iconst dX12_alike_155 ?_
                  refine Wp.istore (ls' := [_, _, _, _, _, _, _, _]) dX12_alike_156 (by decide) rfl ?_
                  refine Wp.iload rfl dX12_alike_158 ?_
                  refine Wp.if_ne (tgt := 168) dX12_alike_160 (by decide) (by first | omega | exact bI_R _ | exact cmp_R _ _ | assumption) (fun c160 => ?_) (fun c160 => ?_)
                  · refine Wp.sipush rfl dX12_alike_168 ?_
                    refine Wp.ireturn dX12_alike_171 rfl ?_
                    first | (exfalso; omega) | (exact qIM hq (by unfold aAlike; rw [if_pos hok, if_neg hab, if_pos (alk_t (k := k) (by omega) (by omega))]) (if_neg (fun q => q.2.1.2 (alk_t (k := k) (by omega) (by omega)))).symm)
                  · refine Wp.iload rfl dX12_alike_163 ?_
                    refine Wp.if_eq (tgt := 172) dX12_alike_165 (by decide) (by first | omega | exact bI_R _ | exact cmp_R _ _ | assumption) (fun c165 => ?_) (fun c165 => ?_)
                    · refine Wp.iinc (ls' := [_, _, _, _, _, _, _, _]) rfl dX12_alike_172 (by decide) rfl ?_
                      refine Wp.goto (tgt := 45) dX12_alike_175 (by decide) ?_
                      exact ih (k + 1) _ _ _ (by omega) (by omega) (alk_f e0 (by omega))
                    · refine Wp.sipush rfl dX12_alike_168 ?_
                      refine Wp.ireturn dX12_alike_171 rfl ?_
                      first | (exfalso; omega) | (exact qIM hq (by unfold aAlike; rw [if_pos hok, if_neg hab, if_pos (alk_t (k := k) (by omega) (by omega))]) (if_neg (fun q => q.2.1.2 (alk_t (k := k) (by omega) (by omega)))).symm)
                · refine Wp.aload_n rfl dX12_alike_117 ?_
                  refine Wp.gr (kz := 27) rfl dX12_alike_118 fkX12_59 (by first | rfl | exact kd_b0 _ | exact kd_b1 _ | exact kd_b2 _ | exact kd_b3 _ | exact kd_b4 _ | exact kd_b5 _ | exact kd_b6 _) (by omega) (by first | exact hFx _ 27 _ rfl | assumption | exact hBk.1 | exact hBk.2.1 | exact hBk.2.2.1 | exact hBk.2.2.2.1 | exact hBk.2.2.2.2.1 | exact hBk.2.2.2.2.2) ?_
                  refine Wp.iload rfl dX12_alike_121 ?_
                  refine Wp.iaload dX12_alike_123 (by first | rfl | exact kd_b0 _ | exact kd_b1 _ | exact kd_b2 _ | exact kd_b3 _ | exact kd_b4 _ | exact kd_b5 _ | exact kd_b6 _) (by omega) (by omega) (by omega) ?_
                  refine Wp.iload rfl dX12_alike_124 ?_
                  refine Wp.icmp_ne (tgt := 155) dX12_alike_126 (by decide) (by first | omega | exact bI_R _ | exact cmp_R _ _ | assumption) (by first | omega | exact bI_R _ | exact cmp_R _ _ | assumption) (fun c126 => ?_) (fun c126 => ?_)
                  · refine Wp.iconst dX12_alike_155 ?_
                    refine Wp.istore (ls' := [_, _, _, _, _, _, _, _]) dX12_alike_156 (by decide) rfl ?_
                    refine Wp.iload rfl dX12_alike_158 ?_
                    refine Wp.if_ne (tgt := 168) dX12_alike_160 (by decide) (by first | omega | exact bI_R _ | exact cmp_R _ _ | assumption) (fun c160 => ?_) (fun c160 => ?_)
                    · refine Wp.sipush rfl dX12_alike_168 ?_
                      refine Wp.ireturn dX12_alike_171 rfl ?_
                      first | (exfalso; omega) | (exact qIM hq (by unfold aAlike; rw [if_pos hok, if_neg hab, if_pos (alk_t (k := k) (by omega) (by omega))]) (if_neg (fun q => q.2.1.2 (alk_t (k := k) (by omega) (by omega)))).symm)
                    · refine Wp.iload rfl dX12_alike_163 ?_
                      refine Wp.if_eq (tgt := 172) dX12_alike_165 (by decide) (by first | omega | exact bI_R _ | exact cmp_R _ _ | assumption) (fun c165 => ?_) (fun c165 => ?_)
                      · refine Wp.iinc (ls' := [_, _, _, _, _, _, _, _]) rfl dX12_alike_172 (by decide) rfl ?_
                        refine Wp.goto (tgt := 45) dX12_alike_175 (by decide) ?_
                        exact ih (k + 1) _ _ _ (by omega) (by omega) (alk_f e0 (by omega))
                      · refine Wp.sipush rfl dX12_alike_168 ?_
                        refine Wp.ireturn dX12_alike_171 rfl ?_
                        first | (exfalso; omega) | (exact qIM hq (by unfold aAlike; rw [if_pos hok, if_neg hab, if_pos (alk_t (k := k) (by omega) (by omega))]) (if_neg (fun q => q.2.1.2 (alk_t (k := k) (by omega) (by omega)))).symm)
                  · refine Wp.aload_n rfl dX12_alike_129 ?_
                    refine Wp.gr (kz := 28) rfl dX12_alike_130 fkX12_62 (by first | rfl | exact kd_b0 _ | exact kd_b1 _ | exact kd_b2 _ | exact kd_b3 _ | exact kd_b4 _ | exact kd_b5 _ | exact kd_b6 _) (by omega) (by first | exact hFx _ 28 _ rfl | assumption | exact hBk.1 | exact hBk.2.1 | exact hBk.2.2.1 | exact hBk.2.2.2.1 | exact hBk.2.2.2.2.1 | exact hBk.2.2.2.2.2) ?_
                    refine Wp.iload rfl dX12_alike_133 ?_
                    refine Wp.iaload dX12_alike_135 (by first | rfl | exact kd_b0 _ | exact kd_b1 _ | exact kd_b2 _ | exact kd_b3 _ | exact kd_b4 _ | exact kd_b5 _ | exact kd_b6 _) (by omega) (by omega) (by omega) ?_
                    refine Wp.iload_n rfl dX12_alike_136 ?_
                    refine Wp.icmp_ne (tgt := 155) dX12_alike_137 (by decide) (by first | omega | exact bI_R _ | exact cmp_R _ _ | assumption) (by first | omega | exact bI_R _ | exact cmp_R _ _ | assumption) (fun c137 => ?_) (fun c137 => ?_)
                    · refine Wp.iconst dX12_alike_155 ?_
                      refine Wp.istore (ls' := [_, _, _, _, _, _, _, _]) dX12_alike_156 (by decide) rfl ?_
                      refine Wp.iload rfl dX12_alike_158 ?_
                      refine Wp.if_ne (tgt := 168) dX12_alike_160 (by decide) (by first | omega | exact bI_R _ | exact cmp_R _ _ | assumption) (fun c160 => ?_) (fun c160 => ?_)
                      · refine Wp.sipush rfl dX12_alike_168 ?_
                        refine Wp.ireturn dX12_alike_171 rfl ?_
                        first | (exfalso; omega) | (exact qIM hq (by unfold aAlike; rw [if_pos hok, if_neg hab, if_pos (alk_t (k := k) (by omega) (by omega))]) (if_neg (fun q => q.2.1.2 (alk_t (k := k) (by omega) (by omega)))).symm)
                      · refine Wp.iload rfl dX12_alike_163 ?_
                        refine Wp.if_eq (tgt := 172) dX12_alike_165 (by decide) (by first | omega | exact bI_R _ | exact cmp_R _ _ | assumption) (fun c165 => ?_) (fun c165 => ?_)
                        · refine Wp.iinc (ls' := [_, _, _, _, _, _, _, _]) rfl dX12_alike_172 (by decide) rfl ?_
                          refine Wp.goto (tgt := 45) dX12_alike_175 (by decide) ?_
                          exact ih (k + 1) _ _ _ (by omega) (by omega) (alk_f e0 (by omega))
                        · refine Wp.sipush rfl dX12_alike_168 ?_
                          refine Wp.ireturn dX12_alike_171 rfl ?_
                          first | (exfalso; omega) | (exact qIM hq (by unfold aAlike; rw [if_pos hok, if_neg hab, if_pos (alk_t (k := k) (by omega) (by omega))]) (if_neg (fun q => q.2.1.2 (alk_t (k := k) (by omega) (by omega)))).symm)
                    · refine Wp.aload_n rfl dX12_alike_140 ?_
                      refine Wp.gr (kz := 29) rfl dX12_alike_141 fkX12_65 (by first | rfl | exact kd_b0 _ | exact kd_b1 _ | exact kd_b2 _ | exact kd_b3 _ | exact kd_b4 _ | exact kd_b5 _ | exact kd_b6 _) (by omega) (by first | exact hFx _ 29 _ rfl | assumption | exact hBk.1 | exact hBk.2.1 | exact hBk.2.2.1 | exact hBk.2.2.2.1 | exact hBk.2.2.2.2.1 | exact hBk.2.2.2.2.2) ?_
                      refine Wp.iload rfl dX12_alike_144 ?_
                      refine Wp.iaload dX12_alike_146 (by first | rfl | exact kd_b0 _ | exact kd_b1 _ | exact kd_b2 _ | exact kd_b3 _ | exact kd_b4 _ | exact kd_b5 _ | exact kd_b6 _) (by omega) (by omega) (by omega) ?_
                      refine Wp.iload_n rfl dX12_alike_147 ?_
                      refine Wp.icmp_ne (tgt := 155) dX12_alike_148 (by decide) (by first | omega | exact bI_R _ | exact cmp_R _ _ | assumption) (by first | omega | exact bI_R _ | exact cmp_R _ _ | assumption) (fun c148 => ?_) (fun c148 => ?_)
                      · refine Wp.iconst dX12_alike_155 ?_
                        refine Wp.istore (ls' := [_, _, _, _, _, _, _, _]) dX12_alike_156 (by decide) rfl ?_
                        refine Wp.iload rfl dX12_alike_158 ?_
                        refine Wp.if_ne (tgt := 168) dX12_alike_160 (by decide) (by first | omega | exact bI_R _ | exact cmp_R _ _ | assumption) (fun c160 => ?_) (fun c160 => ?_)
                        · refine Wp.sipush rfl dX12_alike_168 ?_
                          refine Wp.ireturn dX12_alike_171 rfl ?_
                          first | (exfalso; omega) | (exact qIM hq (by unfold aAlike; rw [if_pos hok, if_neg hab, if_pos (alk_t (k := k) (by omega) (by omega))]) (if_neg (fun q => q.2.1.2 (alk_t (k := k) (by omega) (by omega)))).symm)
                        · refine Wp.iload rfl dX12_alike_163 ?_
                          refine Wp.if_eq (tgt := 172) dX12_alike_165 (by decide) (by first | omega | exact bI_R _ | exact cmp_R _ _ | assumption) (fun c165 => ?_) (fun c165 => ?_)
                          · refine Wp.iinc (ls' := [_, _, _, _, _, _, _, _]) rfl dX12_alike_172 (by decide) rfl ?_
                            refine Wp.goto (tgt := 45) dX12_alike_175 (by decide) ?_
                            exact ih (k + 1) _ _ _ (by omega) (by omega) (alk_f e0 (by omega))
                          · refine Wp.sipush rfl dX12_alike_168 ?_
                            refine Wp.ireturn dX12_alike_171 rfl ?_
                            first | (exfalso; omega) | (exact qIM hq (by unfold aAlike; rw [if_pos hok, if_neg hab, if_pos (alk_t (k := k) (by omega) (by omega))]) (if_neg (fun q => q.2.1.2 (alk_t (k := k) (by omega) (by omega)))).symm)
                      · refine Wp.iconst dX12_alike_151 ?_
                        refine Wp.goto (tgt := 156) dX12_alike_152 (by decide) ?_
                        refine Wp.istore (ls' := [_, _, _, _, _, _, _, _]) dX12_alike_156 (by decide) rfl ?_
                        refine Wp.iload rfl dX12_alike_158 ?_
                        refine Wp.if_ne (tgt := 168) dX12_alike_160 (by decide) (by first | omega | exact bI_R _ | exact cmp_R _ _ | assumption) (fun c160 => ?_) (fun c160 => ?_)
                        · refine Wp.sipush rfl dX12_alike_168 ?_
                          refine Wp.ireturn dX12_alike_171 rfl ?_
                          first | (exfalso; omega) | (exact qIM hq (by unfold aAlike; rw [if_pos hok, if_neg hab, if_pos (alk_t (k := k) (by omega) (by omega))]) (if_neg (fun q => q.2.1.2 (alk_t (k := k) (by omega) (by omega)))).symm)
                        · refine Wp.iload rfl dX12_alike_163 ?_
                          refine Wp.if_eq (tgt := 172) dX12_alike_165 (by decide) (by first | omega | exact bI_R _ | exact cmp_R _ _ | assumption) (fun c165 => ?_) (fun c165 => ?_)
                          · refine Wp.iinc (ls' := [_, _, _, _, _, _, _, _]) rfl dX12_alike_172 (by decide) rfl ?_
                            refine Wp.goto (tgt := 45) dX12_alike_175 (by decide) ?_
                            exact ih (k + 1) _ _ _ (by omega) (by omega) (alk_f e0 (by omega))
                          · refine Wp.sipush rfl dX12_alike_168 ?_
                            refine Wp.ireturn dX12_alike_171 rfl ?_
                            first | (exfalso; omega) | (exact qIM hq (by unfold aAlike; rw [if_pos hok, if_neg hab, if_pos (alk_t (k := k) (by omega) (by omega))]) (if_neg (fun q => q.2.1.2 (alk_t (k := k) (by omega) (by omega)))).symm)
  refine Wp.iload_n rfl dX12_alike_0 ?_
  refine Wp.callS (As := [_]) (ls0 := [_]) (bd := (0, 0)) (bd' := (0, 0)) dX12_alike_1 kmX12_isTongue lkX12_147 (by decide) (by decide) (Nat.le_of_ble_eq_true rfl) rfl rfl (Nat.le_of_ble_eq_true rfl) rfl ?_
  refine ct_X12_isTongue (by omega) ?_
  show Wp _ _ _ (_ :: _) _ _ _
  refine Wp.if_eqB (tgt := 29) dX12_alike_4 (by decide) (fun c4 => ?_) (fun c4 => ?_)
  · refine Wp.sipush rfl dX12_alike_29 ?_
    refine Wp.ireturn dX12_alike_32 rfl ?_
    first | (exfalso; omega) | (exact qIM hq (by unfold aAlike; (repeat' split) <;> first | (exfalso; omega) | rfl) (if_neg (fun q => by have q1 := q.1; have q2 := q.2.1.1; omega)).symm)
  · refine Wp.iload_n rfl dX12_alike_7 ?_
    refine Wp.callS (As := [_]) (ls0 := [_]) (bd := (0, 0)) (bd' := (0, 0)) dX12_alike_8 kmX12_isWord lkX12_182 (by decide) (by decide) (Nat.le_of_ble_eq_true rfl) rfl rfl (Nat.le_of_ble_eq_true rfl) rfl ?_
    refine ct_X12_isWord (by omega) ?_
    show Wp _ _ _ (_ :: _) _ _ _
    refine Wp.if_eqB (tgt := 29) dX12_alike_11 (by decide) (fun c11 => ?_) (fun c11 => ?_)
    · refine Wp.sipush rfl dX12_alike_29 ?_
      refine Wp.ireturn dX12_alike_32 rfl ?_
      first | (exfalso; omega) | (exact qIM hq (by unfold aAlike; (repeat' split) <;> first | (exfalso; omega) | rfl) (if_neg (fun q => by have q1 := q.1; have q2 := q.2.1.1; omega)).symm)
    · refine Wp.iload_n rfl dX12_alike_14 ?_
      refine Wp.callS (As := [_]) (ls0 := [_]) (bd := (0, 0)) (bd' := (0, 0)) dX12_alike_15 kmX12_isTongue lkX12_147 (by decide) (by decide) (Nat.le_of_ble_eq_true rfl) rfl rfl (Nat.le_of_ble_eq_true rfl) rfl ?_
      refine ct_X12_isTongue (by omega) ?_
      show Wp _ _ _ (_ :: _) _ _ _
      refine Wp.if_eqB (tgt := 29) dX12_alike_18 (by decide) (fun c18 => ?_) (fun c18 => ?_)
      · refine Wp.sipush rfl dX12_alike_29 ?_
        refine Wp.ireturn dX12_alike_32 rfl ?_
        first | (exfalso; omega) | (exact qIM hq (by unfold aAlike; (repeat' split) <;> first | (exfalso; omega) | rfl) (if_neg (fun q => by have q1 := q.1; have q2 := q.2.1.1; omega)).symm)
      · refine Wp.iload rfl dX12_alike_21 ?_
        refine Wp.callS (As := [_]) (ls0 := [_]) (bd := (0, 0)) (bd' := (0, 0)) dX12_alike_23 kmX12_isWord lkX12_182 (by decide) (by decide) (Nat.le_of_ble_eq_true rfl) rfl rfl (Nat.le_of_ble_eq_true rfl) rfl ?_
        refine ct_X12_isWord (by omega) ?_
        show Wp _ _ _ (_ :: _) _ _ _
        refine Wp.if_neB (tgt := 33) dX12_alike_26 (by decide) (fun c26 => ?_) (fun c26 => ?_)
        · refine Wp.iload_n rfl dX12_alike_33 ?_
          refine Wp.iload_n rfl dX12_alike_34 ?_
          refine Wp.icmp_ne (tgt := 42) dX12_alike_35 (by decide) (by first | omega | exact bI_R _ | exact cmp_R _ _ | assumption) (by first | omega | exact bI_R _ | exact cmp_R _ _ | assumption) (fun c35 => ?_) (fun c35 => ?_)
          · refine Wp.iconst dX12_alike_42 ?_
            refine Wp.istore (ls' := [_, _, _, _, _, _, _, _]) dX12_alike_43 (by decide) rfl ?_
            exact lp ⟨by omega, by omega, by omega, by omega⟩ (by omega) (I 32 25).toNat 0 _ _ _ (by omega) (by omega) rfl
          · refine Wp.sipush rfl dX12_alike_38 ?_
            refine Wp.ireturn dX12_alike_41 rfl ?_
            first | (exfalso; omega) | (exact qIM hq (by unfold aAlike; (repeat' split) <;> first | (exfalso; omega) | rfl) (if_neg (fun q => by have q1 := q.1; have q2 := q.2.1.1; omega)).symm)
        · refine Wp.sipush rfl dX12_alike_29 ?_
          refine Wp.ireturn dX12_alike_32 rfl ?_
          first | (exfalso; omega) | (exact qIM hq (by unfold aAlike; (repeat' split) <;> first | (exfalso; omega) | rfl) (if_neg (fun q => by have q1 := q.1; have q2 := q.2.1.1; omega)).symm)
end

