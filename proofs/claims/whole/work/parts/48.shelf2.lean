/-! ===== the class's shelf: entries, what they give ===== -/
theorem latN_e (I : Nat → Int → Int) (lk a w b : Int) : ∀ j : Nat, 0 ≤ latN I lk a w b j → I 33 (latN I lk a w b j) = a ∧ I 34 (latN I lk a w b j) = b
  | 0, h => by simp [latN] at h
  | j + 1, h => by
    simp only [latN] at h ⊢
    split
    · rename_i h2; exact ⟨h2.1.2.2.1, h2.1.2.2.2.1⟩
    · rename_i h2
      rw [if_neg h2] at h
      exact latN_e I lk a w b j h
theorem bkA_t {I : Nat → Int → Int} {z : Int} (h0 : 0 ≤ z) (h1 : z < I 32 0) : bkA I z = some (57 + 7 * z.toNat) := if_pos ⟨h0, h1⟩
theorem bkA_f {I : Nat → Int → Int} {z : Int} (h : ¬ (0 ≤ z ∧ z < I 32 0)) : bkA I z = none := if_neg h
section
variable {I : Nat → Int → Int} {L : Nat → Int → BitVec 64} {R : Nat → Int → Option Nat} {n : Nat} {m : Mm} {Q : Option AV → Mm → Prop}
theorem latN_t {lk a w b : Int} {k : Nat} (h : entW I lk a w b k ∧ (latN I lk a w b k < 0 ∨ I 35 (latN I lk a w b k) ≤ I 35 k)) : (k : Int) = latN I lk a w b (k + 1) := by simp only [latN]; rw [if_pos h]
theorem latN_f {lk a w b : Int} {k : Nat} (h : ¬ (entW I lk a w b k ∧ (latN I lk a w b k < 0 ∨ I 35 (latN I lk a w b k) ≤ I 35 k))) : latN I lk a w b k = latN I lk a w b (k + 1) := by simp only [latN]; rw [if_neg h]
theorem ct_X8_latest {a w b : Int} (hS : ShR I L R n) (ha : inR a) (hb : inR b) (h0 : 0 ≤ w) (h1 : w < 60) (hq : Q (some (vi (lat I 255 a w b))) (I, L, R, n)) : Wp mX8_latest 0 [some (vr (some 4)), some (vi a), some (vi w), some (vi b), none, none, none] [] (I, L, R, n) (0, 0) Q := by
  have hn := hS.1
  have hW := hS.2.2.1
  have hN0 := hW.1
  have hN1 := hW.2.1
  have s2 := hS.2.2.2.1
  have lp : ∀ (tt k : Nat) (z : Int) (f : Int) (x6 : Option AV), k + tt = (I 32 0).toNat → z = k → f = latN I 255 a w b k → Wp mX8_latest 6 [some (vr (some 4)), some (vi a), some (vi w), some (vi b), some (vi f), some (vi z), x6] [] (I, L, R, n) (0, 0) Q := by
    intro tt
    induction tt with
    | zero =>
      intro k z f x6 hkt hz e0
      obtain rfl : k = (I 32 0).toNat := by omega
      refine Wp.iload rfl dX8_latest_6 ?_
      refine Wp.aload_n rfl dX8_latest_8 ?_
      refine Wp.gi (kz := 2) rfl dX8_latest_9 fkX8_21 (by first | rfl | exact kd_b0 _ | exact kd_b1 _ | exact kd_b2 _ | exact kd_b3 _ | exact kd_b4 _ | exact kd_b5 _ | exact kd_b6 _) (by omega) ?_
      refine Wp.icmp_ge (tgt := 95) dX8_latest_12 (by decide) (by first | omega | exact bI_R _ | exact cmp_R _ _ | assumption) (by first | omega | exact bI_R _ | exact cmp_R _ _ | assumption) (fun c12 => ?_) (fun c12 => ?_)
      · refine Wp.iload rfl dX8_latest_95 ?_
        refine Wp.ireturn dX8_latest_97 rfl ?_
        first | (exfalso; omega) | (exact qI hq e0)
      · exfalso; omega
    | succ tt ih =>
      intro k z f x6 hkt hz e0
      subst hz
      subst e0
      have hfB := latN_B I 255 a w b k
      have hfe := latN_e I 255 a w b k
      have hf35 : 0 ≤ latN I 255 a w b k → 0 ≤ I 35 (latN I 255 a w b k) ∧ I 35 (latN I 255 a w b k) ≤ 999 := fun h => (hW.b h (by omega)).2.2.2.2.2
      have hkb := hW.b (z := k) (by omega) (by omega)
      have hbt := bit255 (k := k) (by omega)
      have hB := hS.2.2.2.2.2.2 k (by omega)
      have hn7 := hB.2.2.1
      have b0 := hB.2.2.2.1
      have b1 := hB.2.2.2.2.1
      have hhd := hB.hd h0 h1
      refine Wp.iload rfl dX8_latest_6 ?_
      refine Wp.aload_n rfl dX8_latest_8 ?_
      refine Wp.gi (kz := 2) rfl dX8_latest_9 fkX8_21 (by first | rfl | exact kd_b0 _ | exact kd_b1 _ | exact kd_b2 _ | exact kd_b3 _ | exact kd_b4 _ | exact kd_b5 _ | exact kd_b6 _) (by omega) ?_
      refine Wp.icmp_ge (tgt := 95) dX8_latest_12 (by decide) (by first | omega | exact bI_R _ | exact cmp_R _ _ | assumption) (by first | omega | exact bI_R _ | exact cmp_R _ _ | assumption) (fun c12 => ?_) (fun c12 => ?_)
      · exfalso; omega
      · refine Wp.aload_n rfl dX8_latest_15 ?_
        refine Wp.iload rfl dX8_latest_16 ?_
        refine Wp.callV (As := [_]) (ls0 := [_, _, _]) (bd := (0, 0)) (bd' := (0, 0)) dX8_latest_18 kmX8_currentAt lkX8_44 (by decide) (by decide) (Nat.le_of_ble_eq_true rfl) (by first | rfl | exact kd_b0 _ | exact kd_b1 _ | exact kd_b2 _ | exact kd_b3 _ | exact kd_b4 _ | exact kd_b5 _ | exact kd_b6 _) (by omega) rfl rfl (Nat.le_of_ble_eq_true rfl) rfl ?_
        refine ct_X8_currentAt hS (by omega) ?_
        show Wp _ _ _ (_ :: _) _ _ _
        refine Wp.astore (ls' := [_, _, _, _, _, _, _]) dX8_latest_21 (by decide) rfl ?_
        refine Wp.aload rfl dX8_latest_23 ?_
        refine Wp.ifnull (tgt := 89) dX8_latest_25 (by decide) (fun c25 => ?_) (fun o25 c25 => ?_)
        · refine Wp.iinc (ls' := [_, _, _, _, _, _, _]) rfl dX8_latest_89 (by decide) rfl ?_
          refine Wp.goto (tgt := 6) dX8_latest_92 (by decide) ?_
          first | exact ih (k + 1) _ _ _ (by omega) (by omega) (latN_t ⟨⟨hbt, hday, by omega, by omega, hhd.mp c55.2.2⟩, Or.inl (by omega)⟩) | exact ih (k + 1) _ _ _ (by omega) (by omega) (latN_t ⟨⟨hbt, hday, by omega, by omega, hhd.mp c55.2.2⟩, Or.inr (by omega)⟩) | exact ih (k + 1) _ _ _ (by omega) (by omega) (latN_f (fun q => cuA_n c25 ⟨⟨by omega, by omega⟩, q.1.2.1⟩)) | exact ih (k + 1) _ _ _ (by omega) (by omega) (latN_f (fun q => absurd q.1.2.2.1 (by omega))) | exact ih (k + 1) _ _ _ (by omega) (by omega) (latN_f (fun q => absurd q.1.2.2.2.1 (by omega))) | exact ih (k + 1) _ _ _ (by omega) (by omega) (latN_f (fun q => c55 ⟨h0, h1, hhd.mpr q.1.2.2.2.2⟩)) | exact ih (k + 1) _ _ _ (by omega) (by omega) (latN_f (fun q => absurd q.2 (fun q2 => c82 ⟨by omega, by omega, by omega⟩))) | (exfalso; omega)
        · obtain ⟨ho, hz0, hz1, hday⟩ := cuA_s c25
          have ho' : o25 = 57 + 7 * k := ho
          subst ho'
          rw [c25]
          refine Wp.aload rfl dX8_latest_28 ?_
          refine Wp.gi (kz := 0) rfl dX8_latest_30 fkX8_47 (by first | rfl | exact kd_b0 _ | exact kd_b1 _ | exact kd_b2 _ | exact kd_b3 _ | exact kd_b4 _ | exact kd_b5 _ | exact kd_b6 _) (by omega) ?_
          refine Wp.iload_n rfl dX8_latest_33 ?_
          refine Wp.icmp_ne (tgt := 89) dX8_latest_34 (by decide) (by first | omega | exact bI_R _ | exact cmp_R _ _ | assumption) (by first | omega | exact bI_R _ | exact cmp_R _ _ | assumption) (fun c34 => ?_) (fun c34 => ?_)
          · refine Wp.iinc (ls' := [_, _, _, _, _, _, _]) rfl dX8_latest_89 (by decide) rfl ?_
            refine Wp.goto (tgt := 6) dX8_latest_92 (by decide) ?_
            first | exact ih (k + 1) _ _ _ (by omega) (by omega) (latN_t ⟨⟨hbt, hday, by omega, by omega, hhd.mp c55.2.2⟩, Or.inl (by omega)⟩) | exact ih (k + 1) _ _ _ (by omega) (by omega) (latN_t ⟨⟨hbt, hday, by omega, by omega, hhd.mp c55.2.2⟩, Or.inr (by omega)⟩) | exact ih (k + 1) _ _ _ (by omega) (by omega) (latN_f (fun q => cuA_n c25 ⟨⟨by omega, by omega⟩, q.1.2.1⟩)) | exact ih (k + 1) _ _ _ (by omega) (by omega) (latN_f (fun q => absurd q.1.2.2.1 (by omega))) | exact ih (k + 1) _ _ _ (by omega) (by omega) (latN_f (fun q => absurd q.1.2.2.2.1 (by omega))) | exact ih (k + 1) _ _ _ (by omega) (by omega) (latN_f (fun q => c55 ⟨h0, h1, hhd.mpr q.1.2.2.2.2⟩)) | exact ih (k + 1) _ _ _ (by omega) (by omega) (latN_f (fun q => absurd q.2 (fun q2 => c82 ⟨by omega, by omega, by omega⟩))) | (exfalso; omega)
          · refine Wp.aload rfl dX8_latest_37 ?_
            refine Wp.gi (kz := 1) rfl dX8_latest_39 fkX8_50 (by first | rfl | exact kd_b0 _ | exact kd_b1 _ | exact kd_b2 _ | exact kd_b3 _ | exact kd_b4 _ | exact kd_b5 _ | exact kd_b6 _) (by omega) ?_
            refine Wp.iload_n rfl dX8_latest_42 ?_
            refine Wp.icmp_ne (tgt := 89) dX8_latest_43 (by decide) (by first | omega | exact bI_R _ | exact cmp_R _ _ | assumption) (by first | omega | exact bI_R _ | exact cmp_R _ _ | assumption) (fun c43 => ?_) (fun c43 => ?_)
            · refine Wp.iinc (ls' := [_, _, _, _, _, _, _]) rfl dX8_latest_89 (by decide) rfl ?_
              refine Wp.goto (tgt := 6) dX8_latest_92 (by decide) ?_
              first | exact ih (k + 1) _ _ _ (by omega) (by omega) (latN_t ⟨⟨hbt, hday, by omega, by omega, hhd.mp c55.2.2⟩, Or.inl (by omega)⟩) | exact ih (k + 1) _ _ _ (by omega) (by omega) (latN_t ⟨⟨hbt, hday, by omega, by omega, hhd.mp c55.2.2⟩, Or.inr (by omega)⟩) | exact ih (k + 1) _ _ _ (by omega) (by omega) (latN_f (fun q => cuA_n c25 ⟨⟨by omega, by omega⟩, q.1.2.1⟩)) | exact ih (k + 1) _ _ _ (by omega) (by omega) (latN_f (fun q => absurd q.1.2.2.1 (by omega))) | exact ih (k + 1) _ _ _ (by omega) (by omega) (latN_f (fun q => absurd q.1.2.2.2.1 (by omega))) | exact ih (k + 1) _ _ _ (by omega) (by omega) (latN_f (fun q => c55 ⟨h0, h1, hhd.mpr q.1.2.2.2.2⟩)) | exact ih (k + 1) _ _ _ (by omega) (by omega) (latN_f (fun q => absurd q.2 (fun q2 => c82 ⟨by omega, by omega, by omega⟩))) | (exfalso; omega)
            · refine Wp.aload rfl dX8_latest_46 ?_
              refine Wp.gl (kz := 3) rfl dX8_latest_48 fkX8_53 (by first | rfl | exact kd_b0 _ | exact kd_b1 _ | exact kd_b2 _ | exact kd_b3 _ | exact kd_b4 _ | exact kd_b5 _ | exact kd_b6 _) (by omega) ?_
              refine Wp.iload_n rfl dX8_latest_51 ?_
              refine Wp.callS (As := [_, _]) (ls0 := [_, _, _]) (bd := (0, 0)) (bd' := (0, 0)) dX8_latest_52 kmX11_has lkX8_57 (by decide) (by decide) (Nat.le_of_ble_eq_true rfl) rfl rfl (Nat.le_of_ble_eq_true rfl) rfl ?_
              refine ct_X11_has (by omega) ?_
              show Wp _ _ _ (_ :: _) _ _ _
              refine Wp.if_neB (tgt := 61) dX8_latest_55 (by decide) (fun c55 => ?_) (fun c55 => ?_)
              · refine Wp.iload rfl dX8_latest_61 ?_
                refine Wp.iconst dX8_latest_63 ?_
                refine Wp.icmp_eq (tgt := 85) dX8_latest_64 (by decide) (by first | omega | exact bI_R _ | exact cmp_R _ _ | assumption) (by first | omega | exact bI_R _ | exact cmp_R _ _ | assumption) (fun c64 => ?_) (fun c64 => ?_)
                · refine Wp.iload rfl dX8_latest_85 ?_
                  refine Wp.istore (ls' := [_, _, _, _, _, _, _]) dX8_latest_87 (by decide) rfl ?_
                  refine Wp.iinc (ls' := [_, _, _, _, _, _, _]) rfl dX8_latest_89 (by decide) rfl ?_
                  refine Wp.goto (tgt := 6) dX8_latest_92 (by decide) ?_
                  first | exact ih (k + 1) _ _ _ (by omega) (by omega) (latN_t ⟨⟨hbt, hday, by omega, by omega, hhd.mp c55.2.2⟩, Or.inl (by omega)⟩) | exact ih (k + 1) _ _ _ (by omega) (by omega) (latN_t ⟨⟨hbt, hday, by omega, by omega, hhd.mp c55.2.2⟩, Or.inr (by omega)⟩) | exact ih (k + 1) _ _ _ (by omega) (by omega) (latN_f (fun q => cuA_n c25 ⟨⟨by omega, by omega⟩, q.1.2.1⟩)) | exact ih (k + 1) _ _ _ (by omega) (by omega) (latN_f (fun q => absurd q.1.2.2.1 (by omega))) | exact ih (k + 1) _ _ _ (by omega) (by omega) (latN_f (fun q => absurd q.1.2.2.2.1 (by omega))) | exact ih (k + 1) _ _ _ (by omega) (by omega) (latN_f (fun q => c55 ⟨h0, h1, hhd.mpr q.1.2.2.2.2⟩)) | exact ih (k + 1) _ _ _ (by omega) (by omega) (latN_f (fun q => absurd q.2 (fun q2 => c82 ⟨by omega, by omega, by omega⟩))) | (exfalso; omega)
                · refine Wp.aload rfl dX8_latest_67 ?_
                  refine Wp.iload rfl dX8_latest_69 ?_
                  refine Wp.aload_n rfl dX8_latest_71 ?_
                  refine Wp.iload rfl dX8_latest_72 ?_
                  refine Wp.callV (As := [_]) (ls0 := [_, _]) (bd := (0, 0)) (bd' := (0, 0)) dX8_latest_74 kmX8_bookAt lkX8_37 (by decide) (by decide) (Nat.le_of_ble_eq_true rfl) (by first | rfl | exact kd_b0 _ | exact kd_b1 _ | exact kd_b2 _ | exact kd_b3 _ | exact kd_b4 _ | exact kd_b5 _ | exact kd_b6 _) (by omega) rfl rfl (Nat.le_of_ble_eq_true rfl) rfl ?_
                  refine ct_X8_bookAt hS (by omega) ?_
                  show Wp _ _ _ (_ :: _) _ _ _
                  rw [bkA_t (z := latN I 255 a w b k) (by omega) (by omega)]
                  refine Wp.iload rfl dX8_latest_77 ?_
                  refine Wp.callV (As := [_, _, _]) (ls0 := [_, _, _, _]) (bd := (0, 0)) (bd' := (0, 0)) dX8_latest_79 kmX0_supersedes lkX8_61 (by decide) (by decide) (Nat.le_of_ble_eq_true rfl) (by first | rfl | exact kd_b0 _ | exact kd_b1 _ | exact kd_b2 _ | exact kd_b3 _ | exact kd_b4 _ | exact kd_b5 _ | exact kd_b6 _) (by omega) rfl rfl (Nat.le_of_ble_eq_true rfl) rfl ?_
                  refine ct_X0_supersedes (ka := k) (kc := (latN I 255 a w b k).toNat) hB (hS.2.2.2.2.2.2 _ (by omega)) hW (by omega) (by omega) (by omega) (by omega) ?_
                  rw [show (((latN I 255 a w b k).toNat : Nat) : Int) = latN I 255 a w b k by omega]
                  show Wp _ _ _ (_ :: _) _ _ _
                  refine Wp.if_eqB (tgt := 89) dX8_latest_82 (by decide) (fun c82 => ?_) (fun c82 => ?_)
                  · refine Wp.iinc (ls' := [_, _, _, _, _, _, _]) rfl dX8_latest_89 (by decide) rfl ?_
                    refine Wp.goto (tgt := 6) dX8_latest_92 (by decide) ?_
                    first | exact ih (k + 1) _ _ _ (by omega) (by omega) (latN_t ⟨⟨hbt, hday, by omega, by omega, hhd.mp c55.2.2⟩, Or.inl (by omega)⟩) | exact ih (k + 1) _ _ _ (by omega) (by omega) (latN_t ⟨⟨hbt, hday, by omega, by omega, hhd.mp c55.2.2⟩, Or.inr (by omega)⟩) | exact ih (k + 1) _ _ _ (by omega) (by omega) (latN_f (fun q => cuA_n c25 ⟨⟨by omega, by omega⟩, q.1.2.1⟩)) | exact ih (k + 1) _ _ _ (by omega) (by omega) (latN_f (fun q => absurd q.1.2.2.1 (by omega))) | exact ih (k + 1) _ _ _ (by omega) (by omega) (latN_f (fun q => absurd q.1.2.2.2.1 (by omega))) | exact ih (k + 1) _ _ _ (by omega) (by omega) (latN_f (fun q => c55 ⟨h0, h1, hhd.mpr q.1.2.2.2.2⟩)) | exact ih (k + 1) _ _ _ (by omega) (by omega) (latN_f (fun q => absurd q.2 (fun q2 => c82 ⟨by omega, by omega, by omega⟩))) | (exfalso; omega)
                  · refine Wp.iload rfl dX8_latest_85 ?_
                    refine Wp.istore (ls' := [_, _, _, _, _, _, _]) dX8_latest_87 (by decide) rfl ?_
                    refine Wp.iinc (ls' := [_, _, _, _, _, _, _]) rfl dX8_latest_89 (by decide) rfl ?_
                    refine Wp.goto (tgt := 6) dX8_latest_92 (by decide) ?_
                    first | exact ih (k + 1) _ _ _ (by omega) (by omega) (latN_t ⟨⟨hbt, hday, by omega, by omega, hhd.mp c55.2.2⟩, Or.inl (by omega)⟩) | exact ih (k + 1) _ _ _ (by omega) (by omega) (latN_t ⟨⟨hbt, hday, by omega, by omega, hhd.mp c55.2.2⟩, Or.inr (by omega)⟩) | exact ih (k + 1) _ _ _ (by omega) (by omega) (latN_f (fun q => cuA_n c25 ⟨⟨by omega, by omega⟩, q.1.2.1⟩)) | exact ih (k + 1) _ _ _ (by omega) (by omega) (latN_f (fun q => absurd q.1.2.2.1 (by omega))) | exact ih (k + 1) _ _ _ (by omega) (by omega) (latN_f (fun q => absurd q.1.2.2.2.1 (by omega))) | exact ih (k + 1) _ _ _ (by omega) (by omega) (latN_f (fun q => c55 ⟨h0, h1, hhd.mpr q.1.2.2.2.2⟩)) | exact ih (k + 1) _ _ _ (by omega) (by omega) (latN_f (fun q => absurd q.2 (fun q2 => c82 ⟨by omega, by omega, by omega⟩))) | (exfalso; omega)
              · refine Wp.goto (tgt := 89) dX8_latest_58 (by decide) ?_
                refine Wp.iinc (ls' := [_, _, _, _, _, _, _]) rfl dX8_latest_89 (by decide) rfl ?_
                refine Wp.goto (tgt := 6) dX8_latest_92 (by decide) ?_
                first | exact ih (k + 1) _ _ _ (by omega) (by omega) (latN_t ⟨⟨hbt, hday, by omega, by omega, hhd.mp c55.2.2⟩, Or.inl (by omega)⟩) | exact ih (k + 1) _ _ _ (by omega) (by omega) (latN_t ⟨⟨hbt, hday, by omega, by omega, hhd.mp c55.2.2⟩, Or.inr (by omega)⟩) | exact ih (k + 1) _ _ _ (by omega) (by omega) (latN_f (fun q => cuA_n c25 ⟨⟨by omega, by omega⟩, q.1.2.1⟩)) | exact ih (k + 1) _ _ _ (by omega) (by omega) (latN_f (fun q => absurd q.1.2.2.1 (by omega))) | exact ih (k + 1) _ _ _ (by omega) (by omega) (latN_f (fun q => absurd q.1.2.2.2.1 (by omega))) | exact ih (k + 1) _ _ _ (by omega) (by omega) (latN_f (fun q => c55 ⟨h0, h1, hhd.mpr q.1.2.2.2.2⟩)) | exact ih (k + 1) _ _ _ (by omega) (by omega) (latN_f (fun q => absurd q.2 (fun q2 => c82 ⟨by omega, by omega, by omega⟩))) | (exfalso; omega)
  refine Wp.iconst dX8_latest_0 ?_
  refine Wp.istore (ls' := [_, _, _, _, _, _, _]) dX8_latest_1 (by decide) rfl ?_
  refine Wp.iconst dX8_latest_3 ?_
  refine Wp.istore (ls' := [_, _, _, _, _, _, _]) dX8_latest_4 (by decide) rfl ?_
  exact lp (I 32 0).toNat 0 _ _ _ (by omega) (by omega) rfl
theorem ent_lat (hW : RW I) {lk a w b : Int} (h0 : 0 ≤ w) : lat I lk a w b < 0 ∧ ent I lk a w b = -1 ∨ 0 ≤ lat I lk a w b ∧ lat I lk a w b < I 32 0 ∧ ent I lk a w b = 60 * lat I lk a w b + w := by
  have h := lat_B I hW.1 lk a w b
  unfold ent
  split
  · left; exact ⟨by assumption, rfl⟩
  · right; exact ⟨by omega, h.2, rfl⟩
theorem ct_X8_given {a w b : Int} (hS : ShR I L R n) (ha : inR a) (hb : inR b) (h0 : 0 ≤ w) (h1 : w < 60) (hq : Q (some (vl (gv I 255 a w b))) (I, L, R, n)) : Wp mX8_given 0 [some (vr (some 4)), some (vi a), some (vi w), some (vi b), none] [] (I, L, R, n) (0, 0) Q := by
  have hn := hS.1
  have hW := hS.2.2.1
  have hA := hW.2.2.2.2.1
  have s4 := hS.2.2.2.2.2.1
  have hE := ent_lat hW (lk := 255) (a := a) (b := b) h0
  have hB := lat_B I hW.1 255 a w b
  have hN1 := hW.2.1
  have hgn : lat I 255 a w b < 0 → 0#64 = gv I 255 a w b := fun h => by
    unfold gv ge
    rw [if_pos (by omega)]
  have hgs : 0 ≤ lat I 255 a w b → geN I (I 32 10) (60 * lat I 255 a w b + w) (I 36 (60 * lat I 255 a w b + w)).toNat = gv I 255 a w b := fun h => by
    unfold gv ge
    rw [if_neg (by omega), show ent I 255 a w b = 60 * lat I 255 a w b + w by omega]
  refine Wp.aload_n rfl dX8_given_0 ?_
  refine Wp.aload_n rfl dX8_given_1 ?_
  refine Wp.iload_n rfl dX8_given_2 ?_
  refine Wp.iload_n rfl dX8_given_3 ?_
  refine Wp.iload_n rfl dX8_given_4 ?_
  refine Wp.callV (As := [_, _, _]) (ls0 := [_, _, _, _, _, _, _]) (bd := (0, 0)) (bd' := (0, 0)) dX8_given_5 kmX8_latest lkX8_65 (by decide) (by decide) (Nat.le_of_ble_eq_true rfl) (by first | rfl | exact kd_b0 _ | exact kd_b1 _ | exact kd_b2 _ | exact kd_b3 _ | exact kd_b4 _ | exact kd_b5 _ | exact kd_b6 _) (by omega) rfl rfl (Nat.le_of_ble_eq_true rfl) rfl ?_
  refine ct_X8_latest hS (by omega) (by omega) (by omega) (by omega) ?_
  show Wp _ _ _ (_ :: _) _ _ _
  refine Wp.callV (As := [_]) (ls0 := [_, _]) (bd := (0, 0)) (bd' := (0, 0)) dX8_given_8 kmX8_bookAt lkX8_37 (by decide) (by decide) (Nat.le_of_ble_eq_true rfl) (by first | rfl | exact kd_b0 _ | exact kd_b1 _ | exact kd_b2 _ | exact kd_b3 _ | exact kd_b4 _ | exact kd_b5 _ | exact kd_b6 _) (by omega) rfl rfl (Nat.le_of_ble_eq_true rfl) rfl ?_
  refine ct_X8_bookAt hS (by omega) ?_
  show Wp _ _ _ (_ :: _) _ _ _
  refine Wp.astore (ls' := [_, _, _, _, _]) dX8_given_11 (by decide) rfl ?_
  refine Wp.aload rfl dX8_given_13 ?_
  refine Wp.ifnonnull (tgt := 22) dX8_given_15 (by decide) (fun o15 c15 => ?_) (fun c15 => ?_)
  · obtain ⟨ho, hz0, hz1⟩ := bkA_s c15
    subst ho
    have hn7 := (hS.2.2.2.2.2.2 (lat I 255 a w b).toNat (by omega)).2.2.1
    rw [c15]
    refine Wp.aload rfl dX8_given_22 ?_
    refine Wp.iload_n rfl dX8_given_24 ?_
    refine Wp.aload_n rfl dX8_given_25 ?_
    refine Wp.gi (kz := 4) rfl dX8_given_26 fkX8_28 (by first | rfl | exact kd_b0 _ | exact kd_b1 _ | exact kd_b2 _ | exact kd_b3 _ | exact kd_b4 _ | exact kd_b5 _ | exact kd_b6 _) (by omega) ?_
    refine Wp.callV (As := [_, _]) (ls0 := [_, _, _, _, _, _, _]) (bd := (0, 0)) (bd' := (0, 0)) dX8_given_29 kmX0_entrySet lkX8_69 (by decide) (by decide) (Nat.le_of_ble_eq_true rfl) (by first | rfl | exact kd_b0 _ | exact kd_b1 _ | exact kd_b2 _ | exact kd_b3 _ | exact kd_b4 _ | exact kd_b5 _ | exact kd_b6 _) (by omega) rfl rfl (Nat.le_of_ble_eq_true rfl) rfl ?_
    refine ct_X0_entrySet (hS.2.2.2.2.2.2 _ (by omega)) hW (by omega) h0 h1 (by omega) ?_
    rw [show (((lat I 255 a w b).toNat : Nat) : Int) = lat I 255 a w b by omega, s4]
    show Wp _ _ _ (_ :: _) _ _ _
    refine Wp.lreturn dX8_given_32 rfl ?_
    first | (exfalso; omega) | (first | exact qL hq (hgs (by omega)) | exact qL hq (hgn (by have := bkA_n c15; omega)))
  · refine Wp.lconst0 dX8_given_18 ?_
    refine Wp.goto (tgt := 32) dX8_given_19 (by decide) ?_
    refine Wp.lreturn dX8_given_32 rfl ?_
    first | (exfalso; omega) | (first | exact qL hq (hgs (by omega)) | exact qL hq (hgn (by have := bkA_n c15; omega)))
theorem gaN_t {lk a b : Int} {s : BitVec 64} {k : Nat} (h : hasW s k) : gaN I lk a s b k ||| gv I lk a k b = gaN I lk a s b (k + 1) := by
  have h2 : s.getLsbD k = true := h.2.2
  simp only [gaN]; rw [if_pos h2]
theorem gaN_f {lk a b : Int} {s : BitVec 64} {k : Nat} (hk : k < 60) (h : ¬ hasW s k) : gaN I lk a s b k = gaN I lk a s b (k + 1) := by
  have h2 : ¬ s.getLsbD k = true := fun q => h ⟨by omega, by omega, q⟩
  simp only [gaN]; rw [if_neg h2, BitVec.or_zero]
theorem ct_X8_givenByAll {a b : Int} {s : BitVec 64} (hS : ShR I L R n) (ha : inR a) (hb : inR b) (hq : Q (some (vl (gaN I 255 a s b 60))) (I, L, R, n)) : Wp mX8_givenByAll 0 [some (vr (some 4)), some (vi a), some (vl s), none, some (vi b), none, none, none] [] (I, L, R, n) (0, 0) Q := by
  have hn := hS.1
  have lp : ∀ (tt k : Nat) (z : Int) (x : BitVec 64), k + tt = 60 → z = k → x = gaN I 255 a s b k → Wp mX8_givenByAll 6 [some (vr (some 4)), some (vi a), some (vl s), none, some (vi b), some (vl x), none, some (vi z)] [] (I, L, R, n) (0, 0) Q := by
    intro tt
    induction tt with
    | zero =>
      intro k z x hkt hz e0
      obtain rfl : k = 60 := by omega
      refine Wp.iload rfl dX8_givenByAll_6 ?_
      refine Wp.bipush rfl dX8_givenByAll_8 ?_
      refine Wp.icmp_ge (tgt := 42) dX8_givenByAll_10 (by decide) (by first | omega | exact bI_R _ | exact cmp_R _ _ | assumption) (by first | omega | exact bI_R _ | exact cmp_R _ _ | assumption) (fun c10 => ?_) (fun c10 => ?_)
      · refine Wp.lload rfl dX8_givenByAll_42 ?_
        refine Wp.lreturn dX8_givenByAll_44 rfl ?_
        first | (exfalso; omega) | (exact qL hq e0)
      · exfalso; omega
    | succ tt ih =>
      intro k z x hkt hz e0
      subst hz
      subst e0
      refine Wp.iload rfl dX8_givenByAll_6 ?_
      refine Wp.bipush rfl dX8_givenByAll_8 ?_
      refine Wp.icmp_ge (tgt := 42) dX8_givenByAll_10 (by decide) (by first | omega | exact bI_R _ | exact cmp_R _ _ | assumption) (by first | omega | exact bI_R _ | exact cmp_R _ _ | assumption) (fun c10 => ?_) (fun c10 => ?_)
      · exfalso; omega
      · refine Wp.lload_n rfl dX8_givenByAll_13 ?_
        refine Wp.iload rfl dX8_givenByAll_14 ?_
        refine Wp.callS (As := [_, _]) (ls0 := [_, _, _]) (bd := (0, 0)) (bd' := (0, 0)) dX8_givenByAll_16 kmX11_has lkX8_57 (by decide) (by decide) (Nat.le_of_ble_eq_true rfl) rfl rfl (Nat.le_of_ble_eq_true rfl) rfl ?_
        refine ct_X11_has (by omega) ?_
        show Wp _ _ _ (_ :: _) _ _ _
        refine Wp.if_eqB (tgt := 36) dX8_givenByAll_19 (by decide) (fun c19 => ?_) (fun c19 => ?_)
        · refine Wp.iinc (ls' := [_, _, _, _, _, _, _, _]) rfl dX8_givenByAll_36 (by decide) rfl ?_
          refine Wp.goto (tgt := 6) dX8_givenByAll_39 (by decide) ?_
          first | exact ih (k + 1) _ _ (by omega) (by omega) (gaN_t c19) | exact ih (k + 1) _ _ (by omega) (by omega) (gaN_f (by omega) c19) | (exfalso; omega)
        · refine Wp.lload rfl dX8_givenByAll_22 ?_
          refine Wp.aload_n rfl dX8_givenByAll_24 ?_
          refine Wp.iload_n rfl dX8_givenByAll_25 ?_
          refine Wp.iload rfl dX8_givenByAll_26 ?_
          refine Wp.iload rfl dX8_givenByAll_28 ?_
          refine Wp.callV (As := [_, _, _]) (ls0 := [_, _, _, _, _]) (bd := (0, 0)) (bd' := (0, 0)) dX8_givenByAll_30 kmX8_given lkX8_73 (by decide) (by decide) (Nat.le_of_ble_eq_true rfl) (by first | rfl | exact kd_b0 _ | exact kd_b1 _ | exact kd_b2 _ | exact kd_b3 _ | exact kd_b4 _ | exact kd_b5 _ | exact kd_b6 _) (by omega) rfl rfl (Nat.le_of_ble_eq_true rfl) rfl ?_
          refine ct_X8_given hS (by omega) (by omega) (by omega) (by omega) ?_
          show Wp _ _ _ (_ :: _) _ _ _
          refine Wp.lor dX8_givenByAll_33 ?_
          refine Wp.lstore (ls' := [_, _, _, _, _, _, _, _]) dX8_givenByAll_34 (by decide) rfl ?_
          refine Wp.iinc (ls' := [_, _, _, _, _, _, _, _]) rfl dX8_givenByAll_36 (by decide) rfl ?_
          refine Wp.goto (tgt := 6) dX8_givenByAll_39 (by decide) ?_
          first | exact ih (k + 1) _ _ (by omega) (by omega) (gaN_t c19) | exact ih (k + 1) _ _ (by omega) (by omega) (gaN_f (by omega) c19) | (exfalso; omega)
  refine Wp.lconst0 dX8_givenByAll_0 ?_
  refine Wp.lstore (ls' := [_, _, _, _, _, _, _, _]) dX8_givenByAll_1 (by decide) rfl ?_
  refine Wp.iconst dX8_givenByAll_3 ?_
  refine Wp.istore (ls' := [_, _, _, _, _, _, _, _]) dX8_givenByAll_4 (by decide) rfl ?_
  exact lp 60 0 _ _ (by omega) (by omega) rfl
/-- of the first k words of some those that give a word of a set -/
def gsN (I : Nat → Int → Int) (lk a : Int) (some : BitVec 64) (b : Int) (s : BitVec 64) : Nat → BitVec 64
  | 0 => 0#64
  | k + 1 => gsN I lk a some b s k ||| (if some.getLsbD k = true ∧ gv I lk a k b &&& s ≠ 0#64 then 1#64 <<< k else 0#64)
theorem gsN_0 {lk a b : Int} {sm s : BitVec 64} (h : sm = 0#64 ∨ s = 0#64) : ∀ k : Nat, gsN I lk a sm b s k = 0#64
  | 0 => rfl
  | k + 1 => by
    simp only [gsN]
    rw [gsN_0 h k, if_neg]
    · rfl
    · rintro ⟨h1, h2⟩
      rcases h with h | h
      · rw [h] at h1; simp at h1
      · rw [h] at h2; simp at h2
theorem gsN_t {lk a b : Int} {sm s : BitVec 64} {k : Nat} (h : hasW sm k) (h2 : ¬ gv I lk a k b &&& s = 0#64) : gsN I lk a sm b s k ||| 1#64 <<< k = gsN I lk a sm b s (k + 1) := by
  have h3 : sm.getLsbD k = true := h.2.2
  simp only [gsN]; rw [if_pos ⟨h3, h2⟩]
theorem gsN_f1 {lk a b : Int} {sm s : BitVec 64} {k : Nat} (h : gv I lk a k b &&& s = 0#64) : gsN I lk a sm b s k = gsN I lk a sm b s (k + 1) := by
  simp only [gsN]; rw [if_neg (fun q => q.2 h), BitVec.or_zero]
theorem gsN_f2 {lk a b : Int} {sm s : BitVec 64} {k : Nat} (hk : k < 60) (h : ¬ hasW sm k) : gsN I lk a sm b s k = gsN I lk a sm b s (k + 1) := by
  have h2 : ¬ sm.getLsbD k = true := fun q => h ⟨by omega, by omega, q⟩
  simp only [gsN]; rw [if_neg (fun q => h2 q.1), BitVec.or_zero]
theorem gsN_bit (lk a b : Int) (sm s : BitVec 64) : ∀ (k i : Nat), k ≤ 64 → ((gsN I lk a sm b s k).getLsbD i = true ↔ i < k ∧ sm.getLsbD i = true ∧ gv I lk a i b &&& s ≠ 0#64)
  | 0, i, _ => by simp [gsN]
  | k + 1, i, hk => by
    simp only [gsN]
    rw [BitVec.getLsbD_or, Bool.or_eq_true, gsN_bit lk a b sm s k i (by omega)]
    by_cases hi : i = k
    · subst hi
      split
      · rename_i h
        rw [shl1_bit i i (by omega)]
        simp [h.1, h.2]
      · rename_i h
        simp only [BitVec.getLsbD_zero]
        constructor
        · rintro (q | q)
          · omega
          · cases q
        · intro q; exact absurd q.2 h
    · have : (if sm.getLsbD k = true ∧ gv I lk a k b &&& s ≠ 0#64 then 1#64 <<< k else 0#64).getLsbD i = false := by
        split
        · rw [shl1_bit k i (by omega)]; simp [hi]
        · simp
      rw [this]
      constructor
      · rintro (q | q)
        · exact ⟨by omega, q.2⟩
        · cases q
      · intro q; exact Or.inl ⟨by omega, q.2⟩
theorem ct_X8_givers {a b : Int} {sm s : BitVec 64} (hS : ShR I L R n) (ha : inR a) (hb : inR b) (hq : Q (some (vl (gsN I 255 a sm b s 60))) (I, L, R, n)) : Wp mX8_givers 0 [some (vr (some 4)), some (vi a), some (vl sm), none, some (vi b), some (vl s), none, none, none, none] [] (I, L, R, n) (0, 0) Q := by
  have hn := hS.1
  have hz : (sm = 0#64 ∨ s = 0#64) → ∀ k, gsN I 255 a sm b s k = gsN I 255 a sm b s 60 := fun h k => by rw [gsN_0 h, gsN_0 h]
  have lp : ∀ (tt k : Nat) (z : Int) (x : BitVec 64), k + tt = 60 → z = k → x = gsN I 255 a sm b s k → Wp mX8_givers 6 [some (vr (some 4)), some (vi a), some (vl sm), none, some (vi b), some (vl s), none, some (vl x), none, some (vi z)] [] (I, L, R, n) (0, 0) Q := by
    intro tt
    induction tt with
    | zero =>
      intro k z x hkt hz e0
      obtain rfl : k = 60 := by omega
      refine Wp.iload rfl dX8_givers_6 ?_
      refine Wp.bipush rfl dX8_givers_8 ?_
      refine Wp.icmp_ge (tgt := 68) dX8_givers_10 (by decide) (by first | omega | exact bI_R _ | exact cmp_R _ _ | assumption) (by first | omega | exact bI_R _ | exact cmp_R _ _ | assumption) (fun c10 => ?_) (fun c10 => ?_)
      · refine Wp.lload rfl dX8_givers_68 ?_
        refine Wp.lreturn dX8_givers_70 rfl ?_
        first | (exfalso; omega) | (exact qL hq e0)
      · exfalso; omega
    | succ tt ih =>
      intro k z x hkt hz e0
      subst hz
      subst e0
      refine Wp.iload rfl dX8_givers_6 ?_
      refine Wp.bipush rfl dX8_givers_8 ?_
      refine Wp.icmp_ge (tgt := 68) dX8_givers_10 (by decide) (by first | omega | exact bI_R _ | exact cmp_R _ _ | assumption) (by first | omega | exact bI_R _ | exact cmp_R _ _ | assumption) (fun c10 => ?_) (fun c10 => ?_)
      · first | (exfalso; omega) | exact Wp.lload rfl dX8_givers_68 (Wp.lreturn dX8_givers_70 rfl (qL hq (hz (Or.inl c16) k))) | exact Wp.lload rfl dX8_givers_68 (Wp.lreturn dX8_givers_70 rfl (qL hq (hz (Or.inr c23) k)))
      · refine Wp.lload_n rfl dX8_givers_13 ?_
        refine Wp.lconst0 dX8_givers_14 ?_
        refine Wp.lcmp dX8_givers_15 ?_
        refine Wp.if_eqC (tgt := 68) dX8_givers_16 (by decide) (fun c16 => ?_) (fun c16 => ?_)
        · first | (exfalso; omega) | exact Wp.lload rfl dX8_givers_68 (Wp.lreturn dX8_givers_70 rfl (qL hq (hz (Or.inl c16) k))) | exact Wp.lload rfl dX8_givers_68 (Wp.lreturn dX8_givers_70 rfl (qL hq (hz (Or.inr c23) k)))
        · refine Wp.lload rfl dX8_givers_19 ?_
          refine Wp.lconst0 dX8_givers_21 ?_
          refine Wp.lcmp dX8_givers_22 ?_
          refine Wp.if_eqC (tgt := 68) dX8_givers_23 (by decide) (fun c23 => ?_) (fun c23 => ?_)
          · first | (exfalso; omega) | exact Wp.lload rfl dX8_givers_68 (Wp.lreturn dX8_givers_70 rfl (qL hq (hz (Or.inl c16) k))) | exact Wp.lload rfl dX8_givers_68 (Wp.lreturn dX8_givers_70 rfl (qL hq (hz (Or.inr c23) k)))
          · refine Wp.lload_n rfl dX8_givers_26 ?_
            refine Wp.iload rfl dX8_givers_27 ?_
            refine Wp.callS (As := [_, _]) (ls0 := [_, _, _]) (bd := (0, 0)) (bd' := (0, 0)) dX8_givers_29 kmX11_has lkX8_57 (by decide) (by decide) (Nat.le_of_ble_eq_true rfl) rfl rfl (Nat.le_of_ble_eq_true rfl) rfl ?_
            refine ct_X11_has (by omega) ?_
            show Wp _ _ _ (_ :: _) _ _ _
            refine Wp.if_eqB (tgt := 62) dX8_givers_32 (by decide) (fun c32 => ?_) (fun c32 => ?_)
            · refine Wp.iinc (ls' := [_, _, _, _, _, _, _, _, _, _]) rfl dX8_givers_62 (by decide) rfl ?_
              refine Wp.goto (tgt := 6) dX8_givers_65 (by decide) ?_
              first | exact ih (k + 1) _ _ (by omega) (by omega) (gsN_t c32 c49) | exact ih (k + 1) _ _ (by omega) (by omega) (gsN_f1 c49) | exact ih (k + 1) _ _ (by omega) (by omega) (gsN_f2 (by omega) c32) | (exfalso; omega)
            · refine Wp.aload_n rfl dX8_givers_35 ?_
              refine Wp.iload_n rfl dX8_givers_36 ?_
              refine Wp.iload rfl dX8_givers_37 ?_
              refine Wp.iload rfl dX8_givers_39 ?_
              refine Wp.callV (As := [_, _, _]) (ls0 := [_, _, _, _, _]) (bd := (0, 0)) (bd' := (0, 0)) dX8_givers_41 kmX8_given lkX8_73 (by decide) (by decide) (Nat.le_of_ble_eq_true rfl) (by first | rfl | exact kd_b0 _ | exact kd_b1 _ | exact kd_b2 _ | exact kd_b3 _ | exact kd_b4 _ | exact kd_b5 _ | exact kd_b6 _) (by omega) rfl rfl (Nat.le_of_ble_eq_true rfl) rfl ?_
              refine ct_X8_given hS (by omega) (by omega) (by omega) (by omega) ?_
              show Wp _ _ _ (_ :: _) _ _ _
              refine Wp.lload rfl dX8_givers_44 ?_
              refine Wp.land dX8_givers_46 ?_
              refine Wp.lconst0 dX8_givers_47 ?_
              refine Wp.lcmp dX8_givers_48 ?_
              refine Wp.if_eqC (tgt := 62) dX8_givers_49 (by decide) (fun c49 => ?_) (fun c49 => ?_)
              · refine Wp.iinc (ls' := [_, _, _, _, _, _, _, _, _, _]) rfl dX8_givers_62 (by decide) rfl ?_
                refine Wp.goto (tgt := 6) dX8_givers_65 (by decide) ?_
                first | exact ih (k + 1) _ _ (by omega) (by omega) (gsN_t c32 c49) | exact ih (k + 1) _ _ (by omega) (by omega) (gsN_f1 c49) | exact ih (k + 1) _ _ (by omega) (by omega) (gsN_f2 (by omega) c32) | (exfalso; omega)
              · refine Wp.lload rfl dX8_givers_52 ?_
                refine Wp.iload rfl dX8_givers_54 ?_
                refine Wp.callS (As := [_]) (ls0 := [_]) (bd := (0, 0)) (bd' := (0, 0)) dX8_givers_56 kmX11_only lkX8_77 (by decide) (by decide) (Nat.le_of_ble_eq_true rfl) rfl rfl (Nat.le_of_ble_eq_true rfl) rfl ?_
                refine ct_X11_only (by omega) ?_
                rw [show onlyW (k : Int) = 1#64 <<< k from if_pos ⟨by omega, by omega⟩]
                show Wp _ _ _ (_ :: _) _ _ _
                refine Wp.lor dX8_givers_59 ?_
                refine Wp.lstore (ls' := [_, _, _, _, _, _, _, _, _, _]) dX8_givers_60 (by decide) rfl ?_
                refine Wp.iinc (ls' := [_, _, _, _, _, _, _, _, _, _]) rfl dX8_givers_62 (by decide) rfl ?_
                refine Wp.goto (tgt := 6) dX8_givers_65 (by decide) ?_
                first | exact ih (k + 1) _ _ (by omega) (by omega) (gsN_t c32 c49) | exact ih (k + 1) _ _ (by omega) (by omega) (gsN_f1 c49) | exact ih (k + 1) _ _ (by omega) (by omega) (gsN_f2 (by omega) c32) | (exfalso; omega)
  refine Wp.lconst0 dX8_givers_0 ?_
  refine Wp.lstore (ls' := [_, _, _, _, _, _, _, _, _, _]) dX8_givers_1 (by decide) rfl ?_
  refine Wp.iconst dX8_givers_3 ?_
  refine Wp.istore (ls' := [_, _, _, _, _, _, _, _, _, _]) dX8_givers_4 (by decide) rfl ?_
  exact lp 60 0 _ _ (by omega) (by omega) rfl
end

