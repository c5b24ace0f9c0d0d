/-! ===== the law: from its entry to its end ===== -/
section
variable {I : Nat → Int → Int} {L : Nat → Int → BitVec 64} {R : Nat → Int → Option Nat} {n : Nat} {N : Nat} {xs : Nat → Int32} {Q : Option AV → Mm → Prop}
theorem lw_loop (hN : N ≤ 3584) (hq : ∀ m, Q (some (vi 1)) m) : ∀ (tt : Nat) (i : Int) (I : Nat → Int → Int) (L : Nat → Int → BitVec 64) (R : Nat → Int → Option Nat) (n : Nat), 0 ≤ i → i ≤ 3584 → (N - i).toNat < tt → SR I L R n → Wp (mL_law N xs) 18 [some (vr (some 1000000)), some (vr (some 0)), some (vr (some 32)), some (vi i)] [] (I, L, R, n) (bq n) Q := by
  intro tt
  induction tt with
  | zero => intro i I L R n h0 h1 h2; omega
  | succ tt ih =>
    intro i I L R n h0 h1 hm hSR
    have hc : i + 7 ≤ N → ∀ I' L' R' n', SR I' L' R' n' → Wp (mL_law N xs) 1309 [some (vr (some 1000000)), some (vr (some 0)), some (vr (some 32)), some (vi i)] [] (I', L', R', n') (bq n') Q := by
      intro h7 I' L' R' n' hS'
      refine Wp.iinc (ls' := [_, _, _, _]) rfl dL_law_1309 (show _ < 4 by decide) rfl ?_
      refine Wp.goto (tgt := 18) dL_law_1312 (by decide) ?_
      exact ih (i + 7) I' L' R' n' (by omega) (by omega) (by omega) hS'
    have hend : Wp (mL_law N xs) 1315 [some (vr (some 1000000)), some (vr (some 0)), some (vr (some 32)), some (vi i)] [] (I, L, R, n) (bq n) Q := by
      refine Wp.spend (bd := (0, 0)) ?_ (Nat.zero_le _) (Nat.zero_le _)
      refine Wp.iconst dL_law_1315 ?_
      refine Wp.zreturn dL_law_1316 rfl (by first | omega | exact bI_01 _) ?_
      first | (exfalso; omega) | (exact hq _)
    refine Wp.iload_n rfl dL_law_18 ?_
    refine Wp.aload_n rfl dL_law_19 ?_
    refine Wp.slen rfl dL_law_20 ?_
    refine Wp.bipush rfl dL_law_21 ?_
    refine Wp.isub dL_law_23 ?_
    refine Wp.icmp_gt (tgt := 1315) dL_law_24 (by decide) (by first | omega | exact bI_R _ | exact cmp_R _ _ | assumption) (by first | omega | exact bI_R _ | exact cmp_R _ _ | assumption) (fun c24 => ?_) (fun c24 => ?_)
    · exact hend
    · refine Wp.aload_n rfl dL_law_27 ?_
      refine Wp.iload_n rfl dL_law_28 ?_
      refine Wp.sld rfl dL_law_29 (by omega) (by omega) (by omega) ?_
      refine Wp.bipush rfl dL_law_30 ?_
      refine Wp.iand dL_law_32 ?_
      have hselR : inR (andI (xs i.toNat).toInt 31) := w_rng _
      generalize andI (xs i.toNat).toInt 31 = sel at hselR ⊢
      rcases (show sel < 0 ∨ 26 < sel ∨ sel = 0 ∨ sel = 1 ∨ sel = 2 ∨ sel = 3 ∨ sel = 4 ∨ sel = 5 ∨ sel = 6 ∨ sel = 7 ∨ sel = 8 ∨ sel = 9 ∨ sel = 10 ∨ sel = 11 ∨ sel = 12 ∨ sel = 13 ∨ sel = 14 ∨ sel = 15 ∨ sel = 16 ∨ sel = 17 ∨ sel = 18 ∨ sel = 19 ∨ sel = 20 ∨ sel = 21 ∨ sel = 22 ∨ sel = 23 ∨ sel = 24 ∨ sel = 25 ∨ sel = 26 by omega) with c33 | c33 | c33 | c33 | c33 | c33 | c33 | c33 | c33 | c33 | c33 | c33 | c33 | c33 | c33 | c33 | c33 | c33 | c33 | c33 | c33 | c33 | c33 | c33 | c33 | c33 | c33 | c33 | c33
      · refine Wp.tableOut (tgt := 1309) dL_law_33 (by first | omega | exact bI_R _ | exact cmp_R _ _ | assumption) (by omega) (by decide) ?_
        exact hc (by omega) I L R n hSR
      · refine Wp.tableOut (tgt := 1309) dL_law_33 (by first | omega | exact bI_R _ | exact cmp_R _ _ | assumption) (by omega) (by decide) ?_
        exact hc (by omega) I L R n hSR
      · subst c33
        refine Wp.tableIn (tgt := 156) dL_law_33 (by omega) (by decide) (by decide) rfl (by decide) ?_
        exact lw_feed hN h0 (by omega) hSR (hc (by omega))
      · subst c33
        refine Wp.tableIn (tgt := 219) dL_law_33 (by omega) (by decide) (by decide) rfl (by decide) ?_
        exact lw_book hN h0 (by omega) hSR (hc (by omega))
      · subst c33
        refine Wp.tableIn (tgt := 262) dL_law_33 (by omega) (by decide) (by decide) rfl (by decide) ?_
        exact lw_fault hN h0 (by omega) hSR (hc (by omega))
      · subst c33
        refine Wp.tableIn (tgt := 275) dL_law_33 (by omega) (by decide) (by decide) rfl (by decide) ?_
        exact lw_about hN h0 (by omega) hSR (hc (by omega))
      · subst c33
        refine Wp.tableIn (tgt := 308) dL_law_33 (by omega) (by decide) (by decide) rfl (by decide) ?_
        exact lw_now hN h0 (by omega) hSR (hc (by omega))
      · subst c33
        refine Wp.tableIn (tgt := 331) dL_law_33 (by omega) (by decide) (by decide) rfl (by decide) ?_
        exact lw_taste hN h0 (by omega) hSR (hc (by omega))
      · subst c33
        refine Wp.tableIn (tgt := 370) dL_law_33 (by omega) (by decide) (by decide) rfl (by decide) ?_
        exact lw_count hN h0 (by omega) hSR (hc (by omega))
      · subst c33
        refine Wp.tableIn (tgt := 393) dL_law_33 (by omega) (by decide) (by decide) rfl (by decide) ?_
        exact lw_entry hN h0 (by omega) hSR (hc (by omega))
      · subst c33
        refine Wp.tableIn (tgt := 446) dL_law_33 (by omega) (by decide) (by decide) rfl (by decide) ?_
        exact lw_gives hN h0 (by omega) hSR (hc (by omega))
      · subst c33
        refine Wp.tableIn (tgt := 490) dL_law_33 (by omega) (by decide) (by decide) rfl (by decide) ?_
        exact lw_givenBy hN h0 (by omega) hSR (hc (by omega))
      · subst c33
        refine Wp.tableIn (tgt := 534) dL_law_33 (by omega) (by decide) (by decide) rfl (by decide) ?_
        exact lw_returns hN h0 (by omega) hSR (hc (by omega))
      · subst c33
        refine Wp.tableIn (tgt := 577) dL_law_33 (by omega) (by decide) (by decide) rfl (by decide) ?_
        exact lw_back hN h0 (by omega) hSR (hc (by omega))
      · subst c33
        refine Wp.tableIn (tgt := 621) dL_law_33 (by omega) (by decide) (by decide) rfl (by decide) ?_
        exact lw_meanings hN h0 (by omega) hSR (hc (by omega))
      · subst c33
        refine Wp.tableIn (tgt := 664) dL_law_33 (by omega) (by decide) (by decide) rfl (by decide) ?_
        exact lw_lopsided hN h0 (by omega) hSR (hc (by omega))
      · subst c33
        refine Wp.tableIn (tgt := 697) dL_law_33 (by omega) (by decide) (by decide) rfl (by decide) ?_
        exact lw_weight hN h0 (by omega) hSR (hc (by omega))
      · subst c33
        refine Wp.tableIn (tgt := 760) dL_law_33 (by omega) (by decide) (by decide) rfl (by decide) ?_
        exact lw_sure hN h0 (by omega) hSR (hc (by omega))
      · subst c33
        refine Wp.tableIn (tgt := 835) dL_law_33 (by omega) (by decide) (by decide) rfl (by decide) ?_
        exact lw_best hN h0 (by omega) hSR (hc (by omega))
      · subst c33
        refine Wp.tableIn (tgt := 888) dL_law_33 (by omega) (by decide) (by decide) rfl (by decide) ?_
        exact lw_bridge hN h0 (by omega) hSR (hc (by omega))
      · subst c33
        refine Wp.tableIn (tgt := 931) dL_law_33 (by omega) (by decide) (by decide) rfl (by decide) ?_
        exact lw_alike hN h0 (by omega) hSR (hc (by omega))
      · subst c33
        refine Wp.tableIn (tgt := 984) dL_law_33 (by omega) (by decide) (by decide) rfl (by decide) ?_
        exact lw_friends hN h0 (by omega) hSR (hc (by omega))
      · subst c33
        refine Wp.tableIn (tgt := 1007) dL_law_33 (by omega) (by decide) (by decide) rfl (by decide) ?_
        exact lw_pair hN h0 (by omega) hSR (hc (by omega))
      · subst c33
        refine Wp.tableIn (tgt := 1060) dL_law_33 (by omega) (by decide) (by decide) rfl (by decide) ?_
        exact lw_say hN h0 (by omega) hSR (hc (by omega))
      · subst c33
        refine Wp.tableIn (tgt := 1093) dL_law_33 (by omega) (by decide) (by decide) rfl (by decide) ?_
        exact lw_clear hN h0 (by omega) hSR (hc (by omega))
      · subst c33
        refine Wp.tableIn (tgt := 1106) dL_law_33 (by omega) (by decide) (by decide) rfl (by decide) ?_
        exact lw_put hN h0 (by omega) hSR (hc (by omega))
      · subst c33
        refine Wp.tableIn (tgt := 1149) dL_law_33 (by omega) (by decide) (by decide) rfl (by decide) ?_
        exact lw_chain hN h0 (by omega) hSR (hc (by omega))
      · subst c33
        refine Wp.tableIn (tgt := 1192) dL_law_33 (by omega) (by decide) (by decide) rfl (by decide) ?_
        exact lw_across hN h0 (by omega) hSR (hc (by omega))
      · subst c33
        refine Wp.tableIn (tgt := 1236) dL_law_33 (by omega) (by decide) (by decide) rfl (by decide) ?_
        exact lw_fewest hN h0 (by omega) hSR (hc (by omega))
theorem SR_0 (h0 : I 32 0 = 0) (h9 : I 32 9 = 999) (h10 : I 32 10 = 1) (h11 : I 32 11 = 255) (h13 : I 32 13 = 0) (h14 : I 32 14 = -1) (h25 : I 32 25 = 0) (h30 : I 32 30 = 0) (h35 : I 32 35 = 0) (h36 : I 32 36 = 0) (c010 : I 0 10 = -1) (c11 : I 1 1 = 0) (c42 : I 4 2 = 0) (c43 : I 4 3 = 999) (c44 : I 4 4 = 1) (c74 : I 7 4 = 0) (c124 : I 12 4 = 0) (c171 : I 17 1 = -1) (c172 : I 17 2 = 0) (hFx : Fx R) (h41 : R 4 1 = none) : SR I L R 57 := by
  refine ⟨⟨by omega, hFx, ⟨by omega, by omega, by omega, by omega, Or.inr h10, fun k hk => by omega⟩, by omega, by omega, by omega, fun k hk => by omega⟩, ⟨by omega, fun q => by omega, fun j hj => by omega, by omega, fun j hj => by omega, ⟨by omega, by omega, fun j hj => by omega⟩, by omega, by omega, by omega⟩, ⟨by omega, fun j hj => by omega, by omega, by omega, fun j hj => by omega⟩, ⟨by omega, ⟨by omega, by omega, fun p p0 p1 => by omega⟩, fun p p0 p1 => by omega⟩, by omega, h11, Or.inl ⟨h41, by omega⟩⟩
end

