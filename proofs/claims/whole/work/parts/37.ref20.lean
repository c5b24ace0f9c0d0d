/-! ===== the reference: promises 21, 25: put, the whole ===== -/
def mxN (g : Nat → Int) : Nat → Int
  | 0 => 0
  | k + 1 => max (mxN g k) (g k)
theorem mxN_B {g : Nat → Int} {M : Int} (hM : 0 ≤ M) : ∀ d : Nat, (∀ j : Nat, j < d → g j ≤ M) → 0 ≤ mxN g d ∧ mxN g d ≤ M
  | 0, _ => by simp [mxN, hM]
  | d + 1, h => by
    have ih := mxN_B hM d (fun j hj => h j (by omega))
    have h1 := h d (by omega)
    simp only [mxN]; omega
theorem mxN_T {g : Nat → Int} {f : Int → Int} {l : List Int} : ∀ d : Nat, (∀ j : Nat, j < d → g j = f (l.getD j 0)) → mxN g d = mxT f l d
  | 0, _ => rfl
  | d + 1, h => by
    simp only [mxN, mxT]
    rw [mxN_T d (fun j hj => h j (by omega)), h d (by omega)]
theorem mxN_t {g : Nat → Int} {k : Nat} {v : Int} (hv : v = g k) (h : mxN g k < v) : v = mxN g (k + 1) := by simp only [mxN]; omega
theorem mxN_f {g : Nat → Int} {k : Nat} {v : Int} (hv : v = g k) (h : ¬ mxN g k < v) : mxN g k = mxN g (k + 1) := by simp only [mxN]; omega
def czp (I : Nat → Int → Int) (b : Int) (c : Nat → List Int) (S : Nat) : Nat → Option Int
  | 0 => none
  | k + 1 => cz I b c S k
theorem cz_eq (I : Nat → Int → Int) (b : Int) (c : Nat → List Int) (S : Nat) : ∀ k : Nat, cz I b c S k = (c k).find? (fun q => decide (tieO I b (czp I b c S k) q + wv I b (sfD c S (S - (k + 1))) (some q) = wv I b (sfD c S (S - k)) (czp I b c S k)))
  | 0 => rfl
  | _ + 1 => rfl
abbrev l1 (l : List Int) : Nat := if l.length = 0 then 1 else l.length
theorem l1_ok {l : List Int} {c : Nat} (h : cOk l c) : c < l1 l := by unfold l1; split <;> omega
theorem ok_l1 {l : List Int} {c : Nat} (h : c < l1 l) : cOk l c := by unfold l1 at h; split at h <;> omega
section
variable {I : Nat → Int → Int} {L : Nat → Int → BitVec 64} {R : Nat → Int → Option Nat} {n : Nat} {m : Mm} {Q : Option AV → Mm → Prop}
theorem FxC_54 {J : Nat → Int → Int} {C : Nat → List Int} {S : Nat} {z v : Int} (h : FxC I J C S) : FxC I (up J 54 z v) C S := by
  refine ⟨h.1.wr (by unfold scr; omega), by rw [up_o _ _ _ _ (by decide)]; exact h.2.1, h.2.2.1, fun q hq => ⟨?_, fun c hc => ?_⟩, h.2.2.2.2⟩
  · rw [up_o _ _ _ _ (by decide)]; exact (h.2.2.2.1 q hq).1
  · rw [up_o _ _ _ _ (by decide)]; exact (h.2.2.2.1 q hq).2 c hc
theorem mst_54 {J : Nat → Int → Int} {C : Nat → List Int} {S i k q : Nat} {b v : Int} (h : mst I J b C S q) (hl : (C q).length ≤ 18) (hq : i < q) (hk : k < 18) : mst I (up J 54 (18 * i + k) v) b C S q := by
  intro c hc
  rw [up_k _ _ _ _ (by omega)]
  exact h c hc
theorem put_tot {J : Nat → Int → Int} {C : Nat → List Int} {S : Nat} {b : Int} (hP : PrW (I 47) (I 48) (I 49) (I 50) (I 32 30)) (hS : 0 < S) (hS1 : S ≤ 10) (h : mst I J b C S 0) : mxN (fun c => J 54 c) (l1 (C 0)) = wv I b (sfD C S S) none := by
  have e : sfD C S S = C 0 :: sfD C S (S - 1) := sfD_s (k := 0) hS
  rw [e]
  rcases Nat.eq_zero_or_pos (C 0).length with h0 | h0
  · have h1 := h 0 (Or.inr ⟨rfl, h0⟩)
    rw [opc_0 0 h0] at h1
    have hB := wv_B2 hP b C (S := S) (d := S - (0 + 1)) (by omega) none
    rw [wv_0 _ h0]
    unfold l1
    rw [if_pos h0]
    have h2 : J 54 ((0 : Nat) : Int) = wv I b (sfD C S (S - (0 + 1))) none := by simpa using h1
    show max 0 (J 54 ((0 : Nat) : Int)) = wv I b (sfD C S (S - (0 + 1))) none
    omega
  · rw [wv_f _ h0]
    unfold l1
    rw [if_neg (by omega)]
    refine mxN_T _ (fun j hj => ?_)
    have h1 := h j (Or.inl hj)
    rw [opc_1 h0] at h1
    have h2 : J 54 (j : Int) = wv I b (sfD C S (S - (0 + 1))) (some ((C 0).getD j 0)) := by simpa using h1
    show J 54 (j : Int) = tieO I b none ((C 0).getD j 0) + wv I b (sfD C S (S - 1)) (some ((C 0).getD j 0))
    rw [h2]
    exact (Int.zero_add _).symm
set_option maxHeartbeats 4000000 in
theorem ct_X12_put {b i what : Int} (hn : 57 ≤ n) (hFx : Fx R) (hW : RW I) (hP : PrW (I 47) (I 48) (I 49) (I 50) (I 32 30)) (hb : inR b) (hi : inR i) (hwh : inR what) (hS0 : 0 ≤ I 32 35) (hS1 : I 32 35 ≤ 10) (hT : inR (I 32 36)) (hw : ∀ j : Nat, (j : Int) < I 32 35 → wdP (I 51 j)) (hq : ∀ J, Eqv I J → Q (some (vi (aPut I (I 32 11) b i what))) (J, L, R, n)) : Wp mX12_put 0 [some (vr (some 32)), some (vi b), some (vi i), some (vi what), none, none, none, none, none, none, none, none] [] (I, L, R, n) (0, 0) Q := by
  have hQ : ∀ J v, Eqv I J → v = aPut I (I 32 11) b i what → Q (some (vi v)) (J, L, R, n) := fun J v h e => e ▸ hq J h
  unfold aPut at hQ
  have hCok : ∀ q : Nat, q < (I 32 35).toNat → (chL I (I 32 11) b q).length ≤ 18 ∧ ∀ p ∈ chL I (I 32 11) b q, PlO I p := fun q hq => chL_ok hW _ b (hw q (by omega))
  generalize hCd : chL I (I 32 11) b = C at hQ hCok
  obtain ⟨S, hSS⟩ := Int.eq_ofNat_of_zero_le hS0
  have hSn : (I 32 35).toNat = S := by omega
  rw [hSn] at hQ hCok
  have hS10 : S ≤ 10 := by omega
  have lc : ∀ (i' : Nat) (hi' : i' < S) (hc' : ∀ (J : Nat → Int → Int) (x5 : Option AV), FxC I J C S → (∀ q : Nat, i' ≤ q → q < S → mst I J b C S q) → Wp mX12_put 119 [some (vr (some 32)), some (vi b), some (vi i), some (vi what), some (vi i'), x5, none, none, none, none, none, none] [] (J, L, R, n) (0, 0) Q) , ∀ (tt k : Nat) (z : Int) (J : Nat → Int → Int), k + tt = (l1 (C i')) → z = k → FxC I J C S → (∀ q : Nat, i' < q → q < S → mst I J b C S q) → (∀ c : Nat, c < k → J 54 (18 * i' + c) = wv I b (sfD C S (S - (i' + 1))) (opc (C i') c)) → Wp mX12_put 65 [some (vr (some 32)), some (vi b), some (vi i), some (vi what), some (vi i'), some (vi z), none, none, none, none, none, none] [] (J, L, R, n) (0, 0) Q := by
    intro i' hi' hc'
    intro tt
    induction tt with
    | zero =>
      intro k z J hkt hz e0 e1 e2
      obtain rfl : k = (l1 (C i')) := by omega
      have hJi : J 52 i' = ((C i').length : Int) := (e0.2.2.2.1 i' hi').1
      have hl18 := (hCok i' hi').1
      have hl1 : l1 (C i') = 1 ∧ (C i').length = 0 ∨ l1 (C i') = (C i').length ∧ 0 < (C i').length := by unfold l1; split <;> omega
      refine Wp.iload rfl dX12_put_65 ?_
      refine Wp.aload_n rfl dX12_put_67 ?_
      refine Wp.gr (kz := 38) rfl dX12_put_68 fkX12_83 (by first | rfl | exact kd_b0 _ | exact kd_b1 _ | exact kd_b2 _ | exact kd_b3 _ | exact kd_b4 _ | exact kd_b5 _ | exact kd_b6 _) (by omega) (by first | exact hFx _ 38 _ rfl | assumption | exact hBk.1 | exact hBk.2.1 | exact hBk.2.2.1 | exact hBk.2.2.2.1 | exact hBk.2.2.2.2.1 | exact hBk.2.2.2.2.2) ?_
      refine Wp.iload rfl dX12_put_71 ?_
      refine Wp.iaload dX12_put_73 (by first | rfl | exact kd_b0 _ | exact kd_b1 _ | exact kd_b2 _ | exact kd_b3 _ | exact kd_b4 _ | exact kd_b5 _ | exact kd_b6 _) (by omega) (by omega) (by omega) ?_
      refine Wp.if_ne (tgt := 81) dX12_put_74 (by decide) (by first | omega | exact bI_R _ | exact cmp_R _ _ | assumption) (fun c74 => ?_) (fun c74 => ?_)
      · refine Wp.aload_n rfl dX12_put_81 ?_
        refine Wp.gr (kz := 38) rfl dX12_put_82 fkX12_83 (by first | rfl | exact kd_b0 _ | exact kd_b1 _ | exact kd_b2 _ | exact kd_b3 _ | exact kd_b4 _ | exact kd_b5 _ | exact kd_b6 _) (by omega) (by first | exact hFx _ 38 _ rfl | assumption | exact hBk.1 | exact hBk.2.1 | exact hBk.2.2.1 | exact hBk.2.2.2.1 | exact hBk.2.2.2.2.1 | exact hBk.2.2.2.2.2) ?_
        refine Wp.iload rfl dX12_put_85 ?_
        refine Wp.iaload dX12_put_87 (by first | rfl | exact kd_b0 _ | exact kd_b1 _ | exact kd_b2 _ | exact kd_b3 _ | exact kd_b4 _ | exact kd_b5 _ | exact kd_b6 _) (by omega) (by omega) (by omega) ?_
        refine Wp.icmp_ge (tgt := 119) dX12_put_88 (by decide) (by first | omega | exact bI_R _ | exact cmp_R _ _ | assumption) (by first | omega | exact bI_R _ | exact cmp_R _ _ | assumption) (fun c88 => ?_) (fun c88 => ?_)
        · refine hc' J _ e0 (fun q h1 h2 => ?_)
          rcases Nat.lt_or_ge i' q with h3 | h3
          · exact e1 q h3 h2
          · obtain rfl : q = i' := by omega
            exact fun c hc => e2 c (l1_ok hc)
        · exfalso; omega
      · refine Wp.iconst dX12_put_77 ?_
        refine Wp.goto (tgt := 88) dX12_put_78 (by decide) ?_
        refine Wp.icmp_ge (tgt := 119) dX12_put_88 (by decide) (by first | omega | exact bI_R _ | exact cmp_R _ _ | assumption) (by first | omega | exact bI_R _ | exact cmp_R _ _ | assumption) (fun c88 => ?_) (fun c88 => ?_)
        · refine hc' J _ e0 (fun q h1 h2 => ?_)
          rcases Nat.lt_or_ge i' q with h3 | h3
          · exact e1 q h3 h2
          · obtain rfl : q = i' := by omega
            exact fun c hc => e2 c (l1_ok hc)
        · exfalso; omega
    | succ tt ih =>
      intro k z J hkt hz e0 e1 e2
      subst hz
      have hJi : J 52 i' = ((C i').length : Int) := (e0.2.2.2.1 i' hi').1
      have hl18 := (hCok i' hi').1
      have hl1 : l1 (C i') = 1 ∧ (C i').length = 0 ∨ l1 (C i') = (C i').length ∧ 0 < (C i').length := by unfold l1; split <;> omega
      have hck : cOk (C i') k := ok_l1 (by omega)
      refine Wp.iload rfl dX12_put_65 ?_
      refine Wp.aload_n rfl dX12_put_67 ?_
      refine Wp.gr (kz := 38) rfl dX12_put_68 fkX12_83 (by first | rfl | exact kd_b0 _ | exact kd_b1 _ | exact kd_b2 _ | exact kd_b3 _ | exact kd_b4 _ | exact kd_b5 _ | exact kd_b6 _) (by omega) (by first | exact hFx _ 38 _ rfl | assumption | exact hBk.1 | exact hBk.2.1 | exact hBk.2.2.1 | exact hBk.2.2.2.1 | exact hBk.2.2.2.2.1 | exact hBk.2.2.2.2.2) ?_
      refine Wp.iload rfl dX12_put_71 ?_
      refine Wp.iaload dX12_put_73 (by first | rfl | exact kd_b0 _ | exact kd_b1 _ | exact kd_b2 _ | exact kd_b3 _ | exact kd_b4 _ | exact kd_b5 _ | exact kd_b6 _) (by omega) (by omega) (by omega) ?_
      refine Wp.if_ne (tgt := 81) dX12_put_74 (by decide) (by first | omega | exact bI_R _ | exact cmp_R _ _ | assumption) (fun c74 => ?_) (fun c74 => ?_)
      · refine Wp.aload_n rfl dX12_put_81 ?_
        refine Wp.gr (kz := 38) rfl dX12_put_82 fkX12_83 (by first | rfl | exact kd_b0 _ | exact kd_b1 _ | exact kd_b2 _ | exact kd_b3 _ | exact kd_b4 _ | exact kd_b5 _ | exact kd_b6 _) (by omega) (by first | exact hFx _ 38 _ rfl | assumption | exact hBk.1 | exact hBk.2.1 | exact hBk.2.2.1 | exact hBk.2.2.2.1 | exact hBk.2.2.2.2.1 | exact hBk.2.2.2.2.2) ?_
        refine Wp.iload rfl dX12_put_85 ?_
        refine Wp.iaload dX12_put_87 (by first | rfl | exact kd_b0 _ | exact kd_b1 _ | exact kd_b2 _ | exact kd_b3 _ | exact kd_b4 _ | exact kd_b5 _ | exact kd_b6 _) (by omega) (by omega) (by omega) ?_
        refine Wp.icmp_ge (tgt := 119) dX12_put_88 (by decide) (by first | omega | exact bI_R _ | exact cmp_R _ _ | assumption) (by first | omega | exact bI_R _ | exact cmp_R _ _ | assumption) (fun c88 => ?_) (fun c88 => ?_)
        · exfalso; omega
        · refine Wp.aload_n rfl dX12_put_91 ?_
          refine Wp.gr (kz := 40) rfl dX12_put_92 fkX12_89 (by first | rfl | exact kd_b0 _ | exact kd_b1 _ | exact kd_b2 _ | exact kd_b3 _ | exact kd_b4 _ | exact kd_b5 _ | exact kd_b6 _) (by omega) (by first | exact hFx _ 40 _ rfl | assumption | exact hBk.1 | exact hBk.2.1 | exact hBk.2.2.1 | exact hBk.2.2.2.1 | exact hBk.2.2.2.2.1 | exact hBk.2.2.2.2.2) ?_
          refine Wp.bipush rfl dX12_put_95 ?_
          refine Wp.iload rfl dX12_put_97 ?_
          refine Wp.imul dX12_put_99 ?_
          refine Wp.iload rfl dX12_put_100 ?_
          refine Wp.iadd dX12_put_102 ?_
          refine Wp.aload_n rfl dX12_put_103 ?_
          refine Wp.iload_n rfl dX12_put_104 ?_
          refine Wp.iload rfl dX12_put_105 ?_
          refine Wp.iload rfl dX12_put_107 ?_
          refine Wp.callV (As := [_, _, _]) (ls0 := [_, _, _, _, _, _, _, _]) (bd := (0, 0)) (bd' := (0, 0)) dX12_put_109 kmX12_from lkX12_267 (by decide) (by decide) (Nat.le_of_ble_eq_true rfl) (by first | rfl | exact kd_b0 _ | exact kd_b1 _ | exact kd_b2 _ | exact kd_b3 _ | exact kd_b4 _ | exact kd_b5 _ | exact kd_b6 _) (by omega) rfl rfl (Nat.le_of_ble_eq_true rfl) rfl ?_
          refine ct_X12_from (i := i') (c := k) hn hFx hP hb e0 hi' hck (fun h => e1 (i' + 1) (by omega) h) ?_
          show Wp _ _ _ (_ :: _) _ _ _
          refine Wp.iastore dX12_put_112 (by first | rfl | exact kd_b0 _ | exact kd_b1 _ | exact kd_b2 _ | exact kd_b3 _ | exact kd_b4 _ | exact kd_b5 _ | exact kd_b6 _) (by omega) (by omega) (by omega) ?_
          refine Wp.iinc (ls' := [_, _, _, _, _, _, _, _, _, _, _, _]) rfl dX12_put_113 (by decide) rfl ?_
          refine Wp.goto (tgt := 65) dX12_put_116 (by decide) ?_
          refine ih (k + 1) _ _ (by omega) (by omega) (FxC_54 e0) (fun q h1 h2 => mst_54 (e1 q h1 h2) (hCok q h2).1 h1 (by omega)) (fun c hc => ?_)
          rcases Nat.lt_or_ge c k with h3 | h3
          · rw [up_k _ _ _ _ (by omega)]; exact e2 c h3
          · obtain rfl : c = k := by omega
            rw [up_same]
      · refine Wp.iconst dX12_put_77 ?_
        refine Wp.goto (tgt := 88) dX12_put_78 (by decide) ?_
        refine Wp.icmp_ge (tgt := 119) dX12_put_88 (by decide) (by first | omega | exact bI_R _ | exact cmp_R _ _ | assumption) (by first | omega | exact bI_R _ | exact cmp_R _ _ | assumption) (fun c88 => ?_) (fun c88 => ?_)
        · exfalso; omega
        · refine Wp.aload_n rfl dX12_put_91 ?_
          refine Wp.gr (kz := 40) rfl dX12_put_92 fkX12_89 (by first | rfl | exact kd_b0 _ | exact kd_b1 _ | exact kd_b2 _ | exact kd_b3 _ | exact kd_b4 _ | exact kd_b5 _ | exact kd_b6 _) (by omega) (by first | exact hFx _ 40 _ rfl | assumption | exact hBk.1 | exact hBk.2.1 | exact hBk.2.2.1 | exact hBk.2.2.2.1 | exact hBk.2.2.2.2.1 | exact hBk.2.2.2.2.2) ?_
          refine Wp.bipush rfl dX12_put_95 ?_
          refine Wp.iload rfl dX12_put_97 ?_
          refine Wp.imul dX12_put_99 ?_
          refine Wp.iload rfl dX12_put_100 ?_
          refine Wp.iadd dX12_put_102 ?_
          refine Wp.aload_n rfl dX12_put_103 ?_
          refine Wp.iload_n rfl dX12_put_104 ?_
          refine Wp.iload rfl dX12_put_105 ?_
          refine Wp.iload rfl dX12_put_107 ?_
          refine Wp.callV (As := [_, _, _]) (ls0 := [_, _, _, _, _, _, _, _]) (bd := (0, 0)) (bd' := (0, 0)) dX12_put_109 kmX12_from lkX12_267 (by decide) (by decide) (Nat.le_of_ble_eq_true rfl) (by first | rfl | exact kd_b0 _ | exact kd_b1 _ | exact kd_b2 _ | exact kd_b3 _ | exact kd_b4 _ | exact kd_b5 _ | exact kd_b6 _) (by omega) rfl rfl (Nat.le_of_ble_eq_true rfl) rfl ?_
          refine ct_X12_from (i := i') (c := k) hn hFx hP hb e0 hi' hck (fun h => e1 (i' + 1) (by omega) h) ?_
          show Wp _ _ _ (_ :: _) _ _ _
          refine Wp.iastore dX12_put_112 (by first | rfl | exact kd_b0 _ | exact kd_b1 _ | exact kd_b2 _ | exact kd_b3 _ | exact kd_b4 _ | exact kd_b5 _ | exact kd_b6 _) (by omega) (by omega) (by omega) ?_
          refine Wp.iinc (ls' := [_, _, _, _, _, _, _, _, _, _, _, _]) rfl dX12_put_113 (by decide) rfl ?_
          refine Wp.goto (tgt := 65) dX12_put_116 (by decide) ?_
          refine ih (k + 1) _ _ (by omega) (by omega) (FxC_54 e0) (fun q h1 h2 => mst_54 (e1 q h1 h2) (hCok q h2).1 h1 (by omega)) (fun c hc => ?_)
          rcases Nat.lt_or_ge c k with h3 | h3
          · rw [up_k _ _ _ _ (by omega)]; exact e2 c h3
          · obtain rfl : c = k := by omega
            rw [up_same]
  have hfin : ∀ (J : Nat → Int → Int) (tot : Int) (idx : Nat) (v6 : Int) (x8 x9 x10 x11 : Option AV), FxC I J C S → tgP b → 0 ≤ what → what ≤ 1 → ¬ (I 32 35 = 0 ∨ I 32 36 = b) → 0 ≤ i → i < S → 0 < (C i.toNat).length → cOk (C i.toNat) idx → cz I b C S i.toNat = opc (C i.toNat) idx → Wp mX12_put 398 [some (vr (some 32)), some (vi b), some (vi i), some (vi what), some (vi tot), some (vi idx), some (vi v6), some (vi (i + 1)), x8, x9, x10, x11] [] (J, L, R, n) (0, 0) Q := by
    intro J tot idx v6 x8 x9 x10 x11 hF hb hw0 hw1 hne h0 h1 hl hok hcz
    have hA := hF.2.2.2.1 i.toNat (by omega)
    have hv := hA.2 idx (by omega)
    rw [show ((i.toNat : Nat) : Int) = i by omega] at hv
    have hp := (hCok i.toNat (by omega)).2 _ (getD_mem (c := idx) (by omega))
    have hl18 := (hCok i.toNat (by omega)).1
    have h39 := hF.1 39 ((C i.toNat).getD idx 0) (by unfold scr; omega)
    unfold PlO at hp
    rw [opc_1 hl] at hcz
    refine Wp.aload_n rfl dX12_put_398 ?_
    refine Wp.gr (kz := 39) rfl dX12_put_399 fkX12_86 (by first | rfl | exact kd_b0 _ | exact kd_b1 _ | exact kd_b2 _ | exact kd_b3 _ | exact kd_b4 _ | exact kd_b5 _ | exact kd_b6 _) (by omega) (by first | exact hFx _ 39 _ rfl | assumption | exact hBk.1 | exact hBk.2.1 | exact hBk.2.2.1 | exact hBk.2.2.2.1 | exact hBk.2.2.2.2.1 | exact hBk.2.2.2.2.2) ?_
    refine Wp.bipush rfl dX12_put_402 ?_
    refine Wp.iload_n rfl dX12_put_404 ?_
    refine Wp.imul dX12_put_405 ?_
    refine Wp.iload rfl dX12_put_406 ?_
    refine Wp.iadd dX12_put_408 ?_
    refine Wp.iaload dX12_put_409 (by first | rfl | exact kd_b0 _ | exact kd_b1 _ | exact kd_b2 _ | exact kd_b3 _ | exact kd_b4 _ | exact kd_b5 _ | exact kd_b6 _) (by omega) (by omega) (by omega) ?_
    rw [hv]
    refine Wp.istore (ls' := [_, _, _, _, _, _, _, _, _, _, _, _]) dX12_put_410 (by decide) rfl ?_
    refine Wp.iload_n rfl dX12_put_412 ?_
    refine Wp.if_ne (tgt := 426) dX12_put_413 (by decide) (by first | omega | exact bI_R _ | exact cmp_R _ _ | assumption) (fun c413 => ?_) (fun c413 => ?_)
    · refine Wp.iload rfl dX12_put_426 ?_
      refine Wp.bipush rfl dX12_put_428 ?_
      refine Wp.idiv (by omega) (by omega) (by omega) dX12_put_430 ?_
      refine Wp.iconst dX12_put_431 ?_
      refine Wp.irem (by omega) (by omega) (by omega) dX12_put_432 ?_
      refine Wp.ireturn dX12_put_433 rfl ?_
      first | (exfalso; omega) | (exact hQ J _ hF.1 (by rw [if_pos hb, if_pos ⟨hw0, hw1⟩, if_neg hne, if_neg (by omega), if_pos (by omega), hcz]; dsimp only; first | rw [if_pos (by omega)]; exact h39 | rw [if_neg (by omega)]))
    · refine Wp.aload_n rfl dX12_put_416 ?_
      refine Wp.gr (kz := 7) rfl dX12_put_417 fkX12_28 (by first | rfl | exact kd_b0 _ | exact kd_b1 _ | exact kd_b2 _ | exact kd_b3 _ | exact kd_b4 _ | exact kd_b5 _ | exact kd_b6 _) (by omega) (by first | exact hFx _ 7 _ rfl | assumption | exact hBk.1 | exact hBk.2.1 | exact hBk.2.2.1 | exact hBk.2.2.2.1 | exact hBk.2.2.2.2.1 | exact hBk.2.2.2.2.2) ?_
      refine Wp.iload rfl dX12_put_420 ?_
      refine Wp.iaload dX12_put_422 (by first | rfl | exact kd_b0 _ | exact kd_b1 _ | exact kd_b2 _ | exact kd_b3 _ | exact kd_b4 _ | exact kd_b5 _ | exact kd_b6 _) (by omega) (by omega) (by omega) ?_
      refine Wp.goto (tgt := 433) dX12_put_423 (by decide) ?_
      refine Wp.ireturn dX12_put_433 rfl ?_
      first | (exfalso; omega) | (exact hQ J _ hF.1 (by rw [if_pos hb, if_pos ⟨hw0, hw1⟩, if_neg hne, if_neg (by omega), if_pos (by omega), hcz]; dsimp only; first | rw [if_pos (by omega)]; exact h39 | rw [if_neg (by omega)]))
  have lk : tgP b → 0 ≤ what → what ≤ 1 → ¬ (I 32 35 = 0 ∨ I 32 36 = b) → 0 ≤ i → i < S → 0 < (C i.toNat).length → ∀ (J : Nat → Int → Int) (tot : Int), FxC I J C S → (∀ q : Nat, q < S → mst I J b C S q) → ∀ (tt k idx : Nat) (rest : Int) (x8 x9 x10 x11 : Option AV), (k : Int) + tt = i + 1 → (k = 0 ∧ idx = 0 ∨ 0 < k ∧ cOk (C (k - 1)) idx ∧ czp I b C S k = opc (C (k - 1)) idx) → rest = wv I b (sfD C S (S - k)) (czp I b C S k) → Wp mX12_put 232 [some (vr (some 32)), some (vi b), some (vi i), some (vi what), some (vi tot), some (vi idx), some (vi rest), some (vi k), x8, x9, x10, x11] [] (J, L, R, n) (0, 0) Q := by
    intro htb hw0 hw1 hne hi0 hi1 hlen J tot hF hM tt
    induction tt with
    | zero =>
      intro k idx rest x8 x9 x10 x11 hk hpv hrest
      have hki : k = i.toNat + 1 := by omega
      subst hki
      have hcz := (hpv.resolve_left (by omega)).2
      simp only [Nat.add_sub_cancel] at hcz
      have := hfin J tot idx rest x8 x9 x10 x11 hF htb hw0 hw1 hne hi0 hi1 hlen hcz.1 hcz.2
      have hk1 : ((i.toNat + 1 : Nat) : Int) = i + 1 := by omega
      rw [hk1]
      refine Wp.iload rfl dX12_put_232 ?_
      refine Wp.iload_n rfl dX12_put_234 ?_
      refine Wp.icmp_gt (tgt := 398) dX12_put_235 (by decide) (by first | omega | exact bI_R _ | exact cmp_R _ _ | assumption) (by first | omega | exact bI_R _ | exact cmp_R _ _ | assumption) (fun c235 => ?_) (fun c235 => ?_)
      · exact this
      · exfalso; omega
    | succ tt ih =>
      intro k idx rest x8 x9 x10 x11 hk hpv hrest
      have hkS : k < S := by omega
      rw [sfD_s hkS] at hrest
      obtain ⟨j, hj1, hj2, hj3, hj4⟩ := gch_first hP b (C k) (sfD C S (S - (k + 1))) (czp I b C S k)
      have hczk : cz I b C S k = opc (C k) j := by rw [cz_eq, sfD_s hkS]; exact hj4
      rw [← hrest] at hj2 hj3
      have hA := hF.2.2.2.1 k hkS
      have hJk : J 52 k = ((C k).length : Int) := hA.1
      have hl18 := (hCok k hkS).1
      have hmk := hM k hkS
      have hrB : 0 ≤ rest ∧ rest ≤ 1090 := by rw [hrest, ← sfD_s hkS]; exact wv_B2 hP b C (by omega) _
      have hpl : 0 < k → J 52 ((k : Int) - 1) = ((C (k - 1)).length : Int) ∧ (C (k - 1)).length ≤ 18 := fun h => by
        have h1 := (hF.2.2.2.1 (k - 1) (by omega)).1
        rw [show ((k - 1 : Nat) : Int) = (k : Int) - 1 by omega] at h1
        exact ⟨h1, (hCok (k - 1) (by omega)).1⟩
      have hidx : idx < 18 := by
        rcases hpv with h | h
        · omega
        · have := hpl h.1; have := h.2.1; omega
      have hpr : 0 < k → 0 < (C (k - 1)).length → J 53 (18 * ((k : Int) - 1) + idx) = (C (k - 1)).getD idx 0 ∧ PlO I ((C (k - 1)).getD idx 0) ∧ czp I b C S k = some ((C (k - 1)).getD idx 0) := fun h hl => by
        have hp := (hpv.resolve_left (by omega)).2
        have hlt : idx < (C (k - 1)).length := by have := hp.1; omega
        have h1 := (hF.2.2.2.1 (k - 1) (by omega)).2 idx hlt
        rw [show ((k - 1 : Nat) : Int) = (k : Int) - 1 by omega] at h1
        exact ⟨h1, (hCok (k - 1) (by omega)).2 _ (getD_mem hlt), by rw [hp.2, opc_1 hl]⟩
      have hpn : ¬ (0 < k ∧ 0 < (C (k - 1)).length) → czp I b C S k = none := fun h => by
        rcases hpv with h1 | h1
        · rw [h1.1]; rfl
        · rw [h1.2.2, opc_0 _ (by omega)]
      have hdone : ∀ (zj : Int) (x10 x11 : Option AV), zj = j → Wp mX12_put 244 [some (vr (some 32)), some (vi b), some (vi i), some (vi what), some (vi tot), some (vi idx), some (vi rest), some (vi k), some (vi zj), some (vi 1), x10, x11] [] (J, L, R, n) (0, 0) Q := by
        intro zj x10 x11 hzj
        subst hzj
        have hmj := hmk j hj1
        have hj18 : j < 18 := by omega
        refine Wp.iload rfl dX12_put_244 ?_
        refine Wp.if_ne (tgt := 373) dX12_put_246 (by decide) (by first | omega | exact bI_R _ | exact cmp_R _ _ | assumption) (fun c246 => ?_) (fun c246 => ?_)
        · refine Wp.iload rfl dX12_put_373 ?_
          refine Wp.istore (ls' := [_, _, _, _, _, _, _, _, _, _, _, _]) dX12_put_375 (by decide) rfl ?_
          refine Wp.aload_n rfl dX12_put_377 ?_
          refine Wp.gr (kz := 40) rfl dX12_put_378 fkX12_89 (by first | rfl | exact kd_b0 _ | exact kd_b1 _ | exact kd_b2 _ | exact kd_b3 _ | exact kd_b4 _ | exact kd_b5 _ | exact kd_b6 _) (by omega) (by first | exact hFx _ 40 _ rfl | assumption | exact hBk.1 | exact hBk.2.1 | exact hBk.2.2.1 | exact hBk.2.2.2.1 | exact hBk.2.2.2.2.1 | exact hBk.2.2.2.2.2) ?_
          refine Wp.bipush rfl dX12_put_381 ?_
          refine Wp.iload rfl dX12_put_383 ?_
          refine Wp.imul dX12_put_385 ?_
          refine Wp.iload rfl dX12_put_386 ?_
          refine Wp.iadd dX12_put_388 ?_
          refine Wp.iaload dX12_put_389 (by first | rfl | exact kd_b0 _ | exact kd_b1 _ | exact kd_b2 _ | exact kd_b3 _ | exact kd_b4 _ | exact kd_b5 _ | exact kd_b6 _) (by omega) (by omega) (by omega) ?_
          refine Wp.istore (ls' := [_, _, _, _, _, _, _, _, _, _, _, _]) dX12_put_390 (by decide) rfl ?_
          refine Wp.iinc (ls' := [_, _, _, _, _, _, _, _, _, _, _, _]) rfl dX12_put_392 (by decide) rfl ?_
          refine Wp.goto (tgt := 232) dX12_put_395 (by decide) ?_
          exact ih (k + 1) j _ _ _ _ _ (by omega) (Or.inr ⟨by omega, hj1, hczk⟩) (by rw [hmj]; exact congrArg _ hczk.symm)
        · exfalso; first | omega | (simp at c246; done) | (simp_all; done)
      have hin : ∀ (d t : Nat) (zt : Int) (x10 x11 : Option AV), t + d = j → zt = t → Wp mX12_put 244 [some (vr (some 32)), some (vi b), some (vi i), some (vi what), some (vi tot), some (vi idx), some (vi rest), some (vi k), some (vi zt), some (vi 0), x10, x11] [] (J, L, R, n) (0, 0) Q := by
        intro d
        induction d with
        | zero =>
          intro t zt x10 x11 htj hzt
          subst hzt
          have hgg : gch I b (C k) (sfD C S (S - (k + 1))) (czp I b C S k) t = rest := by rw [show t = j by omega]; exact hj2
          have hok : cOk (C k) t := by omega
          have hm := hmk t hok
          have hmB : 0 ≤ J 54 (18 * k + t) ∧ J 54 (18 * k + t) ≤ 1090 := by rw [hm]; exact wv_B2 hP b C (by omega) _
          have hck : 0 < (C k).length → J 53 (18 * k + t) = (C k).getD t 0 ∧ PlO I ((C k).getD t 0) := fun h => ⟨hA.2 t (by omega), (hCok k hkS).2 _ (getD_mem (by omega))⟩
          have htB := tieP_B hP b ((C (k - 1)).getD idx 0) ((C k).getD t 0)
          have hG1 : 0 < k → 0 < (C (k - 1)).length → 0 < (C k).length → J 54 (18 * k + t) + tieP I b ((C (k - 1)).getD idx 0) ((C k).getD t 0) = gch I b (C k) (sfD C S (S - (k + 1))) (czp I b C S k) t := fun h1 h2 h3 => by
            unfold gch
            rw [if_neg (by omega), (hpr h1 h2).2.2, hm, opc_1 h3]
            exact Int.add_comm _ _
          have hG0 : ¬ (0 < k ∧ 0 < (C (k - 1)).length ∧ 0 < (C k).length) → J 54 (18 * k + t) + 0 = gch I b (C k) (sfD C S (S - (k + 1))) (czp I b C S k) t := fun h => by
            unfold gch
            rw [hm]
            by_cases h3 : (C k).length = 0
            · rw [if_pos h3, opc_0 _ h3]; omega
            · rw [if_neg h3, hpn (by omega), opc_1 (by omega)]; exact Int.add_comm _ _
          generalize gch I b (C k) (sfD C S (S - (k + 1))) (czp I b C S k) t = gg at hG1 hG0 hgg
          refine Wp.iload rfl dX12_put_244 ?_
          refine Wp.if_ne (tgt := 373) dX12_put_246 (by decide) (by first | omega | exact bI_R _ | exact cmp_R _ _ | assumption) (fun c246 => ?_) (fun c246 => ?_)
          · exfalso; omega
          · refine Wp.iload rfl dX12_put_249 ?_
            refine Wp.if_le (tgt := 280) dX12_put_251 (by decide) (by first | omega | exact bI_R _ | exact cmp_R _ _ | assumption) (fun c251 => ?_) (fun c251 => ?_)
            · refine Wp.iconst dX12_put_280 ?_
              refine Wp.istore (ls' := [_, _, _, _, _, _, _, _, _, _, _, _]) dX12_put_281 (by decide) rfl ?_
              refine Wp.iload rfl dX12_put_283 ?_
              refine Wp.if_eq (tgt := 324) dX12_put_285 (by decide) (by first | omega | exact bI_R _ | exact cmp_R _ _ | assumption) (fun c285 => ?_) (fun c285 => ?_)
              · refine Wp.iconst dX12_put_324 ?_
                refine Wp.istore (ls' := [_, _, _, _, _, _, _, _, _, _, _, _]) dX12_put_325 (by decide) rfl ?_
                refine Wp.aload_n rfl dX12_put_327 ?_
                refine Wp.gr (kz := 40) rfl dX12_put_328 fkX12_89 (by first | rfl | exact kd_b0 _ | exact kd_b1 _ | exact kd_b2 _ | exact kd_b3 _ | exact kd_b4 _ | exact kd_b5 _ | exact kd_b6 _) (by omega) (by first | exact hFx _ 40 _ rfl | assumption | exact hBk.1 | exact hBk.2.1 | exact hBk.2.2.1 | exact hBk.2.2.2.1 | exact hBk.2.2.2.2.1 | exact hBk.2.2.2.2.2) ?_
                refine Wp.bipush rfl dX12_put_331 ?_
                refine Wp.iload rfl dX12_put_333 ?_
                refine Wp.imul dX12_put_335 ?_
                refine Wp.iload rfl dX12_put_336 ?_
                refine Wp.iadd dX12_put_338 ?_
                refine Wp.iaload dX12_put_339 (by first | rfl | exact kd_b0 _ | exact kd_b1 _ | exact kd_b2 _ | exact kd_b3 _ | exact kd_b4 _ | exact kd_b5 _ | exact kd_b6 _) (by omega) (by omega) (by omega) ?_
                refine Wp.iload rfl dX12_put_340 ?_
                refine Wp.iadd dX12_put_342 ?_
                refine Wp.iload rfl dX12_put_343 ?_
                refine Wp.icmp_ne (tgt := 352) dX12_put_345 (by decide) (by first | omega | exact bI_R _ | exact cmp_R _ _ | assumption) (by first | omega | exact bI_R _ | exact cmp_R _ _ | assumption) (fun c345 => ?_) (fun c345 => ?_)
                · refine Wp.iconst dX12_put_352 ?_
                  refine Wp.istore (ls' := [_, _, _, _, _, _, _, _, _, _, _, _]) dX12_put_353 (by decide) rfl ?_
                  refine Wp.iload rfl dX12_put_355 ?_
                  refine Wp.iload rfl dX12_put_357 ?_
                  refine Wp.if_eq (tgt := 366) dX12_put_359 (by decide) (by first | omega | exact bI_R _ | exact cmp_R _ _ | assumption) (fun c359 => ?_) (fun c359 => ?_)
                  · refine Wp.iconst dX12_put_366 ?_
                    refine Wp.iadd dX12_put_367 ?_
                    refine Wp.istore (ls' := [_, _, _, _, _, _, _, _, _, _, _, _]) dX12_put_368 (by decide) rfl ?_
                    refine Wp.goto (tgt := 244) dX12_put_370 (by decide) ?_
                    first | exact hdone _ _ _ (by omega) | (exfalso; omega)
                  · refine Wp.iconst dX12_put_362 ?_
                    refine Wp.goto (tgt := 367) dX12_put_363 (by decide) ?_
                    refine Wp.iadd dX12_put_367 ?_
                    refine Wp.istore (ls' := [_, _, _, _, _, _, _, _, _, _, _, _]) dX12_put_368 (by decide) rfl ?_
                    refine Wp.goto (tgt := 244) dX12_put_370 (by decide) ?_
                    first | exact hdone _ _ _ (by omega) | (exfalso; omega)
                · refine Wp.iconst dX12_put_348 ?_
                  refine Wp.goto (tgt := 353) dX12_put_349 (by decide) ?_
                  refine Wp.istore (ls' := [_, _, _, _, _, _, _, _, _, _, _, _]) dX12_put_353 (by decide) rfl ?_
                  refine Wp.iload rfl dX12_put_355 ?_
                  refine Wp.iload rfl dX12_put_357 ?_
                  refine Wp.if_eq (tgt := 366) dX12_put_359 (by decide) (by first | omega | exact bI_R _ | exact cmp_R _ _ | assumption) (fun c359 => ?_) (fun c359 => ?_)
                  · refine Wp.iconst dX12_put_366 ?_
                    refine Wp.iadd dX12_put_367 ?_
                    refine Wp.istore (ls' := [_, _, _, _, _, _, _, _, _, _, _, _]) dX12_put_368 (by decide) rfl ?_
                    refine Wp.goto (tgt := 244) dX12_put_370 (by decide) ?_
                    first | exact hdone _ _ _ (by omega) | (exfalso; omega)
                  · refine Wp.iconst dX12_put_362 ?_
                    refine Wp.goto (tgt := 367) dX12_put_363 (by decide) ?_
                    refine Wp.iadd dX12_put_367 ?_
                    refine Wp.istore (ls' := [_, _, _, _, _, _, _, _, _, _, _, _]) dX12_put_368 (by decide) rfl ?_
                    refine Wp.goto (tgt := 244) dX12_put_370 (by decide) ?_
                    first | exact hdone _ _ _ (by omega) | (exfalso; omega)
              · refine Wp.aload_n rfl dX12_put_288 ?_
                refine Wp.iload_n rfl dX12_put_289 ?_
                refine Wp.aload_n rfl dX12_put_290 ?_
                refine Wp.gr (kz := 39) rfl dX12_put_291 fkX12_86 (by first | rfl | exact kd_b0 _ | exact kd_b1 _ | exact kd_b2 _ | exact kd_b3 _ | exact kd_b4 _ | exact kd_b5 _ | exact kd_b6 _) (by omega) (by first | exact hFx _ 39 _ rfl | assumption | exact hBk.1 | exact hBk.2.1 | exact hBk.2.2.1 | exact hBk.2.2.2.1 | exact hBk.2.2.2.2.1 | exact hBk.2.2.2.2.2) ?_
                refine Wp.bipush rfl dX12_put_294 ?_
                refine Wp.iload rfl dX12_put_296 ?_
                refine Wp.iconst dX12_put_298 ?_
                refine Wp.isub dX12_put_299 ?_
                refine Wp.imul dX12_put_300 ?_
                refine Wp.iload rfl dX12_put_301 ?_
                refine Wp.iadd dX12_put_303 ?_
                refine Wp.iaload dX12_put_304 (by first | rfl | exact kd_b0 _ | exact kd_b1 _ | exact kd_b2 _ | exact kd_b3 _ | exact kd_b4 _ | exact kd_b5 _ | exact kd_b6 _) (by omega) (by omega) (by omega) ?_
                refine Wp.aload_n rfl dX12_put_305 ?_
                refine Wp.gr (kz := 39) rfl dX12_put_306 fkX12_86 (by first | rfl | exact kd_b0 _ | exact kd_b1 _ | exact kd_b2 _ | exact kd_b3 _ | exact kd_b4 _ | exact kd_b5 _ | exact kd_b6 _) (by omega) (by first | exact hFx _ 39 _ rfl | assumption | exact hBk.1 | exact hBk.2.1 | exact hBk.2.2.1 | exact hBk.2.2.2.1 | exact hBk.2.2.2.2.1 | exact hBk.2.2.2.2.2) ?_
                refine Wp.bipush rfl dX12_put_309 ?_
                refine Wp.iload rfl dX12_put_311 ?_
                refine Wp.imul dX12_put_313 ?_
                refine Wp.iload rfl dX12_put_314 ?_
                refine Wp.iadd dX12_put_316 ?_
                refine Wp.iaload dX12_put_317 (by first | rfl | exact kd_b0 _ | exact kd_b1 _ | exact kd_b2 _ | exact kd_b3 _ | exact kd_b4 _ | exact kd_b5 _ | exact kd_b6 _) (by omega) (by omega) (by omega) ?_
                refine Wp.callV (As := [_, _, _]) (ls0 := [_, _, _, _, _, _]) (bd := (0, 0)) (bd' := (0, 0)) dX12_put_318 kmX12_bring lkX12_260 (by decide) (by decide) (Nat.le_of_ble_eq_true rfl) (by first | rfl | exact kd_b0 _ | exact kd_b1 _ | exact kd_b2 _ | exact kd_b3 _ | exact kd_b4 _ | exact kd_b5 _ | exact kd_b6 _) (by omega) rfl rfl (Nat.le_of_ble_eq_true rfl) rfl ?_
                have hpp := hpr (by omega) (by omega)
                have hcc := hck (by omega)
                rw [hpp.1, hcc.1]
                refine ct_X12_bring hn hFx (PrW_cg hF.1 hP) hb (PlO_cg hF.1 hpp.2.1) (PlO_cg hF.1 hcc.2) ?_
                rw [tieP_cg hF.1]
                clear hpp hcc
                show Wp _ _ _ (_ :: _) _ _ _
                refine Wp.goto (tgt := 325) dX12_put_321 (by decide) ?_
                refine Wp.istore (ls' := [_, _, _, _, _, _, _, _, _, _, _, _]) dX12_put_325 (by decide) rfl ?_
                refine Wp.aload_n rfl dX12_put_327 ?_
                refine Wp.gr (kz := 40) rfl dX12_put_328 fkX12_89 (by first | rfl | exact kd_b0 _ | exact kd_b1 _ | exact kd_b2 _ | exact kd_b3 _ | exact kd_b4 _ | exact kd_b5 _ | exact kd_b6 _) (by omega) (by first | exact hFx _ 40 _ rfl | assumption | exact hBk.1 | exact hBk.2.1 | exact hBk.2.2.1 | exact hBk.2.2.2.1 | exact hBk.2.2.2.2.1 | exact hBk.2.2.2.2.2) ?_
                refine Wp.bipush rfl dX12_put_331 ?_
                refine Wp.iload rfl dX12_put_333 ?_
                refine Wp.imul dX12_put_335 ?_
                refine Wp.iload rfl dX12_put_336 ?_
                refine Wp.iadd dX12_put_338 ?_
                refine Wp.iaload dX12_put_339 (by first | rfl | exact kd_b0 _ | exact kd_b1 _ | exact kd_b2 _ | exact kd_b3 _ | exact kd_b4 _ | exact kd_b5 _ | exact kd_b6 _) (by omega) (by omega) (by omega) ?_
                refine Wp.iload rfl dX12_put_340 ?_
                refine Wp.iadd dX12_put_342 ?_
                refine Wp.iload rfl dX12_put_343 ?_
                refine Wp.icmp_ne (tgt := 352) dX12_put_345 (by decide) (by first | omega | exact bI_R _ | exact cmp_R _ _ | assumption) (by first | omega | exact bI_R _ | exact cmp_R _ _ | assumption) (fun c345 => ?_) (fun c345 => ?_)
                · refine Wp.iconst dX12_put_352 ?_
                  refine Wp.istore (ls' := [_, _, _, _, _, _, _, _, _, _, _, _]) dX12_put_353 (by decide) rfl ?_
                  refine Wp.iload rfl dX12_put_355 ?_
                  refine Wp.iload rfl dX12_put_357 ?_
                  refine Wp.if_eq (tgt := 366) dX12_put_359 (by decide) (by first | omega | exact bI_R _ | exact cmp_R _ _ | assumption) (fun c359 => ?_) (fun c359 => ?_)
                  · refine Wp.iconst dX12_put_366 ?_
                    refine Wp.iadd dX12_put_367 ?_
                    refine Wp.istore (ls' := [_, _, _, _, _, _, _, _, _, _, _, _]) dX12_put_368 (by decide) rfl ?_
                    refine Wp.goto (tgt := 244) dX12_put_370 (by decide) ?_
                    first | exact hdone _ _ _ (by omega) | (exfalso; omega)
                  · refine Wp.iconst dX12_put_362 ?_
                    refine Wp.goto (tgt := 367) dX12_put_363 (by decide) ?_
                    refine Wp.iadd dX12_put_367 ?_
                    refine Wp.istore (ls' := [_, _, _, _, _, _, _, _, _, _, _, _]) dX12_put_368 (by decide) rfl ?_
                    refine Wp.goto (tgt := 244) dX12_put_370 (by decide) ?_
                    first | exact hdone _ _ _ (by omega) | (exfalso; omega)
                · refine Wp.iconst dX12_put_348 ?_
                  refine Wp.goto (tgt := 353) dX12_put_349 (by decide) ?_
                  refine Wp.istore (ls' := [_, _, _, _, _, _, _, _, _, _, _, _]) dX12_put_353 (by decide) rfl ?_
                  refine Wp.iload rfl dX12_put_355 ?_
                  refine Wp.iload rfl dX12_put_357 ?_
                  refine Wp.if_eq (tgt := 366) dX12_put_359 (by decide) (by first | omega | exact bI_R _ | exact cmp_R _ _ | assumption) (fun c359 => ?_) (fun c359 => ?_)
                  · refine Wp.iconst dX12_put_366 ?_
                    refine Wp.iadd dX12_put_367 ?_
                    refine Wp.istore (ls' := [_, _, _, _, _, _, _, _, _, _, _, _]) dX12_put_368 (by decide) rfl ?_
                    refine Wp.goto (tgt := 244) dX12_put_370 (by decide) ?_
                    first | exact hdone _ _ _ (by omega) | (exfalso; omega)
                  · refine Wp.iconst dX12_put_362 ?_
                    refine Wp.goto (tgt := 367) dX12_put_363 (by decide) ?_
                    refine Wp.iadd dX12_put_367 ?_
                    refine Wp.istore (ls' := [_, _, _, _, _, _, _, _, _, _, _, _]) dX12_put_368 (by decide) rfl ?_
                    refine Wp.goto (tgt := 244) dX12_put_370 (by decide) ?_
                    first | exact hdone _ _ _ (by omega) | (exfalso; omega)
            · have hpk := hpl (by omega)
              refine Wp.aload_n rfl dX12_put_254 ?_
              refine Wp.gr (kz := 38) rfl dX12_put_255 fkX12_83 (by first | rfl | exact kd_b0 _ | exact kd_b1 _ | exact kd_b2 _ | exact kd_b3 _ | exact kd_b4 _ | exact kd_b5 _ | exact kd_b6 _) (by omega) (by first | exact hFx _ 38 _ rfl | assumption | exact hBk.1 | exact hBk.2.1 | exact hBk.2.2.1 | exact hBk.2.2.2.1 | exact hBk.2.2.2.2.1 | exact hBk.2.2.2.2.2) ?_
              refine Wp.iload rfl dX12_put_258 ?_
              refine Wp.iconst dX12_put_260 ?_
              refine Wp.isub dX12_put_261 ?_
              refine Wp.iaload dX12_put_262 (by first | rfl | exact kd_b0 _ | exact kd_b1 _ | exact kd_b2 _ | exact kd_b3 _ | exact kd_b4 _ | exact kd_b5 _ | exact kd_b6 _) (by omega) (by omega) (by omega) ?_
              refine Wp.if_le (tgt := 280) dX12_put_263 (by decide) (by first | omega | exact bI_R _ | exact cmp_R _ _ | assumption) (fun c263 => ?_) (fun c263 => ?_)
              · refine Wp.iconst dX12_put_280 ?_
                refine Wp.istore (ls' := [_, _, _, _, _, _, _, _, _, _, _, _]) dX12_put_281 (by decide) rfl ?_
                refine Wp.iload rfl dX12_put_283 ?_
                refine Wp.if_eq (tgt := 324) dX12_put_285 (by decide) (by first | omega | exact bI_R _ | exact cmp_R _ _ | assumption) (fun c285 => ?_) (fun c285 => ?_)
                · refine Wp.iconst dX12_put_324 ?_
                  refine Wp.istore (ls' := [_, _, _, _, _, _, _, _, _, _, _, _]) dX12_put_325 (by decide) rfl ?_
                  refine Wp.aload_n rfl dX12_put_327 ?_
                  refine Wp.gr (kz := 40) rfl dX12_put_328 fkX12_89 (by first | rfl | exact kd_b0 _ | exact kd_b1 _ | exact kd_b2 _ | exact kd_b3 _ | exact kd_b4 _ | exact kd_b5 _ | exact kd_b6 _) (by omega) (by first | exact hFx _ 40 _ rfl | assumption | exact hBk.1 | exact hBk.2.1 | exact hBk.2.2.1 | exact hBk.2.2.2.1 | exact hBk.2.2.2.2.1 | exact hBk.2.2.2.2.2) ?_
                  refine Wp.bipush rfl dX12_put_331 ?_
                  refine Wp.iload rfl dX12_put_333 ?_
                  refine Wp.imul dX12_put_335 ?_
                  refine Wp.iload rfl dX12_put_336 ?_
                  refine Wp.iadd dX12_put_338 ?_
                  refine Wp.iaload dX12_put_339 (by first | rfl | exact kd_b0 _ | exact kd_b1 _ | exact kd_b2 _ | exact kd_b3 _ | exact kd_b4 _ | exact kd_b5 _ | exact kd_b6 _) (by omega) (by omega) (by omega) ?_
                  refine Wp.iload rfl dX12_put_340 ?_
                  refine Wp.iadd dX12_put_342 ?_
                  refine Wp.iload rfl dX12_put_343 ?_
                  refine Wp.icmp_ne (tgt := 352) dX12_put_345 (by decide) (by first | omega | exact bI_R _ | exact cmp_R _ _ | assumption) (by first | omega | exact bI_R _ | exact cmp_R _ _ | assumption) (fun c345 => ?_) (fun c345 => ?_)
                  · refine Wp.iconst dX12_put_352 ?_
                    refine Wp.istore (ls' := [_, _, _, _, _, _, _, _, _, _, _, _]) dX12_put_353 (by decide) rfl ?_
                    refine Wp.iload rfl dX12_put_355 ?_
                    refine Wp.iload rfl dX12_put_357 ?_
                    refine Wp.if_eq (tgt := 366) dX12_put_359 (by decide) (by first | omega | exact bI_R _ | exact cmp_R _ _ | assumption) (fun c359 => ?_) (fun c359 => ?_)
                    · refine Wp.iconst dX12_put_366 ?_
                      refine Wp.iadd dX12_put_367 ?_
                      refine Wp.istore (ls' := [_, _, _, _, _, _, _, _, _, _, _, _]) dX12_put_368 (by decide) rfl ?_
                      refine Wp.goto (tgt := 244) dX12_put_370 (by decide) ?_
                      first | exact hdone _ _ _ (by omega) | (exfalso; omega)
                    · refine Wp.iconst dX12_put_362 ?_
                      refine Wp.goto (tgt := 367) dX12_put_363 (by decide) ?_
                      refine Wp.iadd dX12_put_367 ?_
                      refine Wp.istore (ls' := [_, _, _, _, _, _, _, _, _, _, _, _]) dX12_put_368 (by decide) rfl ?_
                      refine Wp.goto (tgt := 244) dX12_put_370 (by decide) ?_
                      first | exact hdone _ _ _ (by omega) | (exfalso; omega)
                  · refine Wp.iconst dX12_put_348 ?_
                    refine Wp.goto (tgt := 353) dX12_put_349 (by decide) ?_
                    refine Wp.istore (ls' := [_, _, _, _, _, _, _, _, _, _, _, _]) dX12_put_353 (by decide) rfl ?_
                    refine Wp.iload rfl dX12_put_355 ?_
                    refine Wp.iload rfl dX12_put_357 ?_
                    refine Wp.if_eq (tgt := 366) dX12_put_359 (by decide) (by first | omega | exact bI_R _ | exact cmp_R _ _ | assumption) (fun c359 => ?_) (fun c359 => ?_)
                    · refine Wp.iconst dX12_put_366 ?_
                      refine Wp.iadd dX12_put_367 ?_
                      refine Wp.istore (ls' := [_, _, _, _, _, _, _, _, _, _, _, _]) dX12_put_368 (by decide) rfl ?_
                      refine Wp.goto (tgt := 244) dX12_put_370 (by decide) ?_
                      first | exact hdone _ _ _ (by omega) | (exfalso; omega)
                    · refine Wp.iconst dX12_put_362 ?_
                      refine Wp.goto (tgt := 367) dX12_put_363 (by decide) ?_
                      refine Wp.iadd dX12_put_367 ?_
                      refine Wp.istore (ls' := [_, _, _, _, _, _, _, _, _, _, _, _]) dX12_put_368 (by decide) rfl ?_
                      refine Wp.goto (tgt := 244) dX12_put_370 (by decide) ?_
                      first | exact hdone _ _ _ (by omega) | (exfalso; omega)
                · refine Wp.aload_n rfl dX12_put_288 ?_
                  refine Wp.iload_n rfl dX12_put_289 ?_
                  refine Wp.aload_n rfl dX12_put_290 ?_
                  refine Wp.gr (kz := 39) rfl dX12_put_291 fkX12_86 (by first | rfl | exact kd_b0 _ | exact kd_b1 _ | exact kd_b2 _ | exact kd_b3 _ | exact kd_b4 _ | exact kd_b5 _ | exact kd_b6 _) (by omega) (by first | exact hFx _ 39 _ rfl | assumption | exact hBk.1 | exact hBk.2.1 | exact hBk.2.2.1 | exact hBk.2.2.2.1 | exact hBk.2.2.2.2.1 | exact hBk.2.2.2.2.2) ?_
                  refine Wp.bipush rfl dX12_put_294 ?_
                  refine Wp.iload rfl dX12_put_296 ?_
                  refine Wp.iconst dX12_put_298 ?_
                  refine Wp.isub dX12_put_299 ?_
                  refine Wp.imul dX12_put_300 ?_
                  refine Wp.iload rfl dX12_put_301 ?_
                  refine Wp.iadd dX12_put_303 ?_
                  refine Wp.iaload dX12_put_304 (by first | rfl | exact kd_b0 _ | exact kd_b1 _ | exact kd_b2 _ | exact kd_b3 _ | exact kd_b4 _ | exact kd_b5 _ | exact kd_b6 _) (by omega) (by omega) (by omega) ?_
                  refine Wp.aload_n rfl dX12_put_305 ?_
                  refine Wp.gr (kz := 39) rfl dX12_put_306 fkX12_86 (by first | rfl | exact kd_b0 _ | exact kd_b1 _ | exact kd_b2 _ | exact kd_b3 _ | exact kd_b4 _ | exact kd_b5 _ | exact kd_b6 _) (by omega) (by first | exact hFx _ 39 _ rfl | assumption | exact hBk.1 | exact hBk.2.1 | exact hBk.2.2.1 | exact hBk.2.2.2.1 | exact hBk.2.2.2.2.1 | exact hBk.2.2.2.2.2) ?_
                  refine Wp.bipush rfl dX12_put_309 ?_
                  refine Wp.iload rfl dX12_put_311 ?_
                  refine Wp.imul dX12_put_313 ?_
                  refine Wp.iload rfl dX12_put_314 ?_
                  refine Wp.iadd dX12_put_316 ?_
                  refine Wp.iaload dX12_put_317 (by first | rfl | exact kd_b0 _ | exact kd_b1 _ | exact kd_b2 _ | exact kd_b3 _ | exact kd_b4 _ | exact kd_b5 _ | exact kd_b6 _) (by omega) (by omega) (by omega) ?_
                  refine Wp.callV (As := [_, _, _]) (ls0 := [_, _, _, _, _, _]) (bd := (0, 0)) (bd' := (0, 0)) dX12_put_318 kmX12_bring lkX12_260 (by decide) (by decide) (Nat.le_of_ble_eq_true rfl) (by first | rfl | exact kd_b0 _ | exact kd_b1 _ | exact kd_b2 _ | exact kd_b3 _ | exact kd_b4 _ | exact kd_b5 _ | exact kd_b6 _) (by omega) rfl rfl (Nat.le_of_ble_eq_true rfl) rfl ?_
                  have hpp := hpr (by omega) (by omega)
                  have hcc := hck (by omega)
                  rw [hpp.1, hcc.1]
                  refine ct_X12_bring hn hFx (PrW_cg hF.1 hP) hb (PlO_cg hF.1 hpp.2.1) (PlO_cg hF.1 hcc.2) ?_
                  rw [tieP_cg hF.1]
                  clear hpp hcc
                  show Wp _ _ _ (_ :: _) _ _ _
                  refine Wp.goto (tgt := 325) dX12_put_321 (by decide) ?_
                  refine Wp.istore (ls' := [_, _, _, _, _, _, _, _, _, _, _, _]) dX12_put_325 (by decide) rfl ?_
                  refine Wp.aload_n rfl dX12_put_327 ?_
                  refine Wp.gr (kz := 40) rfl dX12_put_328 fkX12_89 (by first | rfl | exact kd_b0 _ | exact kd_b1 _ | exact kd_b2 _ | exact kd_b3 _ | exact kd_b4 _ | exact kd_b5 _ | exact kd_b6 _) (by omega) (by first | exact hFx _ 40 _ rfl | assumption | exact hBk.1 | exact hBk.2.1 | exact hBk.2.2.1 | exact hBk.2.2.2.1 | exact hBk.2.2.2.2.1 | exact hBk.2.2.2.2.2) ?_
                  refine Wp.bipush rfl dX12_put_331 ?_
                  refine Wp.iload rfl dX12_put_333 ?_
                  refine Wp.imul dX12_put_335 ?_
                  refine Wp.iload rfl dX12_put_336 ?_
                  refine Wp.iadd dX12_put_338 ?_
                  refine Wp.iaload dX12_put_339 (by first | rfl | exact kd_b0 _ | exact kd_b1 _ | exact kd_b2 _ | exact kd_b3 _ | exact kd_b4 _ | exact kd_b5 _ | exact kd_b6 _) (by omega) (by omega) (by omega) ?_
                  refine Wp.iload rfl dX12_put_340 ?_
                  refine Wp.iadd dX12_put_342 ?_
                  refine Wp.iload rfl dX12_put_343 ?_
                  refine Wp.icmp_ne (tgt := 352) dX12_put_345 (by decide) (by first | omega | exact bI_R _ | exact cmp_R _ _ | assumption) (by first | omega | exact bI_R _ | exact cmp_R _ _ | assumption) (fun c345 => ?_) (fun c345 => ?_)
                  · refine Wp.iconst dX12_put_352 ?_
                    refine Wp.istore (ls' := [_, _, _, _, _, _, _, _, _, _, _, _]) dX12_put_353 (by decide) rfl ?_
                    refine Wp.iload rfl dX12_put_355 ?_
                    refine Wp.iload rfl dX12_put_357 ?_
                    refine Wp.if_eq (tgt := 366) dX12_put_359 (by decide) (by first | omega | exact bI_R _ | exact cmp_R _ _ | assumption) (fun c359 => ?_) (fun c359 => ?_)
                    · refine Wp.iconst dX12_put_366 ?_
                      refine Wp.iadd dX12_put_367 ?_
                      refine Wp.istore (ls' := [_, _, _, _, _, _, _, _, _, _, _, _]) dX12_put_368 (by decide) rfl ?_
                      refine Wp.goto (tgt := 244) dX12_put_370 (by decide) ?_
                      first | exact hdone _ _ _ (by omega) | (exfalso; omega)
                    · refine Wp.iconst dX12_put_362 ?_
                      refine Wp.goto (tgt := 367) dX12_put_363 (by decide) ?_
                      refine Wp.iadd dX12_put_367 ?_
                      refine Wp.istore (ls' := [_, _, _, _, _, _, _, _, _, _, _, _]) dX12_put_368 (by decide) rfl ?_
                      refine Wp.goto (tgt := 244) dX12_put_370 (by decide) ?_
                      first | exact hdone _ _ _ (by omega) | (exfalso; omega)
                  · refine Wp.iconst dX12_put_348 ?_
                    refine Wp.goto (tgt := 353) dX12_put_349 (by decide) ?_
                    refine Wp.istore (ls' := [_, _, _, _, _, _, _, _, _, _, _, _]) dX12_put_353 (by decide) rfl ?_
                    refine Wp.iload rfl dX12_put_355 ?_
                    refine Wp.iload rfl dX12_put_357 ?_
                    refine Wp.if_eq (tgt := 366) dX12_put_359 (by decide) (by first | omega | exact bI_R _ | exact cmp_R _ _ | assumption) (fun c359 => ?_) (fun c359 => ?_)
                    · refine Wp.iconst dX12_put_366 ?_
                      refine Wp.iadd dX12_put_367 ?_
                      refine Wp.istore (ls' := [_, _, _, _, _, _, _, _, _, _, _, _]) dX12_put_368 (by decide) rfl ?_
                      refine Wp.goto (tgt := 244) dX12_put_370 (by decide) ?_
                      first | exact hdone _ _ _ (by omega) | (exfalso; omega)
                    · refine Wp.iconst dX12_put_362 ?_
                      refine Wp.goto (tgt := 367) dX12_put_363 (by decide) ?_
                      refine Wp.iadd dX12_put_367 ?_
                      refine Wp.istore (ls' := [_, _, _, _, _, _, _, _, _, _, _, _]) dX12_put_368 (by decide) rfl ?_
                      refine Wp.goto (tgt := 244) dX12_put_370 (by decide) ?_
                      first | exact hdone _ _ _ (by omega) | (exfalso; omega)
              · refine Wp.aload_n rfl dX12_put_266 ?_
                refine Wp.gr (kz := 38) rfl dX12_put_267 fkX12_83 (by first | rfl | exact kd_b0 _ | exact kd_b1 _ | exact kd_b2 _ | exact kd_b3 _ | exact kd_b4 _ | exact kd_b5 _ | exact kd_b6 _) (by omega) (by first | exact hFx _ 38 _ rfl | assumption | exact hBk.1 | exact hBk.2.1 | exact hBk.2.2.1 | exact hBk.2.2.2.1 | exact hBk.2.2.2.2.1 | exact hBk.2.2.2.2.2) ?_
                refine Wp.iload rfl dX12_put_270 ?_
                refine Wp.iaload dX12_put_272 (by first | rfl | exact kd_b0 _ | exact kd_b1 _ | exact kd_b2 _ | exact kd_b3 _ | exact kd_b4 _ | exact kd_b5 _ | exact kd_b6 _) (by omega) (by omega) (by omega) ?_
                refine Wp.if_le (tgt := 280) dX12_put_273 (by decide) (by first | omega | exact bI_R _ | exact cmp_R _ _ | assumption) (fun c273 => ?_) (fun c273 => ?_)
                · refine Wp.iconst dX12_put_280 ?_
                  refine Wp.istore (ls' := [_, _, _, _, _, _, _, _, _, _, _, _]) dX12_put_281 (by decide) rfl ?_
                  refine Wp.iload rfl dX12_put_283 ?_
                  refine Wp.if_eq (tgt := 324) dX12_put_285 (by decide) (by first | omega | exact bI_R _ | exact cmp_R _ _ | assumption) (fun c285 => ?_) (fun c285 => ?_)
                  · refine Wp.iconst dX12_put_324 ?_
                    refine Wp.istore (ls' := [_, _, _, _, _, _, _, _, _, _, _, _]) dX12_put_325 (by decide) rfl ?_
                    refine Wp.aload_n rfl dX12_put_327 ?_
                    refine Wp.gr (kz := 40) rfl dX12_put_328 fkX12_89 (by first | rfl | exact kd_b0 _ | exact kd_b1 _ | exact kd_b2 _ | exact kd_b3 _ | exact kd_b4 _ | exact kd_b5 _ | exact kd_b6 _) (by omega) (by first | exact hFx _ 40 _ rfl | assumption | exact hBk.1 | exact hBk.2.1 | exact hBk.2.2.1 | exact hBk.2.2.2.1 | exact hBk.2.2.2.2.1 | exact hBk.2.2.2.2.2) ?_
                    refine Wp.bipush rfl dX12_put_331 ?_
                    refine Wp.iload rfl dX12_put_333 ?_
                    refine Wp.imul dX12_put_335 ?_
                    refine Wp.iload rfl dX12_put_336 ?_
                    refine Wp.iadd dX12_put_338 ?_
                    refine Wp.iaload dX12_put_339 (by first | rfl | exact kd_b0 _ | exact kd_b1 _ | exact kd_b2 _ | exact kd_b3 _ | exact kd_b4 _ | exact kd_b5 _ | exact kd_b6 _) (by omega) (by omega) (by omega) ?_
                    refine Wp.iload rfl dX12_put_340 ?_
                    refine Wp.iadd dX12_put_342 ?_
                    refine Wp.iload rfl dX12_put_343 ?_
                    refine Wp.icmp_ne (tgt := 352) dX12_put_345 (by decide) (by first | omega | exact bI_R _ | exact cmp_R _ _ | assumption) (by first | omega | exact bI_R _ | exact cmp_R _ _ | assumption) (fun c345 => ?_) (fun c345 => ?_)
                    · refine Wp.iconst dX12_put_352 ?_
                      refine Wp.istore (ls' := [_, _, _, _, _, _, _, _, _, _, _, _]) dX12_put_353 (by decide) rfl ?_
                      refine Wp.iload rfl dX12_put_355 ?_
                      refine Wp.iload rfl dX12_put_357 ?_
                      refine Wp.if_eq (tgt := 366) dX12_put_359 (by decide) (by first | omega | exact bI_R _ | exact cmp_R _ _ | assumption) (fun c359 => ?_) (fun c359 => ?_)
                      · refine Wp.iconst dX12_put_366 ?_
                        refine Wp.iadd dX12_put_367 ?_
                        refine Wp.istore (ls' := [_, _, _, _, _, _, _, _, _, _, _, _]) dX12_put_368 (by decide) rfl ?_
                        refine Wp.goto (tgt := 244) dX12_put_370 (by decide) ?_
                        first | exact hdone _ _ _ (by omega) | (exfalso; omega)
                      · refine Wp.iconst dX12_put_362 ?_
                        refine Wp.goto (tgt := 367) dX12_put_363 (by decide) ?_
                        refine Wp.iadd dX12_put_367 ?_
                        refine Wp.istore (ls' := [_, _, _, _, _, _, _, _, _, _, _, _]) dX12_put_368 (by decide) rfl ?_
                        refine Wp.goto (tgt := 244) dX12_put_370 (by decide) ?_
                        first | exact hdone _ _ _ (by omega) | (exfalso; omega)
                    · refine Wp.iconst dX12_put_348 ?_
                      refine Wp.goto (tgt := 353) dX12_put_349 (by decide) ?_
                      refine Wp.istore (ls' := [_, _, _, _, _, _, _, _, _, _, _, _]) dX12_put_353 (by decide) rfl ?_
                      refine Wp.iload rfl dX12_put_355 ?_
                      refine Wp.iload rfl dX12_put_357 ?_
                      refine Wp.if_eq (tgt := 366) dX12_put_359 (by decide) (by first | omega | exact bI_R _ | exact cmp_R _ _ | assumption) (fun c359 => ?_) (fun c359 => ?_)
                      · refine Wp.iconst dX12_put_366 ?_
                        refine Wp.iadd dX12_put_367 ?_
                        refine Wp.istore (ls' := [_, _, _, _, _, _, _, _, _, _, _, _]) dX12_put_368 (by decide) rfl ?_
                        refine Wp.goto (tgt := 244) dX12_put_370 (by decide) ?_
                        first | exact hdone _ _ _ (by omega) | (exfalso; omega)
                      · refine Wp.iconst dX12_put_362 ?_
                        refine Wp.goto (tgt := 367) dX12_put_363 (by decide) ?_
                        refine Wp.iadd dX12_put_367 ?_
                        refine Wp.istore (ls' := [_, _, _, _, _, _, _, _, _, _, _, _]) dX12_put_368 (by decide) rfl ?_
                        refine Wp.goto (tgt := 244) dX12_put_370 (by decide) ?_
                        first | exact hdone _ _ _ (by omega) | (exfalso; omega)
                  · refine Wp.aload_n rfl dX12_put_288 ?_
                    refine Wp.iload_n rfl dX12_put_289 ?_
                    refine Wp.aload_n rfl dX12_put_290 ?_
                    refine Wp.gr (kz := 39) rfl dX12_put_291 fkX12_86 (by first | rfl | exact kd_b0 _ | exact kd_b1 _ | exact kd_b2 _ | exact kd_b3 _ | exact kd_b4 _ | exact kd_b5 _ | exact kd_b6 _) (by omega) (by first | exact hFx _ 39 _ rfl | assumption | exact hBk.1 | exact hBk.2.1 | exact hBk.2.2.1 | exact hBk.2.2.2.1 | exact hBk.2.2.2.2.1 | exact hBk.2.2.2.2.2) ?_
                    refine Wp.bipush rfl dX12_put_294 ?_
                    refine Wp.iload rfl dX12_put_296 ?_
                    refine Wp.iconst dX12_put_298 ?_
                    refine Wp.isub dX12_put_299 ?_
                    refine Wp.imul dX12_put_300 ?_
                    refine Wp.iload rfl dX12_put_301 ?_
                    refine Wp.iadd dX12_put_303 ?_
                    refine Wp.iaload dX12_put_304 (by first | rfl | exact kd_b0 _ | exact kd_b1 _ | exact kd_b2 _ | exact kd_b3 _ | exact kd_b4 _ | exact kd_b5 _ | exact kd_b6 _) (by omega) (by omega) (by omega) ?_
                    refine Wp.aload_n rfl dX12_put_305 ?_
                    refine Wp.gr (kz := 39) rfl dX12_put_306 fkX12_86 (by first | rfl | exact kd_b0 _ | exact kd_b1 _ | exact kd_b2 _ | exact kd_b3 _ | exact kd_b4 _ | exact kd_b5 _ | exact kd_b6 _) (by omega) (by first | exact hFx _ 39 _ rfl | assumption | exact hBk.1 | exact hBk.2.1 | exact hBk.2.2.1 | exact hBk.2.2.2.1 | exact hBk.2.2.2.2.1 | exact hBk.2.2.2.2.2) ?_
                    refine Wp.bipush rfl dX12_put_309 ?_
                    refine Wp.iload rfl dX12_put_311 ?_
                    refine Wp.imul dX12_put_313 ?_
                    refine Wp.iload rfl dX12_put_314 ?_
                    refine Wp.iadd dX12_put_316 ?_
                    refine Wp.iaload dX12_put_317 (by first | rfl | exact kd_b0 _ | exact kd_b1 _ | exact kd_b2 _ | exact kd_b3 _ | exact kd_b4 _ | exact kd_b5 _ | exact kd_b6 _) (by omega) (by omega) (by omega) ?_
                    refine Wp.callV (As := [_, _, _]) (ls0 := [_, _, _, _, _, _]) (bd := (0, 0)) (bd' := (0, 0)) dX12_put_318 kmX12_bring lkX12_260 (by decide) (by decide) (Nat.le_of_ble_eq_true rfl) (by first | rfl | exact kd_b0 _ | exact kd_b1 _ | exact kd_b2 _ | exact kd_b3 _ | exact kd_b4 _ | exact kd_b5 _ | exact kd_b6 _) (by omega) rfl rfl (Nat.le_of_ble_eq_true rfl) rfl ?_
                    have hpp := hpr (by omega) (by omega)
                    have hcc := hck (by omega)
                    rw [hpp.1, hcc.1]
                    refine ct_X12_bring hn hFx (PrW_cg hF.1 hP) hb (PlO_cg hF.1 hpp.2.1) (PlO_cg hF.1 hcc.2) ?_
                    rw [tieP_cg hF.1]
                    clear hpp hcc
                    show Wp _ _ _ (_ :: _) _ _ _
                    refine Wp.goto (tgt := 325) dX12_put_321 (by decide) ?_
                    refine Wp.istore (ls' := [_, _, _, _, _, _, _, _, _, _, _, _]) dX12_put_325 (by decide) rfl ?_
                    refine Wp.aload_n rfl dX12_put_327 ?_
                    refine Wp.gr (kz := 40) rfl dX12_put_328 fkX12_89 (by first | rfl | exact kd_b0 _ | exact kd_b1 _ | exact kd_b2 _ | exact kd_b3 _ | exact kd_b4 _ | exact kd_b5 _ | exact kd_b6 _) (by omega) (by first | exact hFx _ 40 _ rfl | assumption | exact hBk.1 | exact hBk.2.1 | exact hBk.2.2.1 | exact hBk.2.2.2.1 | exact hBk.2.2.2.2.1 | exact hBk.2.2.2.2.2) ?_
                    refine Wp.bipush rfl dX12_put_331 ?_
                    refine Wp.iload rfl dX12_put_333 ?_
                    refine Wp.imul dX12_put_335 ?_
                    refine Wp.iload rfl dX12_put_336 ?_
                    refine Wp.iadd dX12_put_338 ?_
                    refine Wp.iaload dX12_put_339 (by first | rfl | exact kd_b0 _ | exact kd_b1 _ | exact kd_b2 _ | exact kd_b3 _ | exact kd_b4 _ | exact kd_b5 _ | exact kd_b6 _) (by omega) (by omega) (by omega) ?_
                    refine Wp.iload rfl dX12_put_340 ?_
                    refine Wp.iadd dX12_put_342 ?_
                    refine Wp.iload rfl dX12_put_343 ?_
                    refine Wp.icmp_ne (tgt := 352) dX12_put_345 (by decide) (by first | omega | exact bI_R _ | exact cmp_R _ _ | assumption) (by first | omega | exact bI_R _ | exact cmp_R _ _ | assumption) (fun c345 => ?_) (fun c345 => ?_)
                    · refine Wp.iconst dX12_put_352 ?_
                      refine Wp.istore (ls' := [_, _, _, _, _, _, _, _, _, _, _, _]) dX12_put_353 (by decide) rfl ?_
                      refine Wp.iload rfl dX12_put_355 ?_
                      refine Wp.iload rfl dX12_put_357 ?_
                      refine Wp.if_eq (tgt := 366) dX12_put_359 (by decide) (by first | omega | exact bI_R _ | exact cmp_R _ _ | assumption) (fun c359 => ?_) (fun c359 => ?_)
                      · refine Wp.iconst dX12_put_366 ?_
                        refine Wp.iadd dX12_put_367 ?_
                        refine Wp.istore (ls' := [_, _, _, _, _, _, _, _, _, _, _, _]) dX12_put_368 (by decide) rfl ?_
                        refine Wp.goto (tgt := 244) dX12_put_370 (by decide) ?_
                        first | exact hdone _ _ _ (by omega) | (exfalso; omega)
                      · refine Wp.iconst dX12_put_362 ?_
                        refine Wp.goto (tgt := 367) dX12_put_363 (by decide) ?_
                        refine Wp.iadd dX12_put_367 ?_
                        refine Wp.istore (ls' := [_, _, _, _, _, _, _, _, _, _, _, _]) dX12_put_368 (by decide) rfl ?_
                        refine Wp.goto (tgt := 244) dX12_put_370 (by decide) ?_
                        first | exact hdone _ _ _ (by omega) | (exfalso; omega)
                    · refine Wp.iconst dX12_put_348 ?_
                      refine Wp.goto (tgt := 353) dX12_put_349 (by decide) ?_
                      refine Wp.istore (ls' := [_, _, _, _, _, _, _, _, _, _, _, _]) dX12_put_353 (by decide) rfl ?_
                      refine Wp.iload rfl dX12_put_355 ?_
                      refine Wp.iload rfl dX12_put_357 ?_
                      refine Wp.if_eq (tgt := 366) dX12_put_359 (by decide) (by first | omega | exact bI_R _ | exact cmp_R _ _ | assumption) (fun c359 => ?_) (fun c359 => ?_)
                      · refine Wp.iconst dX12_put_366 ?_
                        refine Wp.iadd dX12_put_367 ?_
                        refine Wp.istore (ls' := [_, _, _, _, _, _, _, _, _, _, _, _]) dX12_put_368 (by decide) rfl ?_
                        refine Wp.goto (tgt := 244) dX12_put_370 (by decide) ?_
                        first | exact hdone _ _ _ (by omega) | (exfalso; omega)
                      · refine Wp.iconst dX12_put_362 ?_
                        refine Wp.goto (tgt := 367) dX12_put_363 (by decide) ?_
                        refine Wp.iadd dX12_put_367 ?_
                        refine Wp.istore (ls' := [_, _, _, _, _, _, _, _, _, _, _, _]) dX12_put_368 (by decide) rfl ?_
                        refine Wp.goto (tgt := 244) dX12_put_370 (by decide) ?_
                        first | exact hdone _ _ _ (by omega) | (exfalso; omega)
                · refine Wp.iconst dX12_put_276 ?_
                  refine Wp.goto (tgt := 281) dX12_put_277 (by decide) ?_
                  refine Wp.istore (ls' := [_, _, _, _, _, _, _, _, _, _, _, _]) dX12_put_281 (by decide) rfl ?_
                  refine Wp.iload rfl dX12_put_283 ?_
                  refine Wp.if_eq (tgt := 324) dX12_put_285 (by decide) (by first | omega | exact bI_R _ | exact cmp_R _ _ | assumption) (fun c285 => ?_) (fun c285 => ?_)
                  · refine Wp.iconst dX12_put_324 ?_
                    refine Wp.istore (ls' := [_, _, _, _, _, _, _, _, _, _, _, _]) dX12_put_325 (by decide) rfl ?_
                    refine Wp.aload_n rfl dX12_put_327 ?_
                    refine Wp.gr (kz := 40) rfl dX12_put_328 fkX12_89 (by first | rfl | exact kd_b0 _ | exact kd_b1 _ | exact kd_b2 _ | exact kd_b3 _ | exact kd_b4 _ | exact kd_b5 _ | exact kd_b6 _) (by omega) (by first | exact hFx _ 40 _ rfl | assumption | exact hBk.1 | exact hBk.2.1 | exact hBk.2.2.1 | exact hBk.2.2.2.1 | exact hBk.2.2.2.2.1 | exact hBk.2.2.2.2.2) ?_
                    refine Wp.bipush rfl dX12_put_331 ?_
                    refine Wp.iload rfl dX12_put_333 ?_
                    refine Wp.imul dX12_put_335 ?_
                    refine Wp.iload rfl dX12_put_336 ?_
                    refine Wp.iadd dX12_put_338 ?_
                    refine Wp.iaload dX12_put_339 (by first | rfl | exact kd_b0 _ | exact kd_b1 _ | exact kd_b2 _ | exact kd_b3 _ | exact kd_b4 _ | exact kd_b5 _ | exact kd_b6 _) (by omega) (by omega) (by omega) ?_
                    refine Wp.iload rfl dX12_put_340 ?_
                    refine Wp.iadd dX12_put_342 ?_
                    refine Wp.iload rfl dX12_put_343 ?_
                    refine Wp.icmp_ne (tgt := 352) dX12_put_345 (by decide) (by first | omega | exact bI_R _ | exact cmp_R _ _ | assumption) (by first | omega | exact bI_R _ | exact cmp_R _ _ | assumption) (fun c345 => ?_) (fun c345 => ?_)
                    · refine Wp.iconst dX12_put_352 ?_
                      refine Wp.istore (ls' := [_, _, _, _, _, _, _, _, _, _, _, _]) dX12_put_353 (by decide) rfl ?_
                      refine Wp.iload rfl dX12_put_355 ?_
                      refine Wp.iload rfl dX12_put_357 ?_
                      refine Wp.if_eq (tgt := 366) dX12_put_359 (by decide) (by first | omega | exact bI_R _ | exact cmp_R _ _ | assumption) (fun c359 => ?_) (fun c359 => ?_)
                      · refine Wp.iconst dX12_put_366 ?_
                        refine Wp.iadd dX12_put_367 ?_
                        refine Wp.istore (ls' := [_, _, _, _, _, _, _, _, _, _, _, _]) dX12_put_368 (by decide) rfl ?_
                        refine Wp.goto (tgt := 244) dX12_put_370 (by decide) ?_
                        first | exact hdone _ _ _ (by omega) | (exfalso; omega)
                      · refine Wp.iconst dX12_put_362 ?_
                        refine Wp.goto (tgt := 367) dX12_put_363 (by decide) ?_
                        refine Wp.iadd dX12_put_367 ?_
                        refine Wp.istore (ls' := [_, _, _, _, _, _, _, _, _, _, _, _]) dX12_put_368 (by decide) rfl ?_
                        refine Wp.goto (tgt := 244) dX12_put_370 (by decide) ?_
                        first | exact hdone _ _ _ (by omega) | (exfalso; omega)
                    · refine Wp.iconst dX12_put_348 ?_
                      refine Wp.goto (tgt := 353) dX12_put_349 (by decide) ?_
                      refine Wp.istore (ls' := [_, _, _, _, _, _, _, _, _, _, _, _]) dX12_put_353 (by decide) rfl ?_
                      refine Wp.iload rfl dX12_put_355 ?_
                      refine Wp.iload rfl dX12_put_357 ?_
                      refine Wp.if_eq (tgt := 366) dX12_put_359 (by decide) (by first | omega | exact bI_R _ | exact cmp_R _ _ | assumption) (fun c359 => ?_) (fun c359 => ?_)
                      · refine Wp.iconst dX12_put_366 ?_
                        refine Wp.iadd dX12_put_367 ?_
                        refine Wp.istore (ls' := [_, _, _, _, _, _, _, _, _, _, _, _]) dX12_put_368 (by decide) rfl ?_
                        refine Wp.goto (tgt := 244) dX12_put_370 (by decide) ?_
                        first | exact hdone _ _ _ (by omega) | (exfalso; omega)
                      · refine Wp.iconst dX12_put_362 ?_
                        refine Wp.goto (tgt := 367) dX12_put_363 (by decide) ?_
                        refine Wp.iadd dX12_put_367 ?_
                        refine Wp.istore (ls' := [_, _, _, _, _, _, _, _, _, _, _, _]) dX12_put_368 (by decide) rfl ?_
                        refine Wp.goto (tgt := 244) dX12_put_370 (by decide) ?_
                        first | exact hdone _ _ _ (by omega) | (exfalso; omega)
                  · refine Wp.aload_n rfl dX12_put_288 ?_
                    refine Wp.iload_n rfl dX12_put_289 ?_
                    refine Wp.aload_n rfl dX12_put_290 ?_
                    refine Wp.gr (kz := 39) rfl dX12_put_291 fkX12_86 (by first | rfl | exact kd_b0 _ | exact kd_b1 _ | exact kd_b2 _ | exact kd_b3 _ | exact kd_b4 _ | exact kd_b5 _ | exact kd_b6 _) (by omega) (by first | exact hFx _ 39 _ rfl | assumption | exact hBk.1 | exact hBk.2.1 | exact hBk.2.2.1 | exact hBk.2.2.2.1 | exact hBk.2.2.2.2.1 | exact hBk.2.2.2.2.2) ?_
                    refine Wp.bipush rfl dX12_put_294 ?_
                    refine Wp.iload rfl dX12_put_296 ?_
                    refine Wp.iconst dX12_put_298 ?_
                    refine Wp.isub dX12_put_299 ?_
                    refine Wp.imul dX12_put_300 ?_
                    refine Wp.iload rfl dX12_put_301 ?_
                    refine Wp.iadd dX12_put_303 ?_
                    refine Wp.iaload dX12_put_304 (by first | rfl | exact kd_b0 _ | exact kd_b1 _ | exact kd_b2 _ | exact kd_b3 _ | exact kd_b4 _ | exact kd_b5 _ | exact kd_b6 _) (by omega) (by omega) (by omega) ?_
                    refine Wp.aload_n rfl dX12_put_305 ?_
                    refine Wp.gr (kz := 39) rfl dX12_put_306 fkX12_86 (by first | rfl | exact kd_b0 _ | exact kd_b1 _ | exact kd_b2 _ | exact kd_b3 _ | exact kd_b4 _ | exact kd_b5 _ | exact kd_b6 _) (by omega) (by first | exact hFx _ 39 _ rfl | assumption | exact hBk.1 | exact hBk.2.1 | exact hBk.2.2.1 | exact hBk.2.2.2.1 | exact hBk.2.2.2.2.1 | exact hBk.2.2.2.2.2) ?_
                    refine Wp.bipush rfl dX12_put_309 ?_
                    refine Wp.iload rfl dX12_put_311 ?_
                    refine Wp.imul dX12_put_313 ?_
                    refine Wp.iload rfl dX12_put_314 ?_
                    refine Wp.iadd dX12_put_316 ?_
                    refine Wp.iaload dX12_put_317 (by first | rfl | exact kd_b0 _ | exact kd_b1 _ | exact kd_b2 _ | exact kd_b3 _ | exact kd_b4 _ | exact kd_b5 _ | exact kd_b6 _) (by omega) (by omega) (by omega) ?_
                    refine Wp.callV (As := [_, _, _]) (ls0 := [_, _, _, _, _, _]) (bd := (0, 0)) (bd' := (0, 0)) dX12_put_318 kmX12_bring lkX12_260 (by decide) (by decide) (Nat.le_of_ble_eq_true rfl) (by first | rfl | exact kd_b0 _ | exact kd_b1 _ | exact kd_b2 _ | exact kd_b3 _ | exact kd_b4 _ | exact kd_b5 _ | exact kd_b6 _) (by omega) rfl rfl (Nat.le_of_ble_eq_true rfl) rfl ?_
                    have hpp := hpr (by omega) (by omega)
                    have hcc := hck (by omega)
                    rw [hpp.1, hcc.1]
                    refine ct_X12_bring hn hFx (PrW_cg hF.1 hP) hb (PlO_cg hF.1 hpp.2.1) (PlO_cg hF.1 hcc.2) ?_
                    rw [tieP_cg hF.1]
                    clear hpp hcc
                    show Wp _ _ _ (_ :: _) _ _ _
                    refine Wp.goto (tgt := 325) dX12_put_321 (by decide) ?_
                    refine Wp.istore (ls' := [_, _, _, _, _, _, _, _, _, _, _, _]) dX12_put_325 (by decide) rfl ?_
                    refine Wp.aload_n rfl dX12_put_327 ?_
                    refine Wp.gr (kz := 40) rfl dX12_put_328 fkX12_89 (by first | rfl | exact kd_b0 _ | exact kd_b1 _ | exact kd_b2 _ | exact kd_b3 _ | exact kd_b4 _ | exact kd_b5 _ | exact kd_b6 _) (by omega) (by first | exact hFx _ 40 _ rfl | assumption | exact hBk.1 | exact hBk.2.1 | exact hBk.2.2.1 | exact hBk.2.2.2.1 | exact hBk.2.2.2.2.1 | exact hBk.2.2.2.2.2) ?_
                    refine Wp.bipush rfl dX12_put_331 ?_
                    refine Wp.iload rfl dX12_put_333 ?_
                    refine Wp.imul dX12_put_335 ?_
                    refine Wp.iload rfl dX12_put_336 ?_
                    refine Wp.iadd dX12_put_338 ?_
                    refine Wp.iaload dX12_put_339 (by first | rfl | exact kd_b0 _ | exact kd_b1 _ | exact kd_b2 _ | exact kd_b3 _ | exact kd_b4 _ | exact kd_b5 _ | exact kd_b6 _) (by omega) (by omega) (by omega) ?_
                    refine Wp.iload rfl dX12_put_340 ?_
                    refine Wp.iadd dX12_put_342 ?_
                    refine Wp.iload rfl dX12_put_343 ?_
                    refine Wp.icmp_ne (tgt := 352) dX12_put_345 (by decide) (by first | omega | exact bI_R _ | exact cmp_R _ _ | assumption) (by first | omega | exact bI_R _ | exact cmp_R _ _ | assumption) (fun c345 => ?_) (fun c345 => ?_)
                    · refine Wp.iconst dX12_put_352 ?_
                      refine Wp.istore (ls' := [_, _, _, _, _, _, _, _, _, _, _, _]) dX12_put_353 (by decide) rfl ?_
                      refine Wp.iload rfl dX12_put_355 ?_
                      refine Wp.iload rfl dX12_put_357 ?_
                      refine Wp.if_eq (tgt := 366) dX12_put_359 (by decide) (by first | omega | exact bI_R _ | exact cmp_R _ _ | assumption) (fun c359 => ?_) (fun c359 => ?_)
                      · refine Wp.iconst dX12_put_366 ?_
                        refine Wp.iadd dX12_put_367 ?_
                        refine Wp.istore (ls' := [_, _, _, _, _, _, _, _, _, _, _, _]) dX12_put_368 (by decide) rfl ?_
                        refine Wp.goto (tgt := 244) dX12_put_370 (by decide) ?_
                        first | exact hdone _ _ _ (by omega) | (exfalso; omega)
                      · refine Wp.iconst dX12_put_362 ?_
                        refine Wp.goto (tgt := 367) dX12_put_363 (by decide) ?_
                        refine Wp.iadd dX12_put_367 ?_
                        refine Wp.istore (ls' := [_, _, _, _, _, _, _, _, _, _, _, _]) dX12_put_368 (by decide) rfl ?_
                        refine Wp.goto (tgt := 244) dX12_put_370 (by decide) ?_
                        first | exact hdone _ _ _ (by omega) | (exfalso; omega)
                    · refine Wp.iconst dX12_put_348 ?_
                      refine Wp.goto (tgt := 353) dX12_put_349 (by decide) ?_
                      refine Wp.istore (ls' := [_, _, _, _, _, _, _, _, _, _, _, _]) dX12_put_353 (by decide) rfl ?_
                      refine Wp.iload rfl dX12_put_355 ?_
                      refine Wp.iload rfl dX12_put_357 ?_
                      refine Wp.if_eq (tgt := 366) dX12_put_359 (by decide) (by first | omega | exact bI_R _ | exact cmp_R _ _ | assumption) (fun c359 => ?_) (fun c359 => ?_)
                      · refine Wp.iconst dX12_put_366 ?_
                        refine Wp.iadd dX12_put_367 ?_
                        refine Wp.istore (ls' := [_, _, _, _, _, _, _, _, _, _, _, _]) dX12_put_368 (by decide) rfl ?_
                        refine Wp.goto (tgt := 244) dX12_put_370 (by decide) ?_
                        first | exact hdone _ _ _ (by omega) | (exfalso; omega)
                      · refine Wp.iconst dX12_put_362 ?_
                        refine Wp.goto (tgt := 367) dX12_put_363 (by decide) ?_
                        refine Wp.iadd dX12_put_367 ?_
                        refine Wp.istore (ls' := [_, _, _, _, _, _, _, _, _, _, _, _]) dX12_put_368 (by decide) rfl ?_
                        refine Wp.goto (tgt := 244) dX12_put_370 (by decide) ?_
                        first | exact hdone _ _ _ (by omega) | (exfalso; omega)
        | succ d ihd =>
          intro t zt x10 x11 htj hzt
          subst hzt
          have hgg : gch I b (C k) (sfD C S (S - (k + 1))) (czp I b C S k) t ≠ rest := hj3 t (by omega)
          have hok : cOk (C k) t := by omega
          have hm := hmk t hok
          have hmB : 0 ≤ J 54 (18 * k + t) ∧ J 54 (18 * k + t) ≤ 1090 := by rw [hm]; exact wv_B2 hP b C (by omega) _
          have hck : 0 < (C k).length → J 53 (18 * k + t) = (C k).getD t 0 ∧ PlO I ((C k).getD t 0) := fun h => ⟨hA.2 t (by omega), (hCok k hkS).2 _ (getD_mem (by omega))⟩
          have htB := tieP_B hP b ((C (k - 1)).getD idx 0) ((C k).getD t 0)
          have hG1 : 0 < k → 0 < (C (k - 1)).length → 0 < (C k).length → J 54 (18 * k + t) + tieP I b ((C (k - 1)).getD idx 0) ((C k).getD t 0) = gch I b (C k) (sfD C S (S - (k + 1))) (czp I b C S k) t := fun h1 h2 h3 => by
            unfold gch
            rw [if_neg (by omega), (hpr h1 h2).2.2, hm, opc_1 h3]
            exact Int.add_comm _ _
          have hG0 : ¬ (0 < k ∧ 0 < (C (k - 1)).length ∧ 0 < (C k).length) → J 54 (18 * k + t) + 0 = gch I b (C k) (sfD C S (S - (k + 1))) (czp I b C S k) t := fun h => by
            unfold gch
            rw [hm]
            by_cases h3 : (C k).length = 0
            · rw [if_pos h3, opc_0 _ h3]; omega
            · rw [if_neg h3, hpn (by omega), opc_1 (by omega)]; exact Int.add_comm _ _
          generalize gch I b (C k) (sfD C S (S - (k + 1))) (czp I b C S k) t = gg at hG1 hG0 hgg
          refine Wp.iload rfl dX12_put_244 ?_
          refine Wp.if_ne (tgt := 373) dX12_put_246 (by decide) (by first | omega | exact bI_R _ | exact cmp_R _ _ | assumption) (fun c246 => ?_) (fun c246 => ?_)
          · exfalso; omega
          · refine Wp.iload rfl dX12_put_249 ?_
            refine Wp.if_le (tgt := 280) dX12_put_251 (by decide) (by first | omega | exact bI_R _ | exact cmp_R _ _ | assumption) (fun c251 => ?_) (fun c251 => ?_)
            · refine Wp.iconst dX12_put_280 ?_
              refine Wp.istore (ls' := [_, _, _, _, _, _, _, _, _, _, _, _]) dX12_put_281 (by decide) rfl ?_
              refine Wp.iload rfl dX12_put_283 ?_
              refine Wp.if_eq (tgt := 324) dX12_put_285 (by decide) (by first | omega | exact bI_R _ | exact cmp_R _ _ | assumption) (fun c285 => ?_) (fun c285 => ?_)
              · refine Wp.iconst dX12_put_324 ?_
                refine Wp.istore (ls' := [_, _, _, _, _, _, _, _, _, _, _, _]) dX12_put_325 (by decide) rfl ?_
                refine Wp.aload_n rfl dX12_put_327 ?_
                refine Wp.gr (kz := 40) rfl dX12_put_328 fkX12_89 (by first | rfl | exact kd_b0 _ | exact kd_b1 _ | exact kd_b2 _ | exact kd_b3 _ | exact kd_b4 _ | exact kd_b5 _ | exact kd_b6 _) (by omega) (by first | exact hFx _ 40 _ rfl | assumption | exact hBk.1 | exact hBk.2.1 | exact hBk.2.2.1 | exact hBk.2.2.2.1 | exact hBk.2.2.2.2.1 | exact hBk.2.2.2.2.2) ?_
                refine Wp.bipush rfl dX12_put_331 ?_
                refine Wp.iload rfl dX12_put_333 ?_
                refine Wp.imul dX12_put_335 ?_
                refine Wp.iload rfl dX12_put_336 ?_
                refine Wp.iadd dX12_put_338 ?_
                refine Wp.iaload dX12_put_339 (by first | rfl | exact kd_b0 _ | exact kd_b1 _ | exact kd_b2 _ | exact kd_b3 _ | exact kd_b4 _ | exact kd_b5 _ | exact kd_b6 _) (by omega) (by omega) (by omega) ?_
                refine Wp.iload rfl dX12_put_340 ?_
                refine Wp.iadd dX12_put_342 ?_
                refine Wp.iload rfl dX12_put_343 ?_
                refine Wp.icmp_ne (tgt := 352) dX12_put_345 (by decide) (by first | omega | exact bI_R _ | exact cmp_R _ _ | assumption) (by first | omega | exact bI_R _ | exact cmp_R _ _ | assumption) (fun c345 => ?_) (fun c345 => ?_)
                · refine Wp.iconst dX12_put_352 ?_
                  refine Wp.istore (ls' := [_, _, _, _, _, _, _, _, _, _, _, _]) dX12_put_353 (by decide) rfl ?_
                  refine Wp.iload rfl dX12_put_355 ?_
                  refine Wp.iload rfl dX12_put_357 ?_
                  refine Wp.if_eq (tgt := 366) dX12_put_359 (by decide) (by first | omega | exact bI_R _ | exact cmp_R _ _ | assumption) (fun c359 => ?_) (fun c359 => ?_)
                  · refine Wp.iconst dX12_put_366 ?_
                    refine Wp.iadd dX12_put_367 ?_
                    refine Wp.istore (ls' := [_, _, _, _, _, _, _, _, _, _, _, _]) dX12_put_368 (by decide) rfl ?_
                    refine Wp.goto (tgt := 244) dX12_put_370 (by decide) ?_
                    first | exact ihd (t + 1) _ _ _ (by omega) (by omega) | (exfalso; omega)
                  · refine Wp.iconst dX12_put_362 ?_
                    refine Wp.goto (tgt := 367) dX12_put_363 (by decide) ?_
                    refine Wp.iadd dX12_put_367 ?_
                    refine Wp.istore (ls' := [_, _, _, _, _, _, _, _, _, _, _, _]) dX12_put_368 (by decide) rfl ?_
                    refine Wp.goto (tgt := 244) dX12_put_370 (by decide) ?_
                    first | exact ihd (t + 1) _ _ _ (by omega) (by omega) | (exfalso; omega)
                · refine Wp.iconst dX12_put_348 ?_
                  refine Wp.goto (tgt := 353) dX12_put_349 (by decide) ?_
                  refine Wp.istore (ls' := [_, _, _, _, _, _, _, _, _, _, _, _]) dX12_put_353 (by decide) rfl ?_
                  refine Wp.iload rfl dX12_put_355 ?_
                  refine Wp.iload rfl dX12_put_357 ?_
                  refine Wp.if_eq (tgt := 366) dX12_put_359 (by decide) (by first | omega | exact bI_R _ | exact cmp_R _ _ | assumption) (fun c359 => ?_) (fun c359 => ?_)
                  · refine Wp.iconst dX12_put_366 ?_
                    refine Wp.iadd dX12_put_367 ?_
                    refine Wp.istore (ls' := [_, _, _, _, _, _, _, _, _, _, _, _]) dX12_put_368 (by decide) rfl ?_
                    refine Wp.goto (tgt := 244) dX12_put_370 (by decide) ?_
                    first | exact ihd (t + 1) _ _ _ (by omega) (by omega) | (exfalso; omega)
                  · refine Wp.iconst dX12_put_362 ?_
                    refine Wp.goto (tgt := 367) dX12_put_363 (by decide) ?_
                    refine Wp.iadd dX12_put_367 ?_
                    refine Wp.istore (ls' := [_, _, _, _, _, _, _, _, _, _, _, _]) dX12_put_368 (by decide) rfl ?_
                    refine Wp.goto (tgt := 244) dX12_put_370 (by decide) ?_
                    first | exact ihd (t + 1) _ _ _ (by omega) (by omega) | (exfalso; omega)
              · refine Wp.aload_n rfl dX12_put_288 ?_
                refine Wp.iload_n rfl dX12_put_289 ?_
                refine Wp.aload_n rfl dX12_put_290 ?_
                refine Wp.gr (kz := 39) rfl dX12_put_291 fkX12_86 (by first | rfl | exact kd_b0 _ | exact kd_b1 _ | exact kd_b2 _ | exact kd_b3 _ | exact kd_b4 _ | exact kd_b5 _ | exact kd_b6 _) (by omega) (by first | exact hFx _ 39 _ rfl | assumption | exact hBk.1 | exact hBk.2.1 | exact hBk.2.2.1 | exact hBk.2.2.2.1 | exact hBk.2.2.2.2.1 | exact hBk.2.2.2.2.2) ?_
                refine Wp.bipush rfl dX12_put_294 ?_
                refine Wp.iload rfl dX12_put_296 ?_
                refine Wp.iconst dX12_put_298 ?_
                refine Wp.isub dX12_put_299 ?_
                refine Wp.imul dX12_put_300 ?_
                refine Wp.iload rfl dX12_put_301 ?_
                refine Wp.iadd dX12_put_303 ?_
                refine Wp.iaload dX12_put_304 (by first | rfl | exact kd_b0 _ | exact kd_b1 _ | exact kd_b2 _ | exact kd_b3 _ | exact kd_b4 _ | exact kd_b5 _ | exact kd_b6 _) (by omega) (by omega) (by omega) ?_
                refine Wp.aload_n rfl dX12_put_305 ?_
                refine Wp.gr (kz := 39) rfl dX12_put_306 fkX12_86 (by first | rfl | exact kd_b0 _ | exact kd_b1 _ | exact kd_b2 _ | exact kd_b3 _ | exact kd_b4 _ | exact kd_b5 _ | exact kd_b6 _) (by omega) (by first | exact hFx _ 39 _ rfl | assumption | exact hBk.1 | exact hBk.2.1 | exact hBk.2.2.1 | exact hBk.2.2.2.1 | exact hBk.2.2.2.2.1 | exact hBk.2.2.2.2.2) ?_
                refine Wp.bipush rfl dX12_put_309 ?_
                refine Wp.iload rfl dX12_put_311 ?_
                refine Wp.imul dX12_put_313 ?_
                refine Wp.iload rfl dX12_put_314 ?_
                refine Wp.iadd dX12_put_316 ?_
                refine Wp.iaload dX12_put_317 (by first | rfl | exact kd_b0 _ | exact kd_b1 _ | exact kd_b2 _ | exact kd_b3 _ | exact kd_b4 _ | exact kd_b5 _ | exact kd_b6 _) (by omega) (by omega) (by omega) ?_
                refine Wp.callV (As := [_, _, _]) (ls0 := [_, _, _, _, _, _]) (bd := (0, 0)) (bd' := (0, 0)) dX12_put_318 kmX12_bring lkX12_260 (by decide) (by decide) (Nat.le_of_ble_eq_true rfl) (by first | rfl | exact kd_b0 _ | exact kd_b1 _ | exact kd_b2 _ | exact kd_b3 _ | exact kd_b4 _ | exact kd_b5 _ | exact kd_b6 _) (by omega) rfl rfl (Nat.le_of_ble_eq_true rfl) rfl ?_
                have hpp := hpr (by omega) (by omega)
                have hcc := hck (by omega)
                rw [hpp.1, hcc.1]
                refine ct_X12_bring hn hFx (PrW_cg hF.1 hP) hb (PlO_cg hF.1 hpp.2.1) (PlO_cg hF.1 hcc.2) ?_
                rw [tieP_cg hF.1]
                clear hpp hcc
                show Wp _ _ _ (_ :: _) _ _ _
                refine Wp.goto (tgt := 325) dX12_put_321 (by decide) ?_
                refine Wp.istore (ls' := [_, _, _, _, _, _, _, _, _, _, _, _]) dX12_put_325 (by decide) rfl ?_
                refine Wp.aload_n rfl dX12_put_327 ?_
                refine Wp.gr (kz := 40) rfl dX12_put_328 fkX12_89 (by first | rfl | exact kd_b0 _ | exact kd_b1 _ | exact kd_b2 _ | exact kd_b3 _ | exact kd_b4 _ | exact kd_b5 _ | exact kd_b6 _) (by omega) (by first | exact hFx _ 40 _ rfl | assumption | exact hBk.1 | exact hBk.2.1 | exact hBk.2.2.1 | exact hBk.2.2.2.1 | exact hBk.2.2.2.2.1 | exact hBk.2.2.2.2.2) ?_
                refine Wp.bipush rfl dX12_put_331 ?_
                refine Wp.iload rfl dX12_put_333 ?_
                refine Wp.imul dX12_put_335 ?_
                refine Wp.iload rfl dX12_put_336 ?_
                refine Wp.iadd dX12_put_338 ?_
                refine Wp.iaload dX12_put_339 (by first | rfl | exact kd_b0 _ | exact kd_b1 _ | exact kd_b2 _ | exact kd_b3 _ | exact kd_b4 _ | exact kd_b5 _ | exact kd_b6 _) (by omega) (by omega) (by omega) ?_
                refine Wp.iload rfl dX12_put_340 ?_
                refine Wp.iadd dX12_put_342 ?_
                refine Wp.iload rfl dX12_put_343 ?_
                refine Wp.icmp_ne (tgt := 352) dX12_put_345 (by decide) (by first | omega | exact bI_R _ | exact cmp_R _ _ | assumption) (by first | omega | exact bI_R _ | exact cmp_R _ _ | assumption) (fun c345 => ?_) (fun c345 => ?_)
                · refine Wp.iconst dX12_put_352 ?_
                  refine Wp.istore (ls' := [_, _, _, _, _, _, _, _, _, _, _, _]) dX12_put_353 (by decide) rfl ?_
                  refine Wp.iload rfl dX12_put_355 ?_
                  refine Wp.iload rfl dX12_put_357 ?_
                  refine Wp.if_eq (tgt := 366) dX12_put_359 (by decide) (by first | omega | exact bI_R _ | exact cmp_R _ _ | assumption) (fun c359 => ?_) (fun c359 => ?_)
                  · refine Wp.iconst dX12_put_366 ?_
                    refine Wp.iadd dX12_put_367 ?_
                    refine Wp.istore (ls' := [_, _, _, _, _, _, _, _, _, _, _, _]) dX12_put_368 (by decide) rfl ?_
                    refine Wp.goto (tgt := 244) dX12_put_370 (by decide) ?_
                    first | exact ihd (t + 1) _ _ _ (by omega) (by omega) | (exfalso; omega)
                  · refine Wp.iconst dX12_put_362 ?_
                    refine Wp.goto (tgt := 367) dX12_put_363 (by decide) ?_
                    refine Wp.iadd dX12_put_367 ?_
                    refine Wp.istore (ls' := [_, _, _, _, _, _, _, _, _, _, _, _]) dX12_put_368 (by decide) rfl ?_
                    refine Wp.goto (tgt := 244) dX12_put_370 (by decide) ?_
                    first | exact ihd (t + 1) _ _ _ (by omega) (by omega) | (exfalso; omega)
                · refine Wp.iconst dX12_put_348 ?_
                  refine Wp.goto (tgt := 353) dX12_put_349 (by decide) ?_
                  refine Wp.istore (ls' := [_, _, _, _, _, _, _, _, _, _, _, _]) dX12_put_353 (by decide) rfl ?_
                  refine Wp.iload rfl dX12_put_355 ?_
                  refine Wp.iload rfl dX12_put_357 ?_
                  refine Wp.if_eq (tgt := 366) dX12_put_359 (by decide) (by first | omega | exact bI_R _ | exact cmp_R _ _ | assumption) (fun c359 => ?_) (fun c359 => ?_)
                  · refine Wp.iconst dX12_put_366 ?_
                    refine Wp.iadd dX12_put_367 ?_
                    refine Wp.istore (ls' := [_, _, _, _, _, _, _, _, _, _, _, _]) dX12_put_368 (by decide) rfl ?_
                    refine Wp.goto (tgt := 244) dX12_put_370 (by decide) ?_
                    first | exact ihd (t + 1) _ _ _ (by omega) (by omega) | (exfalso; omega)
                  · refine Wp.iconst dX12_put_362 ?_
                    refine Wp.goto (tgt := 367) dX12_put_363 (by decide) ?_
                    refine Wp.iadd dX12_put_367 ?_
                    refine Wp.istore (ls' := [_, _, _, _, _, _, _, _, _, _, _, _]) dX12_put_368 (by decide) rfl ?_
                    refine Wp.goto (tgt := 244) dX12_put_370 (by decide) ?_
                    first | exact ihd (t + 1) _ _ _ (by omega) (by omega) | (exfalso; omega)
            · have hpk := hpl (by omega)
              refine Wp.aload_n rfl dX12_put_254 ?_
              refine Wp.gr (kz := 38) rfl dX12_put_255 fkX12_83 (by first | rfl | exact kd_b0 _ | exact kd_b1 _ | exact kd_b2 _ | exact kd_b3 _ | exact kd_b4 _ | exact kd_b5 _ | exact kd_b6 _) (by omega) (by first | exact hFx _ 38 _ rfl | assumption | exact hBk.1 | exact hBk.2.1 | exact hBk.2.2.1 | exact hBk.2.2.2.1 | exact hBk.2.2.2.2.1 | exact hBk.2.2.2.2.2) ?_
              refine Wp.iload rfl dX12_put_258 ?_
              refine Wp.iconst dX12_put_260 ?_
              refine Wp.isub dX12_put_261 ?_
              refine Wp.iaload dX12_put_262 (by first | rfl | exact kd_b0 _ | exact kd_b1 _ | exact kd_b2 _ | exact kd_b3 _ | exact kd_b4 _ | exact kd_b5 _ | exact kd_b6 _) (by omega) (by omega) (by omega) ?_
              refine Wp.if_le (tgt := 280) dX12_put_263 (by decide) (by first | omega | exact bI_R _ | exact cmp_R _ _ | assumption) (fun c263 => ?_) (fun c263 => ?_)
              · refine Wp.iconst dX12_put_280 ?_
                refine Wp.istore (ls' := [_, _, _, _, _, _, _, _, _, _, _, _]) dX12_put_281 (by decide) rfl ?_
                refine Wp.iload rfl dX12_put_283 ?_
                refine Wp.if_eq (tgt := 324) dX12_put_285 (by decide) (by first | omega | exact bI_R _ | exact cmp_R _ _ | assumption) (fun c285 => ?_) (fun c285 => ?_)
                · refine Wp.iconst dX12_put_324 ?_
                  refine Wp.istore (ls' := [_, _, _, _, _, _, _, _, _, _, _, _]) dX12_put_325 (by decide) rfl ?_
                  refine Wp.aload_n rfl dX12_put_327 ?_
                  refine Wp.gr (kz := 40) rfl dX12_put_328 fkX12_89 (by first | rfl | exact kd_b0 _ | exact kd_b1 _ | exact kd_b2 _ | exact kd_b3 _ | exact kd_b4 _ | exact kd_b5 _ | exact kd_b6 _) (by omega) (by first | exact hFx _ 40 _ rfl | assumption | exact hBk.1 | exact hBk.2.1 | exact hBk.2.2.1 | exact hBk.2.2.2.1 | exact hBk.2.2.2.2.1 | exact hBk.2.2.2.2.2) ?_
                  refine Wp.bipush rfl dX12_put_331 ?_
                  refine Wp.iload rfl dX12_put_333 ?_
                  refine Wp.imul dX12_put_335 ?_
                  refine Wp.iload rfl dX12_put_336 ?_
                  refine Wp.iadd dX12_put_338 ?_
                  refine Wp.iaload dX12_put_339 (by first | rfl | exact kd_b0 _ | exact kd_b1 _ | exact kd_b2 _ | exact kd_b3 _ | exact kd_b4 _ | exact kd_b5 _ | exact kd_b6 _) (by omega) (by omega) (by omega) ?_
                  refine Wp.iload rfl dX12_put_340 ?_
                  refine Wp.iadd dX12_put_342 ?_
                  refine Wp.iload rfl dX12_put_343 ?_
                  refine Wp.icmp_ne (tgt := 352) dX12_put_345 (by decide) (by first | omega | exact bI_R _ | exact cmp_R _ _ | assumption) (by first | omega | exact bI_R _ | exact cmp_R _ _ | assumption) (fun c345 => ?_) (fun c345 => ?_)
                  · refine Wp.iconst dX12_put_352 ?_
                    refine Wp.istore (ls' := [_, _, _, _, _, _, _, _, _, _, _, _]) dX12_put_353 (by decide) rfl ?_
                    refine Wp.iload rfl dX12_put_355 ?_
                    refine Wp.iload rfl dX12_put_357 ?_
                    refine Wp.if_eq (tgt := 366) dX12_put_359 (by decide) (by first | omega | exact bI_R _ | exact cmp_R _ _ | assumption) (fun c359 => ?_) (fun c359 => ?_)
                    · refine Wp.iconst dX12_put_366 ?_
                      refine Wp.iadd dX12_put_367 ?_
                      refine Wp.istore (ls' := [_, _, _, _, _, _, _, _, _, _, _, _]) dX12_put_368 (by decide) rfl ?_
                      refine Wp.goto (tgt := 244) dX12_put_370 (by decide) ?_
                      first | exact ihd (t + 1) _ _ _ (by omega) (by omega) | (exfalso; omega)
                    · refine Wp.iconst dX12_put_362 ?_
                      refine Wp.goto (tgt := 367) dX12_put_363 (by decide) ?_
                      refine Wp.iadd dX12_put_367 ?_
                      refine Wp.istore (ls' := [_, _, _, _, _, _, _, _, _, _, _, _]) dX12_put_368 (by decide) rfl ?_
                      refine Wp.goto (tgt := 244) dX12_put_370 (by decide) ?_
                      first | exact ihd (t + 1) _ _ _ (by omega) (by omega) | (exfalso; omega)
                  · refine Wp.iconst dX12_put_348 ?_
                    refine Wp.goto (tgt := 353) dX12_put_349 (by decide) ?_
                    refine Wp.istore (ls' := [_, _, _, _, _, _, _, _, _, _, _, _]) dX12_put_353 (by decide) rfl ?_
                    refine Wp.iload rfl dX12_put_355 ?_
                    refine Wp.iload rfl dX12_put_357 ?_
                    refine Wp.if_eq (tgt := 366) dX12_put_359 (by decide) (by first | omega | exact bI_R _ | exact cmp_R _ _ | assumption) (fun c359 => ?_) (fun c359 => ?_)
                    · refine Wp.iconst dX12_put_366 ?_
                      refine Wp.iadd dX12_put_367 ?_
                      refine Wp.istore (ls' := [_, _, _, _, _, _, _, _, _, _, _, _]) dX12_put_368 (by decide) rfl ?_
                      refine Wp.goto (tgt := 244) dX12_put_370 (by decide) ?_
                      first | exact ihd (t + 1) _ _ _ (by omega) (by omega) | (exfalso; omega)
                    · refine Wp.iconst dX12_put_362 ?_
                      refine Wp.goto (tgt := 367) dX12_put_363 (by decide) ?_
                      refine Wp.iadd dX12_put_367 ?_
                      refine Wp.istore (ls' := [_, _, _, _, _, _, _, _, _, _, _, _]) dX12_put_368 (by decide) rfl ?_
                      refine Wp.goto (tgt := 244) dX12_put_370 (by decide) ?_
                      first | exact ihd (t + 1) _ _ _ (by omega) (by omega) | (exfalso; omega)
                · refine Wp.aload_n rfl dX12_put_288 ?_
                  refine Wp.iload_n rfl dX12_put_289 ?_
                  refine Wp.aload_n rfl dX12_put_290 ?_
                  refine Wp.gr (kz := 39) rfl dX12_put_291 fkX12_86 (by first | rfl | exact kd_b0 _ | exact kd_b1 _ | exact kd_b2 _ | exact kd_b3 _ | exact kd_b4 _ | exact kd_b5 _ | exact kd_b6 _) (by omega) (by first | exact hFx _ 39 _ rfl | assumption | exact hBk.1 | exact hBk.2.1 | exact hBk.2.2.1 | exact hBk.2.2.2.1 | exact hBk.2.2.2.2.1 | exact hBk.2.2.2.2.2) ?_
                  refine Wp.bipush rfl dX12_put_294 ?_
                  refine Wp.iload rfl dX12_put_296 ?_
                  refine Wp.iconst dX12_put_298 ?_
                  refine Wp.isub dX12_put_299 ?_
                  refine Wp.imul dX12_put_300 ?_
                  refine Wp.iload rfl dX12_put_301 ?_
                  refine Wp.iadd dX12_put_303 ?_
                  refine Wp.iaload dX12_put_304 (by first | rfl | exact kd_b0 _ | exact kd_b1 _ | exact kd_b2 _ | exact kd_b3 _ | exact kd_b4 _ | exact kd_b5 _ | exact kd_b6 _) (by omega) (by omega) (by omega) ?_
                  refine Wp.aload_n rfl dX12_put_305 ?_
                  refine Wp.gr (kz := 39) rfl dX12_put_306 fkX12_86 (by first | rfl | exact kd_b0 _ | exact kd_b1 _ | exact kd_b2 _ | exact kd_b3 _ | exact kd_b4 _ | exact kd_b5 _ | exact kd_b6 _) (by omega) (by first | exact hFx _ 39 _ rfl | assumption | exact hBk.1 | exact hBk.2.1 | exact hBk.2.2.1 | exact hBk.2.2.2.1 | exact hBk.2.2.2.2.1 | exact hBk.2.2.2.2.2) ?_
                  refine Wp.bipush rfl dX12_put_309 ?_
                  refine Wp.iload rfl dX12_put_311 ?_
                  refine Wp.imul dX12_put_313 ?_
                  refine Wp.iload rfl dX12_put_314 ?_
                  refine Wp.iadd dX12_put_316 ?_
                  refine Wp.iaload dX12_put_317 (by first | rfl | exact kd_b0 _ | exact kd_b1 _ | exact kd_b2 _ | exact kd_b3 _ | exact kd_b4 _ | exact kd_b5 _ | exact kd_b6 _) (by omega) (by omega) (by omega) ?_
                  refine Wp.callV (As := [_, _, _]) (ls0 := [_, _, _, _, _, _]) (bd := (0, 0)) (bd' := (0, 0)) dX12_put_318 kmX12_bring lkX12_260 (by decide) (by decide) (Nat.le_of_ble_eq_true rfl) (by first | rfl | exact kd_b0 _ | exact kd_b1 _ | exact kd_b2 _ | exact kd_b3 _ | exact kd_b4 _ | exact kd_b5 _ | exact kd_b6 _) (by omega) rfl rfl (Nat.le_of_ble_eq_true rfl) rfl ?_
                  have hpp := hpr (by omega) (by omega)
                  have hcc := hck (by omega)
                  rw [hpp.1, hcc.1]
                  refine ct_X12_bring hn hFx (PrW_cg hF.1 hP) hb (PlO_cg hF.1 hpp.2.1) (PlO_cg hF.1 hcc.2) ?_
                  rw [tieP_cg hF.1]
                  clear hpp hcc
                  show Wp _ _ _ (_ :: _) _ _ _
                  refine Wp.goto (tgt := 325) dX12_put_321 (by decide) ?_
                  refine Wp.istore (ls' := [_, _, _, _, _, _, _, _, _, _, _, _]) dX12_put_325 (by decide) rfl ?_
                  refine Wp.aload_n rfl dX12_put_327 ?_
                  refine Wp.gr (kz := 40) rfl dX12_put_328 fkX12_89 (by first | rfl | exact kd_b0 _ | exact kd_b1 _ | exact kd_b2 _ | exact kd_b3 _ | exact kd_b4 _ | exact kd_b5 _ | exact kd_b6 _) (by omega) (by first | exact hFx _ 40 _ rfl | assumption | exact hBk.1 | exact hBk.2.1 | exact hBk.2.2.1 | exact hBk.2.2.2.1 | exact hBk.2.2.2.2.1 | exact hBk.2.2.2.2.2) ?_
                  refine Wp.bipush rfl dX12_put_331 ?_
                  refine Wp.iload rfl dX12_put_333 ?_
                  refine Wp.imul dX12_put_335 ?_
                  refine Wp.iload rfl dX12_put_336 ?_
                  refine Wp.iadd dX12_put_338 ?_
                  refine Wp.iaload dX12_put_339 (by first | rfl | exact kd_b0 _ | exact kd_b1 _ | exact kd_b2 _ | exact kd_b3 _ | exact kd_b4 _ | exact kd_b5 _ | exact kd_b6 _) (by omega) (by omega) (by omega) ?_
                  refine Wp.iload rfl dX12_put_340 ?_
                  refine Wp.iadd dX12_put_342 ?_
                  refine Wp.iload rfl dX12_put_343 ?_
                  refine Wp.icmp_ne (tgt := 352) dX12_put_345 (by decide) (by first | omega | exact bI_R _ | exact cmp_R _ _ | assumption) (by first | omega | exact bI_R _ | exact cmp_R _ _ | assumption) (fun c345 => ?_) (fun c345 => ?_)
                  · refine Wp.iconst dX12_put_352 ?_
                    refine Wp.istore (ls' := [_, _, _, _, _, _, _, _, _, _, _, _]) dX12_put_353 (by decide) rfl ?_
                    refine Wp.iload rfl dX12_put_355 ?_
                    refine Wp.iload rfl dX12_put_357 ?_
                    refine Wp.if_eq (tgt := 366) dX12_put_359 (by decide) (by first | omega | exact bI_R _ | exact cmp_R _ _ | assumption) (fun c359 => ?_) (fun c359 => ?_)
                    · refine Wp.iconst dX12_put_366 ?_
                      refine Wp.iadd dX12_put_367 ?_
                      refine Wp.istore (ls' := [_, _, _, _, _, _, _, _, _, _, _, _]) dX12_put_368 (by decide) rfl ?_
                      refine Wp.goto (tgt := 244) dX12_put_370 (by decide) ?_
                      first | exact ihd (t + 1) _ _ _ (by omega) (by omega) | (exfalso; omega)
                    · refine Wp.iconst dX12_put_362 ?_
                      refine Wp.goto (tgt := 367) dX12_put_363 (by decide) ?_
                      refine Wp.iadd dX12_put_367 ?_
                      refine Wp.istore (ls' := [_, _, _, _, _, _, _, _, _, _, _, _]) dX12_put_368 (by decide) rfl ?_
                      refine Wp.goto (tgt := 244) dX12_put_370 (by decide) ?_
                      first | exact ihd (t + 1) _ _ _ (by omega) (by omega) | (exfalso; omega)
                  · refine Wp.iconst dX12_put_348 ?_
                    refine Wp.goto (tgt := 353) dX12_put_349 (by decide) ?_
                    refine Wp.istore (ls' := [_, _, _, _, _, _, _, _, _, _, _, _]) dX12_put_353 (by decide) rfl ?_
                    refine Wp.iload rfl dX12_put_355 ?_
                    refine Wp.iload rfl dX12_put_357 ?_
                    refine Wp.if_eq (tgt := 366) dX12_put_359 (by decide) (by first | omega | exact bI_R _ | exact cmp_R _ _ | assumption) (fun c359 => ?_) (fun c359 => ?_)
                    · refine Wp.iconst dX12_put_366 ?_
                      refine Wp.iadd dX12_put_367 ?_
                      refine Wp.istore (ls' := [_, _, _, _, _, _, _, _, _, _, _, _]) dX12_put_368 (by decide) rfl ?_
                      refine Wp.goto (tgt := 244) dX12_put_370 (by decide) ?_
                      first | exact ihd (t + 1) _ _ _ (by omega) (by omega) | (exfalso; omega)
                    · refine Wp.iconst dX12_put_362 ?_
                      refine Wp.goto (tgt := 367) dX12_put_363 (by decide) ?_
                      refine Wp.iadd dX12_put_367 ?_
                      refine Wp.istore (ls' := [_, _, _, _, _, _, _, _, _, _, _, _]) dX12_put_368 (by decide) rfl ?_
                      refine Wp.goto (tgt := 244) dX12_put_370 (by decide) ?_
                      first | exact ihd (t + 1) _ _ _ (by omega) (by omega) | (exfalso; omega)
              · refine Wp.aload_n rfl dX12_put_266 ?_
                refine Wp.gr (kz := 38) rfl dX12_put_267 fkX12_83 (by first | rfl | exact kd_b0 _ | exact kd_b1 _ | exact kd_b2 _ | exact kd_b3 _ | exact kd_b4 _ | exact kd_b5 _ | exact kd_b6 _) (by omega) (by first | exact hFx _ 38 _ rfl | assumption | exact hBk.1 | exact hBk.2.1 | exact hBk.2.2.1 | exact hBk.2.2.2.1 | exact hBk.2.2.2.2.1 | exact hBk.2.2.2.2.2) ?_
                refine Wp.iload rfl dX12_put_270 ?_
                refine Wp.iaload dX12_put_272 (by first | rfl | exact kd_b0 _ | exact kd_b1 _ | exact kd_b2 _ | exact kd_b3 _ | exact kd_b4 _ | exact kd_b5 _ | exact kd_b6 _) (by omega) (by omega) (by omega) ?_
                refine Wp.if_le (tgt := 280) dX12_put_273 (by decide) (by first | omega | exact bI_R _ | exact cmp_R _ _ | assumption) (fun c273 => ?_) (fun c273 => ?_)
                · refine Wp.iconst dX12_put_280 ?_
                  refine Wp.istore (ls' := [_, _, _, _, _, _, _, _, _, _, _, _]) dX12_put_281 (by decide) rfl ?_
                  refine Wp.iload rfl dX12_put_283 ?_
                  refine Wp.if_eq (tgt := 324) dX12_put_285 (by decide) (by first | omega | exact bI_R _ | exact cmp_R _ _ | assumption) (fun c285 => ?_) (fun c285 => ?_)
                  · refine Wp.iconst dX12_put_324 ?_
                    refine Wp.istore (ls' := [_, _, _, _, _, _, _, _, _, _, _, _]) dX12_put_325 (by decide) rfl ?_
                    refine Wp.aload_n rfl dX12_put_327 ?_
                    refine Wp.gr (kz := 40) rfl dX12_put_328 fkX12_89 (by first | rfl | exact kd_b0 _ | exact kd_b1 _ | exact kd_b2 _ | exact kd_b3 _ | exact kd_b4 _ | exact kd_b5 _ | exact kd_b6 _) (by omega) (by first | exact hFx _ 40 _ rfl | assumption | exact hBk.1 | exact hBk.2.1 | exact hBk.2.2.1 | exact hBk.2.2.2.1 | exact hBk.2.2.2.2.1 | exact hBk.2.2.2.2.2) ?_
                    refine Wp.bipush rfl dX12_put_331 ?_
                    refine Wp.iload rfl dX12_put_333 ?_
                    refine Wp.imul dX12_put_335 ?_
                    refine Wp.iload rfl dX12_put_336 ?_
                    refine Wp.iadd dX12_put_338 ?_
                    refine Wp.iaload dX12_put_339 (by first | rfl | exact kd_b0 _ | exact kd_b1 _ | exact kd_b2 _ | exact kd_b3 _ | exact kd_b4 _ | exact kd_b5 _ | exact kd_b6 _) (by omega) (by omega) (by omega) ?_
                    refine Wp.iload rfl dX12_put_340 ?_
                    refine Wp.iadd dX12_put_342 ?_
                    refine Wp.iload rfl dX12_put_343 ?_
                    refine Wp.icmp_ne (tgt := 352) dX12_put_345 (by decide) (by first | omega | exact bI_R _ | exact cmp_R _ _ | assumption) (by first | omega | exact bI_R _ | exact cmp_R _ _ | assumption) (fun c345 => ?_) (fun c345 => ?_)
                    · refine Wp.iconst dX12_put_352 ?_
                      refine Wp.istore (ls' := [_, _, _, _, _, _, _, _, _, _, _, _]) dX12_put_353 (by decide) rfl ?_
                      refine Wp.iload rfl dX12_put_355 ?_
                      refine Wp.iload rfl dX12_put_357 ?_
                      refine Wp.if_eq (tgt := 366) dX12_put_359 (by decide) (by first | omega | exact bI_R _ | exact cmp_R _ _ | assumption) (fun c359 => ?_) (fun c359 => ?_)
                      · refine Wp.iconst dX12_put_366 ?_
                        refine Wp.iadd dX12_put_367 ?_
                        refine Wp.istore (ls' := [_, _, _, _, _, _, _, _, _, _, _, _]) dX12_put_368 (by decide) rfl ?_
                        refine Wp.goto (tgt := 244) dX12_put_370 (by decide) ?_
                        first | exact ihd (t + 1) _ _ _ (by omega) (by omega) | (exfalso; omega)
                      · refine Wp.iconst dX12_put_362 ?_
                        refine Wp.goto (tgt := 367) dX12_put_363 (by decide) ?_
                        refine Wp.iadd dX12_put_367 ?_
                        refine Wp.istore (ls' := [_, _, _, _, _, _, _, _, _, _, _, _]) dX12_put_368 (by decide) rfl ?_
                        refine Wp.goto (tgt := 244) dX12_put_370 (by decide) ?_
                        first | exact ihd (t + 1) _ _ _ (by omega) (by omega) | (exfalso; omega)
                    · refine Wp.iconst dX12_put_348 ?_
                      refine Wp.goto (tgt := 353) dX12_put_349 (by decide) ?_
                      refine Wp.istore (ls' := [_, _, _, _, _, _, _, _, _, _, _, _]) dX12_put_353 (by decide) rfl ?_
                      refine Wp.iload rfl dX12_put_355 ?_
                      refine Wp.iload rfl dX12_put_357 ?_
                      refine Wp.if_eq (tgt := 366) dX12_put_359 (by decide) (by first | omega | exact bI_R _ | exact cmp_R _ _ | assumption) (fun c359 => ?_) (fun c359 => ?_)
                      · refine Wp.iconst dX12_put_366 ?_
                        refine Wp.iadd dX12_put_367 ?_
                        refine Wp.istore (ls' := [_, _, _, _, _, _, _, _, _, _, _, _]) dX12_put_368 (by decide) rfl ?_
                        refine Wp.goto (tgt := 244) dX12_put_370 (by decide) ?_
                        first | exact ihd (t + 1) _ _ _ (by omega) (by omega) | (exfalso; omega)
                      · refine Wp.iconst dX12_put_362 ?_
                        refine Wp.goto (tgt := 367) dX12_put_363 (by decide) ?_
                        refine Wp.iadd dX12_put_367 ?_
                        refine Wp.istore (ls' := [_, _, _, _, _, _, _, _, _, _, _, _]) dX12_put_368 (by decide) rfl ?_
                        refine Wp.goto (tgt := 244) dX12_put_370 (by decide) ?_
                        first | exact ihd (t + 1) _ _ _ (by omega) (by omega) | (exfalso; omega)
                  · refine Wp.aload_n rfl dX12_put_288 ?_
                    refine Wp.iload_n rfl dX12_put_289 ?_
                    refine Wp.aload_n rfl dX12_put_290 ?_
                    refine Wp.gr (kz := 39) rfl dX12_put_291 fkX12_86 (by first | rfl | exact kd_b0 _ | exact kd_b1 _ | exact kd_b2 _ | exact kd_b3 _ | exact kd_b4 _ | exact kd_b5 _ | exact kd_b6 _) (by omega) (by first | exact hFx _ 39 _ rfl | assumption | exact hBk.1 | exact hBk.2.1 | exact hBk.2.2.1 | exact hBk.2.2.2.1 | exact hBk.2.2.2.2.1 | exact hBk.2.2.2.2.2) ?_
                    refine Wp.bipush rfl dX12_put_294 ?_
                    refine Wp.iload rfl dX12_put_296 ?_
                    refine Wp.iconst dX12_put_298 ?_
                    refine Wp.isub dX12_put_299 ?_
                    refine Wp.imul dX12_put_300 ?_
                    refine Wp.iload rfl dX12_put_301 ?_
                    refine Wp.iadd dX12_put_303 ?_
                    refine Wp.iaload dX12_put_304 (by first | rfl | exact kd_b0 _ | exact kd_b1 _ | exact kd_b2 _ | exact kd_b3 _ | exact kd_b4 _ | exact kd_b5 _ | exact kd_b6 _) (by omega) (by omega) (by omega) ?_
                    refine Wp.aload_n rfl dX12_put_305 ?_
                    refine Wp.gr (kz := 39) rfl dX12_put_306 fkX12_86 (by first | rfl | exact kd_b0 _ | exact kd_b1 _ | exact kd_b2 _ | exact kd_b3 _ | exact kd_b4 _ | exact kd_b5 _ | exact kd_b6 _) (by omega) (by first | exact hFx _ 39 _ rfl | assumption | exact hBk.1 | exact hBk.2.1 | exact hBk.2.2.1 | exact hBk.2.2.2.1 | exact hBk.2.2.2.2.1 | exact hBk.2.2.2.2.2) ?_
                    refine Wp.bipush rfl dX12_put_309 ?_
                    refine Wp.iload rfl dX12_put_311 ?_
                    refine Wp.imul dX12_put_313 ?_
                    refine Wp.iload rfl dX12_put_314 ?_
                    refine Wp.iadd dX12_put_316 ?_
                    refine Wp.iaload dX12_put_317 (by first | rfl | exact kd_b0 _ | exact kd_b1 _ | exact kd_b2 _ | exact kd_b3 _ | exact kd_b4 _ | exact kd_b5 _ | exact kd_b6 _) (by omega) (by omega) (by omega) ?_
                    refine Wp.callV (As := [_, _, _]) (ls0 := [_, _, _, _, _, _]) (bd := (0, 0)) (bd' := (0, 0)) dX12_put_318 kmX12_bring lkX12_260 (by decide) (by decide) (Nat.le_of_ble_eq_true rfl) (by first | rfl | exact kd_b0 _ | exact kd_b1 _ | exact kd_b2 _ | exact kd_b3 _ | exact kd_b4 _ | exact kd_b5 _ | exact kd_b6 _) (by omega) rfl rfl (Nat.le_of_ble_eq_true rfl) rfl ?_
                    have hpp := hpr (by omega) (by omega)
                    have hcc := hck (by omega)
                    rw [hpp.1, hcc.1]
                    refine ct_X12_bring hn hFx (PrW_cg hF.1 hP) hb (PlO_cg hF.1 hpp.2.1) (PlO_cg hF.1 hcc.2) ?_
                    rw [tieP_cg hF.1]
                    clear hpp hcc
                    show Wp _ _ _ (_ :: _) _ _ _
                    refine Wp.goto (tgt := 325) dX12_put_321 (by decide) ?_
                    refine Wp.istore (ls' := [_, _, _, _, _, _, _, _, _, _, _, _]) dX12_put_325 (by decide) rfl ?_
                    refine Wp.aload_n rfl dX12_put_327 ?_
                    refine Wp.gr (kz := 40) rfl dX12_put_328 fkX12_89 (by first | rfl | exact kd_b0 _ | exact kd_b1 _ | exact kd_b2 _ | exact kd_b3 _ | exact kd_b4 _ | exact kd_b5 _ | exact kd_b6 _) (by omega) (by first | exact hFx _ 40 _ rfl | assumption | exact hBk.1 | exact hBk.2.1 | exact hBk.2.2.1 | exact hBk.2.2.2.1 | exact hBk.2.2.2.2.1 | exact hBk.2.2.2.2.2) ?_
                    refine Wp.bipush rfl dX12_put_331 ?_
                    refine Wp.iload rfl dX12_put_333 ?_
                    refine Wp.imul dX12_put_335 ?_
                    refine Wp.iload rfl dX12_put_336 ?_
                    refine Wp.iadd dX12_put_338 ?_
                    refine Wp.iaload dX12_put_339 (by first | rfl | exact kd_b0 _ | exact kd_b1 _ | exact kd_b2 _ | exact kd_b3 _ | exact kd_b4 _ | exact kd_b5 _ | exact kd_b6 _) (by omega) (by omega) (by omega) ?_
                    refine Wp.iload rfl dX12_put_340 ?_
                    refine Wp.iadd dX12_put_342 ?_
                    refine Wp.iload rfl dX12_put_343 ?_
                    refine Wp.icmp_ne (tgt := 352) dX12_put_345 (by decide) (by first | omega | exact bI_R _ | exact cmp_R _ _ | assumption) (by first | omega | exact bI_R _ | exact cmp_R _ _ | assumption) (fun c345 => ?_) (fun c345 => ?_)
                    · refine Wp.iconst dX12_put_352 ?_
                      refine Wp.istore (ls' := [_, _, _, _, _, _, _, _, _, _, _, _]) dX12_put_353 (by decide) rfl ?_
                      refine Wp.iload rfl dX12_put_355 ?_
                      refine Wp.iload rfl dX12_put_357 ?_
                      refine Wp.if_eq (tgt := 366) dX12_put_359 (by decide) (by first | omega | exact bI_R _ | exact cmp_R _ _ | assumption) (fun c359 => ?_) (fun c359 => ?_)
                      · refine Wp.iconst dX12_put_366 ?_
                        refine Wp.iadd dX12_put_367 ?_
                        refine Wp.istore (ls' := [_, _, _, _, _, _, _, _, _, _, _, _]) dX12_put_368 (by decide) rfl ?_
                        refine Wp.goto (tgt := 244) dX12_put_370 (by decide) ?_
                        first | exact ihd (t + 1) _ _ _ (by omega) (by omega) | (exfalso; omega)
                      · refine Wp.iconst dX12_put_362 ?_
                        refine Wp.goto (tgt := 367) dX12_put_363 (by decide) ?_
                        refine Wp.iadd dX12_put_367 ?_
                        refine Wp.istore (ls' := [_, _, _, _, _, _, _, _, _, _, _, _]) dX12_put_368 (by decide) rfl ?_
                        refine Wp.goto (tgt := 244) dX12_put_370 (by decide) ?_
                        first | exact ihd (t + 1) _ _ _ (by omega) (by omega) | (exfalso; omega)
                    · refine Wp.iconst dX12_put_348 ?_
                      refine Wp.goto (tgt := 353) dX12_put_349 (by decide) ?_
                      refine Wp.istore (ls' := [_, _, _, _, _, _, _, _, _, _, _, _]) dX12_put_353 (by decide) rfl ?_
                      refine Wp.iload rfl dX12_put_355 ?_
                      refine Wp.iload rfl dX12_put_357 ?_
                      refine Wp.if_eq (tgt := 366) dX12_put_359 (by decide) (by first | omega | exact bI_R _ | exact cmp_R _ _ | assumption) (fun c359 => ?_) (fun c359 => ?_)
                      · refine Wp.iconst dX12_put_366 ?_
                        refine Wp.iadd dX12_put_367 ?_
                        refine Wp.istore (ls' := [_, _, _, _, _, _, _, _, _, _, _, _]) dX12_put_368 (by decide) rfl ?_
                        refine Wp.goto (tgt := 244) dX12_put_370 (by decide) ?_
                        first | exact ihd (t + 1) _ _ _ (by omega) (by omega) | (exfalso; omega)
                      · refine Wp.iconst dX12_put_362 ?_
                        refine Wp.goto (tgt := 367) dX12_put_363 (by decide) ?_
                        refine Wp.iadd dX12_put_367 ?_
                        refine Wp.istore (ls' := [_, _, _, _, _, _, _, _, _, _, _, _]) dX12_put_368 (by decide) rfl ?_
                        refine Wp.goto (tgt := 244) dX12_put_370 (by decide) ?_
                        first | exact ihd (t + 1) _ _ _ (by omega) (by omega) | (exfalso; omega)
                · refine Wp.iconst dX12_put_276 ?_
                  refine Wp.goto (tgt := 281) dX12_put_277 (by decide) ?_
                  refine Wp.istore (ls' := [_, _, _, _, _, _, _, _, _, _, _, _]) dX12_put_281 (by decide) rfl ?_
                  refine Wp.iload rfl dX12_put_283 ?_
                  refine Wp.if_eq (tgt := 324) dX12_put_285 (by decide) (by first | omega | exact bI_R _ | exact cmp_R _ _ | assumption) (fun c285 => ?_) (fun c285 => ?_)
                  · refine Wp.iconst dX12_put_324 ?_
                    refine Wp.istore (ls' := [_, _, _, _, _, _, _, _, _, _, _, _]) dX12_put_325 (by decide) rfl ?_
                    refine Wp.aload_n rfl dX12_put_327 ?_
                    refine Wp.gr (kz := 40) rfl dX12_put_328 fkX12_89 (by first | rfl | exact kd_b0 _ | exact kd_b1 _ | exact kd_b2 _ | exact kd_b3 _ | exact kd_b4 _ | exact kd_b5 _ | exact kd_b6 _) (by omega) (by first | exact hFx _ 40 _ rfl | assumption | exact hBk.1 | exact hBk.2.1 | exact hBk.2.2.1 | exact hBk.2.2.2.1 | exact hBk.2.2.2.2.1 | exact hBk.2.2.2.2.2) ?_
                    refine Wp.bipush rfl dX12_put_331 ?_
                    refine Wp.iload rfl dX12_put_333 ?_
                    refine Wp.imul dX12_put_335 ?_
                    refine Wp.iload rfl dX12_put_336 ?_
                    refine Wp.iadd dX12_put_338 ?_
                    refine Wp.iaload dX12_put_339 (by first | rfl | exact kd_b0 _ | exact kd_b1 _ | exact kd_b2 _ | exact kd_b3 _ | exact kd_b4 _ | exact kd_b5 _ | exact kd_b6 _) (by omega) (by omega) (by omega) ?_
                    refine Wp.iload rfl dX12_put_340 ?_
                    refine Wp.iadd dX12_put_342 ?_
                    refine Wp.iload rfl dX12_put_343 ?_
                    refine Wp.icmp_ne (tgt := 352) dX12_put_345 (by decide) (by first | omega | exact bI_R _ | exact cmp_R _ _ | assumption) (by first | omega | exact bI_R _ | exact cmp_R _ _ | assumption) (fun c345 => ?_) (fun c345 => ?_)
                    · refine Wp.iconst dX12_put_352 ?_
                      refine Wp.istore (ls' := [_, _, _, _, _, _, _, _, _, _, _, _]) dX12_put_353 (by decide) rfl ?_
                      refine Wp.iload rfl dX12_put_355 ?_
                      refine Wp.iload rfl dX12_put_357 ?_
                      refine Wp.if_eq (tgt := 366) dX12_put_359 (by decide) (by first | omega | exact bI_R _ | exact cmp_R _ _ | assumption) (fun c359 => ?_) (fun c359 => ?_)
                      · refine Wp.iconst dX12_put_366 ?_
                        refine Wp.iadd dX12_put_367 ?_
                        refine Wp.istore (ls' := [_, _, _, _, _, _, _, _, _, _, _, _]) dX12_put_368 (by decide) rfl ?_
                        refine Wp.goto (tgt := 244) dX12_put_370 (by decide) ?_
                        first | exact ihd (t + 1) _ _ _ (by omega) (by omega) | (exfalso; omega)
                      · refine Wp.iconst dX12_put_362 ?_
                        refine Wp.goto (tgt := 367) dX12_put_363 (by decide) ?_
                        refine Wp.iadd dX12_put_367 ?_
                        refine Wp.istore (ls' := [_, _, _, _, _, _, _, _, _, _, _, _]) dX12_put_368 (by decide) rfl ?_
                        refine Wp.goto (tgt := 244) dX12_put_370 (by decide) ?_
                        first | exact ihd (t + 1) _ _ _ (by omega) (by omega) | (exfalso; omega)
                    · refine Wp.iconst dX12_put_348 ?_
                      refine Wp.goto (tgt := 353) dX12_put_349 (by decide) ?_
                      refine Wp.istore (ls' := [_, _, _, _, _, _, _, _, _, _, _, _]) dX12_put_353 (by decide) rfl ?_
                      refine Wp.iload rfl dX12_put_355 ?_
                      refine Wp.iload rfl dX12_put_357 ?_
                      refine Wp.if_eq (tgt := 366) dX12_put_359 (by decide) (by first | omega | exact bI_R _ | exact cmp_R _ _ | assumption) (fun c359 => ?_) (fun c359 => ?_)
                      · refine Wp.iconst dX12_put_366 ?_
                        refine Wp.iadd dX12_put_367 ?_
                        refine Wp.istore (ls' := [_, _, _, _, _, _, _, _, _, _, _, _]) dX12_put_368 (by decide) rfl ?_
                        refine Wp.goto (tgt := 244) dX12_put_370 (by decide) ?_
                        first | exact ihd (t + 1) _ _ _ (by omega) (by omega) | (exfalso; omega)
                      · refine Wp.iconst dX12_put_362 ?_
                        refine Wp.goto (tgt := 367) dX12_put_363 (by decide) ?_
                        refine Wp.iadd dX12_put_367 ?_
                        refine Wp.istore (ls' := [_, _, _, _, _, _, _, _, _, _, _, _]) dX12_put_368 (by decide) rfl ?_
                        refine Wp.goto (tgt := 244) dX12_put_370 (by decide) ?_
                        first | exact ihd (t + 1) _ _ _ (by omega) (by omega) | (exfalso; omega)
                  · refine Wp.aload_n rfl dX12_put_288 ?_
                    refine Wp.iload_n rfl dX12_put_289 ?_
                    refine Wp.aload_n rfl dX12_put_290 ?_
                    refine Wp.gr (kz := 39) rfl dX12_put_291 fkX12_86 (by first | rfl | exact kd_b0 _ | exact kd_b1 _ | exact kd_b2 _ | exact kd_b3 _ | exact kd_b4 _ | exact kd_b5 _ | exact kd_b6 _) (by omega) (by first | exact hFx _ 39 _ rfl | assumption | exact hBk.1 | exact hBk.2.1 | exact hBk.2.2.1 | exact hBk.2.2.2.1 | exact hBk.2.2.2.2.1 | exact hBk.2.2.2.2.2) ?_
                    refine Wp.bipush rfl dX12_put_294 ?_
                    refine Wp.iload rfl dX12_put_296 ?_
                    refine Wp.iconst dX12_put_298 ?_
                    refine Wp.isub dX12_put_299 ?_
                    refine Wp.imul dX12_put_300 ?_
                    refine Wp.iload rfl dX12_put_301 ?_
                    refine Wp.iadd dX12_put_303 ?_
                    refine Wp.iaload dX12_put_304 (by first | rfl | exact kd_b0 _ | exact kd_b1 _ | exact kd_b2 _ | exact kd_b3 _ | exact kd_b4 _ | exact kd_b5 _ | exact kd_b6 _) (by omega) (by omega) (by omega) ?_
                    refine Wp.aload_n rfl dX12_put_305 ?_
                    refine Wp.gr (kz := 39) rfl dX12_put_306 fkX12_86 (by first | rfl | exact kd_b0 _ | exact kd_b1 _ | exact kd_b2 _ | exact kd_b3 _ | exact kd_b4 _ | exact kd_b5 _ | exact kd_b6 _) (by omega) (by first | exact hFx _ 39 _ rfl | assumption | exact hBk.1 | exact hBk.2.1 | exact hBk.2.2.1 | exact hBk.2.2.2.1 | exact hBk.2.2.2.2.1 | exact hBk.2.2.2.2.2) ?_
                    refine Wp.bipush rfl dX12_put_309 ?_
                    refine Wp.iload rfl dX12_put_311 ?_
                    refine Wp.imul dX12_put_313 ?_
                    refine Wp.iload rfl dX12_put_314 ?_
                    refine Wp.iadd dX12_put_316 ?_
                    refine Wp.iaload dX12_put_317 (by first | rfl | exact kd_b0 _ | exact kd_b1 _ | exact kd_b2 _ | exact kd_b3 _ | exact kd_b4 _ | exact kd_b5 _ | exact kd_b6 _) (by omega) (by omega) (by omega) ?_
                    refine Wp.callV (As := [_, _, _]) (ls0 := [_, _, _, _, _, _]) (bd := (0, 0)) (bd' := (0, 0)) dX12_put_318 kmX12_bring lkX12_260 (by decide) (by decide) (Nat.le_of_ble_eq_true rfl) (by first | rfl | exact kd_b0 _ | exact kd_b1 _ | exact kd_b2 _ | exact kd_b3 _ | exact kd_b4 _ | exact kd_b5 _ | exact kd_b6 _) (by omega) rfl rfl (Nat.le_of_ble_eq_true rfl) rfl ?_
                    have hpp := hpr (by omega) (by omega)
                    have hcc := hck (by omega)
                    rw [hpp.1, hcc.1]
                    refine ct_X12_bring hn hFx (PrW_cg hF.1 hP) hb (PlO_cg hF.1 hpp.2.1) (PlO_cg hF.1 hcc.2) ?_
                    rw [tieP_cg hF.1]
                    clear hpp hcc
                    show Wp _ _ _ (_ :: _) _ _ _
                    refine Wp.goto (tgt := 325) dX12_put_321 (by decide) ?_
                    refine Wp.istore (ls' := [_, _, _, _, _, _, _, _, _, _, _, _]) dX12_put_325 (by decide) rfl ?_
                    refine Wp.aload_n rfl dX12_put_327 ?_
                    refine Wp.gr (kz := 40) rfl dX12_put_328 fkX12_89 (by first | rfl | exact kd_b0 _ | exact kd_b1 _ | exact kd_b2 _ | exact kd_b3 _ | exact kd_b4 _ | exact kd_b5 _ | exact kd_b6 _) (by omega) (by first | exact hFx _ 40 _ rfl | assumption | exact hBk.1 | exact hBk.2.1 | exact hBk.2.2.1 | exact hBk.2.2.2.1 | exact hBk.2.2.2.2.1 | exact hBk.2.2.2.2.2) ?_
                    refine Wp.bipush rfl dX12_put_331 ?_
                    refine Wp.iload rfl dX12_put_333 ?_
                    refine Wp.imul dX12_put_335 ?_
                    refine Wp.iload rfl dX12_put_336 ?_
                    refine Wp.iadd dX12_put_338 ?_
                    refine Wp.iaload dX12_put_339 (by first | rfl | exact kd_b0 _ | exact kd_b1 _ | exact kd_b2 _ | exact kd_b3 _ | exact kd_b4 _ | exact kd_b5 _ | exact kd_b6 _) (by omega) (by omega) (by omega) ?_
                    refine Wp.iload rfl dX12_put_340 ?_
                    refine Wp.iadd dX12_put_342 ?_
                    refine Wp.iload rfl dX12_put_343 ?_
                    refine Wp.icmp_ne (tgt := 352) dX12_put_345 (by decide) (by first | omega | exact bI_R _ | exact cmp_R _ _ | assumption) (by first | omega | exact bI_R _ | exact cmp_R _ _ | assumption) (fun c345 => ?_) (fun c345 => ?_)
                    · refine Wp.iconst dX12_put_352 ?_
                      refine Wp.istore (ls' := [_, _, _, _, _, _, _, _, _, _, _, _]) dX12_put_353 (by decide) rfl ?_
                      refine Wp.iload rfl dX12_put_355 ?_
                      refine Wp.iload rfl dX12_put_357 ?_
                      refine Wp.if_eq (tgt := 366) dX12_put_359 (by decide) (by first | omega | exact bI_R _ | exact cmp_R _ _ | assumption) (fun c359 => ?_) (fun c359 => ?_)
                      · refine Wp.iconst dX12_put_366 ?_
                        refine Wp.iadd dX12_put_367 ?_
                        refine Wp.istore (ls' := [_, _, _, _, _, _, _, _, _, _, _, _]) dX12_put_368 (by decide) rfl ?_
                        refine Wp.goto (tgt := 244) dX12_put_370 (by decide) ?_
                        first | exact ihd (t + 1) _ _ _ (by omega) (by omega) | (exfalso; omega)
                      · refine Wp.iconst dX12_put_362 ?_
                        refine Wp.goto (tgt := 367) dX12_put_363 (by decide) ?_
                        refine Wp.iadd dX12_put_367 ?_
                        refine Wp.istore (ls' := [_, _, _, _, _, _, _, _, _, _, _, _]) dX12_put_368 (by decide) rfl ?_
                        refine Wp.goto (tgt := 244) dX12_put_370 (by decide) ?_
                        first | exact ihd (t + 1) _ _ _ (by omega) (by omega) | (exfalso; omega)
                    · refine Wp.iconst dX12_put_348 ?_
                      refine Wp.goto (tgt := 353) dX12_put_349 (by decide) ?_
                      refine Wp.istore (ls' := [_, _, _, _, _, _, _, _, _, _, _, _]) dX12_put_353 (by decide) rfl ?_
                      refine Wp.iload rfl dX12_put_355 ?_
                      refine Wp.iload rfl dX12_put_357 ?_
                      refine Wp.if_eq (tgt := 366) dX12_put_359 (by decide) (by first | omega | exact bI_R _ | exact cmp_R _ _ | assumption) (fun c359 => ?_) (fun c359 => ?_)
                      · refine Wp.iconst dX12_put_366 ?_
                        refine Wp.iadd dX12_put_367 ?_
                        refine Wp.istore (ls' := [_, _, _, _, _, _, _, _, _, _, _, _]) dX12_put_368 (by decide) rfl ?_
                        refine Wp.goto (tgt := 244) dX12_put_370 (by decide) ?_
                        first | exact ihd (t + 1) _ _ _ (by omega) (by omega) | (exfalso; omega)
                      · refine Wp.iconst dX12_put_362 ?_
                        refine Wp.goto (tgt := 367) dX12_put_363 (by decide) ?_
                        refine Wp.iadd dX12_put_367 ?_
                        refine Wp.istore (ls' := [_, _, _, _, _, _, _, _, _, _, _, _]) dX12_put_368 (by decide) rfl ?_
                        refine Wp.goto (tgt := 244) dX12_put_370 (by decide) ?_
                        first | exact ihd (t + 1) _ _ _ (by omega) (by omega) | (exfalso; omega)
      refine Wp.iload rfl dX12_put_232 ?_
      refine Wp.iload_n rfl dX12_put_234 ?_
      refine Wp.icmp_gt (tgt := 398) dX12_put_235 (by decide) (by first | omega | exact bI_R _ | exact cmp_R _ _ | assumption) (by first | omega | exact bI_R _ | exact cmp_R _ _ | assumption) (fun c235 => ?_) (fun c235 => ?_)
      · exfalso; omega
      · refine Wp.iconst dX12_put_238 ?_
        refine Wp.istore (ls' := [_, _, _, _, _, _, _, _, _, _, _, _]) dX12_put_239 (by decide) rfl ?_
        refine Wp.iconst dX12_put_241 ?_
        refine Wp.istore (ls' := [_, _, _, _, _, _, _, _, _, _, _, _]) dX12_put_242 (by decide) rfl ?_
        exact hin j 0 _ _ _ (by omega) rfl
  have hend : ∀ (J : Nat → Int → Int) (x5 : Option AV), tgP b → 0 ≤ what → what ≤ 1 → ¬ (I 32 35 = 0 ∨ I 32 36 = b) → FxC I J C S → (∀ q : Nat, q < S → mst I J b C S q) → Wp mX12_put 187 [some (vr (some 32)), some (vi b), some (vi i), some (vi what), some (vi (wv I b (sfD C S S) none)), x5, none, none, none, none, none, none] [] (J, L, R, n) (0, 0) Q := by
    intro J x5 htb hw0 hw1 hne hF hM
    have hJS := hF.2.1
    have hS : 0 < S := by omega
    have hlen : 0 ≤ i → i < S → J 52 i = ((C i.toNat).length : Int) ∧ (C i.toNat).length ≤ 18 := fun h0 h1 => by
      have := (hF.2.2.2.1 i.toNat (by omega)).1
      rw [show ((i.toNat : Nat) : Int) = i by omega] at this
      exact ⟨this, (hCok i.toNat (by omega)).1⟩
    have hnone : 0 ≤ i → i < S → (C i.toNat).length = 0 → cz I b C S i.toNat = none := fun h0 h1 h2 => by rw [cz_eq, List.eq_nil_of_length_eq_zero h2]; rfl
    refine Wp.iload_n rfl dX12_put_187 ?_
    refine Wp.iconst dX12_put_188 ?_
    refine Wp.icmp_ne (tgt := 195) dX12_put_189 (by decide) (by first | omega | exact bI_R _ | exact cmp_R _ _ | assumption) (by first | omega | exact bI_R _ | exact cmp_R _ _ | assumption) (fun c189 => ?_) (fun c189 => ?_)
    · refine Wp.iload_n rfl dX12_put_195 ?_
      refine Wp.i2l (by first | omega | exact bI_R _ | exact cmp_R _ _ | assumption) dX12_put_196 ?_
      refine Wp.lconst0 dX12_put_197 ?_
      refine Wp.aload_n rfl dX12_put_198 ?_
      refine Wp.gi (kz := 35) rfl dX12_put_199 fkX12_165 (by first | rfl | exact kd_b0 _ | exact kd_b1 _ | exact kd_b2 _ | exact kd_b3 _ | exact kd_b4 _ | exact kd_b5 _ | exact kd_b6 _) (by omega) ?_
      refine Wp.iconst dX12_put_202 ?_
      refine Wp.isub dX12_put_203 ?_
      refine Wp.i2l (by first | omega | exact bI_R _ | exact cmp_R _ _ | assumption) dX12_put_204 ?_
      refine Wp.callS (As := [_, _, _]) (ls0 := [_, _, _, _, _, _]) (bd := (0, 0)) (bd' := (0, 0)) dX12_put_205 kmX12_in lkX12_100 (by decide) (by decide) (Nat.le_of_ble_eq_true rfl) rfl rfl (Nat.le_of_ble_eq_true rfl) rfl ?_
      refine ct_X12_in (a := 0) (b := J 32 35 - 1) (ofI_toInt hi) rfl (ofI_toInt (by omega)) ?_
      show Wp _ _ _ (_ :: _) _ _ _
      refine Wp.if_eqB (tgt := 220) dX12_put_208 (by decide) (fun c208 => ?_) (fun c208 => ?_)
      · refine Wp.iconst dX12_put_220 ?_
        refine Wp.ireturn dX12_put_221 rfl ?_
        first | (exfalso; omega) | (first | exact hQ J _ hF.1 (by rw [if_pos htb, if_pos ⟨hw0, hw1⟩, if_neg hne, if_neg (by omega), if_neg (by omega)]) | exact hQ J _ hF.1 (by rw [if_pos htb, if_pos ⟨hw0, hw1⟩, if_neg hne, if_neg (by omega), if_pos (by omega), hnone (by omega) (by omega) (by omega)]))
      · have hl := hlen (by omega) (by omega)
        refine Wp.aload_n rfl dX12_put_211 ?_
        refine Wp.gr (kz := 38) rfl dX12_put_212 fkX12_83 (by first | rfl | exact kd_b0 _ | exact kd_b1 _ | exact kd_b2 _ | exact kd_b3 _ | exact kd_b4 _ | exact kd_b5 _ | exact kd_b6 _) (by omega) (by first | exact hFx _ 38 _ rfl | assumption | exact hBk.1 | exact hBk.2.1 | exact hBk.2.2.1 | exact hBk.2.2.2.1 | exact hBk.2.2.2.2.1 | exact hBk.2.2.2.2.2) ?_
        refine Wp.iload_n rfl dX12_put_215 ?_
        refine Wp.iaload dX12_put_216 (by first | rfl | exact kd_b0 _ | exact kd_b1 _ | exact kd_b2 _ | exact kd_b3 _ | exact kd_b4 _ | exact kd_b5 _ | exact kd_b6 _) (by omega) (by omega) (by omega) ?_
        refine Wp.if_ne (tgt := 222) dX12_put_217 (by decide) (by first | omega | exact bI_R _ | exact cmp_R _ _ | assumption) (fun c217 => ?_) (fun c217 => ?_)
        · refine Wp.iconst dX12_put_222 ?_
          refine Wp.istore (ls' := [_, _, _, _, _, _, _, _, _, _, _, _]) dX12_put_223 (by decide) rfl ?_
          refine Wp.iload rfl dX12_put_225 ?_
          refine Wp.istore (ls' := [_, _, _, _, _, _, _, _, _, _, _, _]) dX12_put_227 (by decide) rfl ?_
          refine Wp.iconst dX12_put_229 ?_
          refine Wp.istore (ls' := [_, _, _, _, _, _, _, _, _, _, _, _]) dX12_put_230 (by decide) rfl ?_
          exact lk htb hw0 hw1 hne (by omega) (by omega) (by omega) J _ hF hM (i + 1).toNat 0 0 _ _ _ _ _ (by omega) (Or.inl ⟨rfl, rfl⟩) rfl
        · refine Wp.iconst dX12_put_220 ?_
          refine Wp.ireturn dX12_put_221 rfl ?_
          first | (exfalso; omega) | (first | exact hQ J _ hF.1 (by rw [if_pos htb, if_pos ⟨hw0, hw1⟩, if_neg hne, if_neg (by omega), if_neg (by omega)]) | exact hQ J _ hF.1 (by rw [if_pos htb, if_pos ⟨hw0, hw1⟩, if_neg hne, if_neg (by omega), if_pos (by omega), hnone (by omega) (by omega) (by omega)]))
    · refine Wp.iload rfl dX12_put_192 ?_
      refine Wp.ireturn dX12_put_194 rfl ?_
      first | (exfalso; omega) | (exact hQ J _ hF.1 (by rw [if_pos htb, if_pos ⟨hw0, hw1⟩, if_neg hne, if_pos (by omega)]))
  have lm : ∀ (J : Nat → Int → Int), tgP b → 0 ≤ what → what ≤ 1 → ¬ (I 32 35 = 0 ∨ I 32 36 = b) → FxC I J C S → (∀ q : Nat, q < S → mst I J b C S q) → ∀ (tt k : Nat) (z acc : Int), k + tt = l1 (C 0) → z = k → acc = mxN (fun c => J 54 c) k → Wp mX12_put 131 [some (vr (some 32)), some (vi b), some (vi i), some (vi what), some (vi acc), some (vi z), none, none, none, none, none, none] [] (J, L, R, n) (0, 0) Q := by
    intro J htb hw0 hw1 hne hF hM tt
    have hS : 0 < S := by omega
    have hJ0 : J 52 0 = ((C 0).length : Int) := (hF.2.2.2.1 0 hS).1
    have hl18 := (hCok 0 hS).1
    have hl1 : l1 (C 0) = 1 ∧ (C 0).length = 0 ∨ l1 (C 0) = (C 0).length ∧ 0 < (C 0).length := by unfold l1; split <;> omega
    have hmB : ∀ c : Nat, c < l1 (C 0) → 0 ≤ J 54 c ∧ J 54 c ≤ 1090 := fun c hc => by
      have h := hM 0 hS c (ok_l1 hc)
      have h2 : J 54 (c : Int) = wv I b (sfD C S (S - (0 + 1))) (opc (C 0) c) := by simpa using h
      rw [h2]; exact wv_B2 hP b C (by omega) _
    induction tt with
    | zero =>
      intro k z acc hk hz hacc
      have htot := put_tot hP hS hS10 (hM 0 hS)
      have hacc2 : acc = wv I b (sfD C S S) none := by rw [hacc, ← htot, show k = l1 (C 0) by omega]
      subst hacc2
      refine Wp.iload rfl dX12_put_131 ?_
      refine Wp.aload_n rfl dX12_put_133 ?_
      refine Wp.gr (kz := 38) rfl dX12_put_134 fkX12_83 (by first | rfl | exact kd_b0 _ | exact kd_b1 _ | exact kd_b2 _ | exact kd_b3 _ | exact kd_b4 _ | exact kd_b5 _ | exact kd_b6 _) (by omega) (by first | exact hFx _ 38 _ rfl | assumption | exact hBk.1 | exact hBk.2.1 | exact hBk.2.2.1 | exact hBk.2.2.2.1 | exact hBk.2.2.2.2.1 | exact hBk.2.2.2.2.2) ?_
      refine Wp.iconst dX12_put_137 ?_
      refine Wp.iaload dX12_put_138 (by first | rfl | exact kd_b0 _ | exact kd_b1 _ | exact kd_b2 _ | exact kd_b3 _ | exact kd_b4 _ | exact kd_b5 _ | exact kd_b6 _) (by omega) (by omega) (by omega) ?_
      refine Wp.if_ne (tgt := 146) dX12_put_139 (by decide) (by first | omega | exact bI_R _ | exact cmp_R _ _ | assumption) (fun c139 => ?_) (fun c139 => ?_)
      · refine Wp.aload_n rfl dX12_put_146 ?_
        refine Wp.gr (kz := 38) rfl dX12_put_147 fkX12_83 (by first | rfl | exact kd_b0 _ | exact kd_b1 _ | exact kd_b2 _ | exact kd_b3 _ | exact kd_b4 _ | exact kd_b5 _ | exact kd_b6 _) (by omega) (by first | exact hFx _ 38 _ rfl | assumption | exact hBk.1 | exact hBk.2.1 | exact hBk.2.2.1 | exact hBk.2.2.2.1 | exact hBk.2.2.2.2.1 | exact hBk.2.2.2.2.2) ?_
        refine Wp.iconst dX12_put_150 ?_
        refine Wp.iaload dX12_put_151 (by first | rfl | exact kd_b0 _ | exact kd_b1 _ | exact kd_b2 _ | exact kd_b3 _ | exact kd_b4 _ | exact kd_b5 _ | exact kd_b6 _) (by omega) (by omega) (by omega) ?_
        refine Wp.icmp_ge (tgt := 187) dX12_put_152 (by decide) (by first | omega | exact bI_R _ | exact cmp_R _ _ | assumption) (by first | omega | exact bI_R _ | exact cmp_R _ _ | assumption) (fun c152 => ?_) (fun c152 => ?_)
        · exact hend J _ htb hw0 hw1 hne hF hM
        · exfalso; omega
      · refine Wp.iconst dX12_put_142 ?_
        refine Wp.goto (tgt := 152) dX12_put_143 (by decide) ?_
        refine Wp.icmp_ge (tgt := 187) dX12_put_152 (by decide) (by first | omega | exact bI_R _ | exact cmp_R _ _ | assumption) (by first | omega | exact bI_R _ | exact cmp_R _ _ | assumption) (fun c152 => ?_) (fun c152 => ?_)
        · exact hend J _ htb hw0 hw1 hne hF hM
        · exfalso; omega
    | succ tt ih =>
      intro k z acc hk hz hacc
      subst hz
      subst hacc
      have hk1 := hmB k (by omega)
      have haB := mxN_B (g := fun c => J 54 c) (M := 1090) (by omega) k (fun j hj => (hmB j (by omega)).2)
      refine Wp.iload rfl dX12_put_131 ?_
      refine Wp.aload_n rfl dX12_put_133 ?_
      refine Wp.gr (kz := 38) rfl dX12_put_134 fkX12_83 (by first | rfl | exact kd_b0 _ | exact kd_b1 _ | exact kd_b2 _ | exact kd_b3 _ | exact kd_b4 _ | exact kd_b5 _ | exact kd_b6 _) (by omega) (by first | exact hFx _ 38 _ rfl | assumption | exact hBk.1 | exact hBk.2.1 | exact hBk.2.2.1 | exact hBk.2.2.2.1 | exact hBk.2.2.2.2.1 | exact hBk.2.2.2.2.2) ?_
      refine Wp.iconst dX12_put_137 ?_
      refine Wp.iaload dX12_put_138 (by first | rfl | exact kd_b0 _ | exact kd_b1 _ | exact kd_b2 _ | exact kd_b3 _ | exact kd_b4 _ | exact kd_b5 _ | exact kd_b6 _) (by omega) (by omega) (by omega) ?_
      refine Wp.if_ne (tgt := 146) dX12_put_139 (by decide) (by first | omega | exact bI_R _ | exact cmp_R _ _ | assumption) (fun c139 => ?_) (fun c139 => ?_)
      · refine Wp.aload_n rfl dX12_put_146 ?_
        refine Wp.gr (kz := 38) rfl dX12_put_147 fkX12_83 (by first | rfl | exact kd_b0 _ | exact kd_b1 _ | exact kd_b2 _ | exact kd_b3 _ | exact kd_b4 _ | exact kd_b5 _ | exact kd_b6 _) (by omega) (by first | exact hFx _ 38 _ rfl | assumption | exact hBk.1 | exact hBk.2.1 | exact hBk.2.2.1 | exact hBk.2.2.2.1 | exact hBk.2.2.2.2.1 | exact hBk.2.2.2.2.2) ?_
        refine Wp.iconst dX12_put_150 ?_
        refine Wp.iaload dX12_put_151 (by first | rfl | exact kd_b0 _ | exact kd_b1 _ | exact kd_b2 _ | exact kd_b3 _ | exact kd_b4 _ | exact kd_b5 _ | exact kd_b6 _) (by omega) (by omega) (by omega) ?_
        refine Wp.icmp_ge (tgt := 187) dX12_put_152 (by decide) (by first | omega | exact bI_R _ | exact cmp_R _ _ | assumption) (by first | omega | exact bI_R _ | exact cmp_R _ _ | assumption) (fun c152 => ?_) (fun c152 => ?_)
        · exfalso; omega
        · refine Wp.aload_n rfl dX12_put_155 ?_
          refine Wp.gr (kz := 40) rfl dX12_put_156 fkX12_89 (by first | rfl | exact kd_b0 _ | exact kd_b1 _ | exact kd_b2 _ | exact kd_b3 _ | exact kd_b4 _ | exact kd_b5 _ | exact kd_b6 _) (by omega) (by first | exact hFx _ 40 _ rfl | assumption | exact hBk.1 | exact hBk.2.1 | exact hBk.2.2.1 | exact hBk.2.2.2.1 | exact hBk.2.2.2.2.1 | exact hBk.2.2.2.2.2) ?_
          refine Wp.iload rfl dX12_put_159 ?_
          refine Wp.iaload dX12_put_161 (by first | rfl | exact kd_b0 _ | exact kd_b1 _ | exact kd_b2 _ | exact kd_b3 _ | exact kd_b4 _ | exact kd_b5 _ | exact kd_b6 _) (by omega) (by omega) (by omega) ?_
          refine Wp.iload rfl dX12_put_162 ?_
          refine Wp.icmp_le (tgt := 177) dX12_put_164 (by decide) (by first | omega | exact bI_R _ | exact cmp_R _ _ | assumption) (by first | omega | exact bI_R _ | exact cmp_R _ _ | assumption) (fun c164 => ?_) (fun c164 => ?_)
          · refine Wp.iload rfl dX12_put_177 ?_
            refine Wp.istore (ls' := [_, _, _, _, _, _, _, _, _, _, _, _]) dX12_put_179 (by decide) rfl ?_
            refine Wp.iinc (ls' := [_, _, _, _, _, _, _, _, _, _, _, _]) rfl dX12_put_181 (by decide) rfl ?_
            refine Wp.goto (tgt := 131) dX12_put_184 (by decide) ?_
            first | exact ih (k + 1) _ _ (by omega) (by omega) (mxN_t (g := fun c => J 54 c) rfl (by omega)) | exact ih (k + 1) _ _ (by omega) (by omega) (mxN_f (g := fun c => J 54 c) (v := J 54 k) rfl (by omega)) | (exfalso; omega)
          · refine Wp.aload_n rfl dX12_put_167 ?_
            refine Wp.gr (kz := 40) rfl dX12_put_168 fkX12_89 (by first | rfl | exact kd_b0 _ | exact kd_b1 _ | exact kd_b2 _ | exact kd_b3 _ | exact kd_b4 _ | exact kd_b5 _ | exact kd_b6 _) (by omega) (by first | exact hFx _ 40 _ rfl | assumption | exact hBk.1 | exact hBk.2.1 | exact hBk.2.2.1 | exact hBk.2.2.2.1 | exact hBk.2.2.2.2.1 | exact hBk.2.2.2.2.2) ?_
            refine Wp.iload rfl dX12_put_171 ?_
            refine Wp.iaload dX12_put_173 (by first | rfl | exact kd_b0 _ | exact kd_b1 _ | exact kd_b2 _ | exact kd_b3 _ | exact kd_b4 _ | exact kd_b5 _ | exact kd_b6 _) (by omega) (by omega) (by omega) ?_
            refine Wp.goto (tgt := 179) dX12_put_174 (by decide) ?_
            refine Wp.istore (ls' := [_, _, _, _, _, _, _, _, _, _, _, _]) dX12_put_179 (by decide) rfl ?_
            refine Wp.iinc (ls' := [_, _, _, _, _, _, _, _, _, _, _, _]) rfl dX12_put_181 (by decide) rfl ?_
            refine Wp.goto (tgt := 131) dX12_put_184 (by decide) ?_
            first | exact ih (k + 1) _ _ (by omega) (by omega) (mxN_t (g := fun c => J 54 c) rfl (by omega)) | exact ih (k + 1) _ _ (by omega) (by omega) (mxN_f (g := fun c => J 54 c) (v := J 54 k) rfl (by omega)) | (exfalso; omega)
      · refine Wp.iconst dX12_put_142 ?_
        refine Wp.goto (tgt := 152) dX12_put_143 (by decide) ?_
        refine Wp.icmp_ge (tgt := 187) dX12_put_152 (by decide) (by first | omega | exact bI_R _ | exact cmp_R _ _ | assumption) (by first | omega | exact bI_R _ | exact cmp_R _ _ | assumption) (fun c152 => ?_) (fun c152 => ?_)
        · exfalso; omega
        · refine Wp.aload_n rfl dX12_put_155 ?_
          refine Wp.gr (kz := 40) rfl dX12_put_156 fkX12_89 (by first | rfl | exact kd_b0 _ | exact kd_b1 _ | exact kd_b2 _ | exact kd_b3 _ | exact kd_b4 _ | exact kd_b5 _ | exact kd_b6 _) (by omega) (by first | exact hFx _ 40 _ rfl | assumption | exact hBk.1 | exact hBk.2.1 | exact hBk.2.2.1 | exact hBk.2.2.2.1 | exact hBk.2.2.2.2.1 | exact hBk.2.2.2.2.2) ?_
          refine Wp.iload rfl dX12_put_159 ?_
          refine Wp.iaload dX12_put_161 (by first | rfl | exact kd_b0 _ | exact kd_b1 _ | exact kd_b2 _ | exact kd_b3 _ | exact kd_b4 _ | exact kd_b5 _ | exact kd_b6 _) (by omega) (by omega) (by omega) ?_
          refine Wp.iload rfl dX12_put_162 ?_
          refine Wp.icmp_le (tgt := 177) dX12_put_164 (by decide) (by first | omega | exact bI_R _ | exact cmp_R _ _ | assumption) (by first | omega | exact bI_R _ | exact cmp_R _ _ | assumption) (fun c164 => ?_) (fun c164 => ?_)
          · refine Wp.iload rfl dX12_put_177 ?_
            refine Wp.istore (ls' := [_, _, _, _, _, _, _, _, _, _, _, _]) dX12_put_179 (by decide) rfl ?_
            refine Wp.iinc (ls' := [_, _, _, _, _, _, _, _, _, _, _, _]) rfl dX12_put_181 (by decide) rfl ?_
            refine Wp.goto (tgt := 131) dX12_put_184 (by decide) ?_
            first | exact ih (k + 1) _ _ (by omega) (by omega) (mxN_t (g := fun c => J 54 c) rfl (by omega)) | exact ih (k + 1) _ _ (by omega) (by omega) (mxN_f (g := fun c => J 54 c) (v := J 54 k) rfl (by omega)) | (exfalso; omega)
          · refine Wp.aload_n rfl dX12_put_167 ?_
            refine Wp.gr (kz := 40) rfl dX12_put_168 fkX12_89 (by first | rfl | exact kd_b0 _ | exact kd_b1 _ | exact kd_b2 _ | exact kd_b3 _ | exact kd_b4 _ | exact kd_b5 _ | exact kd_b6 _) (by omega) (by first | exact hFx _ 40 _ rfl | assumption | exact hBk.1 | exact hBk.2.1 | exact hBk.2.2.1 | exact hBk.2.2.2.1 | exact hBk.2.2.2.2.1 | exact hBk.2.2.2.2.2) ?_
            refine Wp.iload rfl dX12_put_171 ?_
            refine Wp.iaload dX12_put_173 (by first | rfl | exact kd_b0 _ | exact kd_b1 _ | exact kd_b2 _ | exact kd_b3 _ | exact kd_b4 _ | exact kd_b5 _ | exact kd_b6 _) (by omega) (by omega) (by omega) ?_
            refine Wp.goto (tgt := 179) dX12_put_174 (by decide) ?_
            refine Wp.istore (ls' := [_, _, _, _, _, _, _, _, _, _, _, _]) dX12_put_179 (by decide) rfl ?_
            refine Wp.iinc (ls' := [_, _, _, _, _, _, _, _, _, _, _, _]) rfl dX12_put_181 (by decide) rfl ?_
            refine Wp.goto (tgt := 131) dX12_put_184 (by decide) ?_
            first | exact ih (k + 1) _ _ (by omega) (by omega) (mxN_t (g := fun c => J 54 c) rfl (by omega)) | exact ih (k + 1) _ _ (by omega) (by omega) (mxN_f (g := fun c => J 54 c) (v := J 54 k) rfl (by omega)) | (exfalso; omega)
  have lo : ∀ (htb : tgP b) (hw0 : 0 ≤ what) (hw1 : what ≤ 1) (hne : Unit → ¬ (I 32 35 = 0 ∨ I 32 36 = b)) , ∀ (tt k : Nat) (z : Int) (J : Nat → Int → Int) (x5 : Option AV), k + tt = S → z = (S : Int) - 1 - k → FxC I J C S → (∀ q : Nat, S - k ≤ q → q < S → mst I J b C S q) → Wp mX12_put 57 [some (vr (some 32)), some (vi b), some (vi i), some (vi what), some (vi z), x5, none, none, none, none, none, none] [] (J, L, R, n) (0, 0) Q := by
    intro htb hw0 hw1 hne
    intro tt
    induction tt with
    | zero =>
      intro k z J x5 hkt hz e0 e1
      obtain rfl : k = S := by omega
      refine Wp.iload rfl dX12_put_57 ?_
      refine Wp.if_lt (tgt := 125) dX12_put_59 (by decide) (by first | omega | exact bI_R _ | exact cmp_R _ _ | assumption) (fun c59 => ?_) (fun c59 => ?_)
      · refine Wp.iconst dX12_put_125 ?_
        refine Wp.istore (ls' := [_, _, _, _, _, _, _, _, _, _, _, _]) dX12_put_126 (by decide) rfl ?_
        refine Wp.iconst dX12_put_128 ?_
        refine Wp.istore (ls' := [_, _, _, _, _, _, _, _, _, _, _, _]) dX12_put_129 (by decide) rfl ?_
        exact lm J htb hw0 hw1 (hne ()) e0 (fun q h => e1 q (by omega) h) (l1 (C 0)) 0 _ _ (by omega) rfl rfl
      · exfalso; omega
    | succ tt ih =>
      intro k z J x5 hkt hz e0 e1
      subst hz
      have hi' : ((S - 1 - k : Nat) : Int) = (S : Int) - 1 - k := by omega
      have h119 : ∀ (J : Nat → Int → Int) (x5 : Option AV), FxC I J C S → (∀ q : Nat, S - 1 - k ≤ q → q < S → mst I J b C S q) → Wp mX12_put 119 [some (vr (some 32)), some (vi b), some (vi i), some (vi what), some (vi ((S - 1 - k : Nat) : Int)), x5, none, none, none, none, none, none] [] (J, L, R, n) (0, 0) Q := by
        intro J x5 f0 f1
        refine Wp.iinc (ls' := [_, _, _, _, _, _, _, _, _, _, _, _]) rfl dX12_put_119 (by decide) rfl ?_
        refine Wp.goto (tgt := 57) dX12_put_122 (by decide) ?_
        exact ih (k + 1) _ J _ (by omega) (by omega) f0 (fun q h1 h2 => f1 q (by omega) h2)
      refine Wp.iload rfl dX12_put_57 ?_
      refine Wp.if_lt (tgt := 125) dX12_put_59 (by decide) (by first | omega | exact bI_R _ | exact cmp_R _ _ | assumption) (fun c59 => ?_) (fun c59 => ?_)
      · exfalso; omega
      · refine Wp.iconst dX12_put_62 ?_
        refine Wp.istore (ls' := [_, _, _, _, _, _, _, _, _, _, _, _]) dX12_put_63 (by decide) rfl ?_
        rw [← hi']
        exact lc (S - 1 - k) (by omega) h119 (l1 (C (S - 1 - k))) 0 _ J (by omega) rfl e0 (fun q h1 h2 => e1 q (by omega) h2) (fun c hc => absurd hc (Nat.not_lt_zero c))
  refine Wp.iload_n rfl dX12_put_0 ?_
  refine Wp.callS (As := [_]) (ls0 := [_]) (bd := (0, 0)) (bd' := (0, 0)) dX12_put_1 kmX12_isTongue lkX12_147 (by decide) (by decide) (Nat.le_of_ble_eq_true rfl) rfl rfl (Nat.le_of_ble_eq_true rfl) rfl ?_
  refine ct_X12_isTongue (by omega) ?_
  show Wp _ _ _ (_ :: _) _ _ _
  refine Wp.if_neB (tgt := 11) dX12_put_4 (by decide) (fun c4 => ?_) (fun c4 => ?_)
  · refine Wp.iload_n rfl dX12_put_11 ?_
    refine Wp.i2l (by first | omega | exact bI_R _ | exact cmp_R _ _ | assumption) dX12_put_12 ?_
    refine Wp.lconst0 dX12_put_13 ?_
    refine Wp.lconst1 dX12_put_14 ?_
    refine Wp.callS (As := [_, _, _]) (ls0 := [_, _, _, _, _, _]) (bd := (0, 0)) (bd' := (0, 0)) dX12_put_15 kmX12_in lkX12_100 (by decide) (by decide) (Nat.le_of_ble_eq_true rfl) rfl rfl (Nat.le_of_ble_eq_true rfl) rfl ?_
    refine ct_X12_in (a := 0) (b := 1) (ofI_toInt hwh) rfl rfl ?_
    show Wp _ _ _ (_ :: _) _ _ _
    refine Wp.if_neB (tgt := 25) dX12_put_18 (by decide) (fun c18 => ?_) (fun c18 => ?_)
    · refine Wp.aload_n rfl dX12_put_25 ?_
      refine Wp.gi (kz := 35) rfl dX12_put_26 fkX12_165 (by first | rfl | exact kd_b0 _ | exact kd_b1 _ | exact kd_b2 _ | exact kd_b3 _ | exact kd_b4 _ | exact kd_b5 _ | exact kd_b6 _) (by omega) ?_
      refine Wp.if_eq (tgt := 40) dX12_put_29 (by decide) (by first | omega | exact bI_R _ | exact cmp_R _ _ | assumption) (fun c29 => ?_) (fun c29 => ?_)
      · refine Wp.sipush rfl dX12_put_40 ?_
        refine Wp.ireturn dX12_put_43 rfl ?_
        first | (exfalso; omega) | (exact hQ I _ (Eqv.rf I) (by (repeat' split) <;> first | (exfalso; omega) | rfl))
      · refine Wp.aload_n rfl dX12_put_32 ?_
        refine Wp.gi (kz := 36) rfl dX12_put_33 fkX12_254 (by first | rfl | exact kd_b0 _ | exact kd_b1 _ | exact kd_b2 _ | exact kd_b3 _ | exact kd_b4 _ | exact kd_b5 _ | exact kd_b6 _) (by omega) ?_
        refine Wp.iload_n rfl dX12_put_36 ?_
        refine Wp.icmp_ne (tgt := 44) dX12_put_37 (by decide) (by first | omega | exact bI_R _ | exact cmp_R _ _ | assumption) (by first | omega | exact bI_R _ | exact cmp_R _ _ | assumption) (fun c37 => ?_) (fun c37 => ?_)
        · refine Wp.aload_n rfl dX12_put_44 ?_
          refine Wp.iload_n rfl dX12_put_45 ?_
          refine Wp.callV (As := [_]) (ls0 := [_, _, _, _, _, _]) (bd := (0, 0)) (bd' := (0, 0)) dX12_put_46 kmX12_findChoices lkX12_263 (by decide) (by decide) (Nat.le_of_ble_eq_true rfl) (by first | rfl | exact kd_b0 _ | exact kd_b1 _ | exact kd_b2 _ | exact kd_b3 _ | exact kd_b4 _ | exact kd_b5 _ | exact kd_b6 _) (by omega) rfl rfl (Nat.le_of_ble_eq_true rfl) rfl ?_
          refine ct_X12_findChoices hn hFx hW hb hS0 hS1 hT hw (fun J hJ hA => ?_)
          have hF : FxC I J C S := ⟨hJ, by rw [hJ 32 35 (by unfold scr; omega)]; exact hSS, hS10, by rw [hSn, hCd] at hA; exact hA, hCok⟩
          show Wp _ _ _ _ _ _ _
          refine Wp.aload_n rfl dX12_put_49 ?_
          refine Wp.gi (kz := 35) rfl dX12_put_50 fkX12_165 (by first | rfl | exact kd_b0 _ | exact kd_b1 _ | exact kd_b2 _ | exact kd_b3 _ | exact kd_b4 _ | exact kd_b5 _ | exact kd_b6 _) (by omega) ?_
          refine Wp.iconst dX12_put_53 ?_
          refine Wp.isub dX12_put_54 ?_
          refine Wp.istore (ls' := [_, _, _, _, _, _, _, _, _, _, _, _]) dX12_put_55 (by decide) rfl ?_
          exact lo (by omega) (by omega) (by omega) (fun _ => by omega) S 0 _ J _ (by omega) (by rw [hF.2.1]; omega) hF (fun q h1 h2 => by omega)
        · refine Wp.sipush rfl dX12_put_40 ?_
          refine Wp.ireturn dX12_put_43 rfl ?_
          first | (exfalso; omega) | (exact hQ I _ (Eqv.rf I) (by (repeat' split) <;> first | (exfalso; omega) | rfl))
    · refine Wp.sipush rfl dX12_put_21 ?_
      refine Wp.ireturn dX12_put_24 rfl ?_
      first | (exfalso; omega) | (exact hQ I _ (Eqv.rf I) (by (repeat' split) <;> first | (exfalso; omega) | rfl))
  · refine Wp.sipush rfl dX12_put_7 ?_
    refine Wp.ireturn dX12_put_10 rfl ?_
    first | (exfalso; omega) | (exact hQ I _ (Eqv.rf I) (by (repeat' split) <;> first | (exfalso; omega) | rfl))
end

