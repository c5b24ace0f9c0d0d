/-! ===== the reference: promises 21, 25: put ===== -/
/-- the choice at place c of a list; none if there is none -/
def opc (l : List Int) (c : Nat) : Option Int := if l = [] then none else some (l.getD c 0)
/-- places of a list that memory holds answers for: of an empty one the first -/
abbrev cOk (l : List Int) (c : Nat) : Prop := c < l.length ∨ (c = 0 ∧ l.length = 0)
theorem opc_0 {l : List Int} (c : Nat) (h : l.length = 0) : opc l c = none := by unfold opc; rw [if_pos (List.eq_nil_of_length_eq_zero h)]
theorem opc_1 {l : List Int} {c : Nat} (h : 0 < l.length) : opc l c = some (l.getD c 0) := by unfold opc; rw [if_neg (fun q => by rw [q] at h; simp at h)]
theorem wv_0 {I : Nat → Int → Int} {b : Int} {l : List Int} {r : List (List Int)} (p : Option Int) (h : l.length = 0) : wv I b (l :: r) p = wv I b r none := by simp only [wv]; rw [if_pos (List.eq_nil_of_length_eq_zero h)]
theorem wv_1 {I : Nat → Int → Int} {b : Int} {l : List Int} {r : List (List Int)} (p : Option Int) (h : 0 < l.length) : wv I b (l :: r) p = mxT (fun q => tieO I b p q + wv I b r (some q)) l l.length := by simp only [wv]; rw [if_neg (fun q => by rw [q] at h; simp at h)]
/-- memory holds the most behind each choice of word i -/
def mst (I J : Nat → Int → Int) (b : Int) (C : Nat → List Int) (S i : Nat) : Prop := ∀ c : Nat, cOk (C i) c → J 54 (18 * i + c) = wv I b (sfD C S (S - (i + 1))) (opc (C i) c)
theorem tieP_cg {I J : Nat → Int → Int} (h : Eqv I J) (b p q : Int) : tieP J b p q = tieP I b p q := by
  unfold tieP
  have e : ∀ (o : Nat) (k : Int), ¬ scr o k → J o k = I o k := h
  have e47 : J 47 = I 47 := funext (fun k => e 47 k (by unfold scr; omega))
  have e48 : J 48 = I 48 := funext (fun k => e 48 k (by unfold scr; omega))
  have e49 : J 49 = I 49 := funext (fun k => e 49 k (by unfold scr; omega))
  have e50 : J 50 = I 50 := funext (fun k => e 50 k (by unfold scr; omega))
  rw [e47, e48, e49, e50, e 39 p (by unfold scr; omega), e 39 q (by unfold scr; omega), e 32 30 (by unfold scr; omega), e 37 (p.tdiv 6) (by unfold scr; omega), e 37 (q.tdiv 6) (by unfold scr; omega)]
theorem PrW_cg {I J : Nat → Int → Int} (h : Eqv I J) (hP : PrW (I 47) (I 48) (I 49) (I 50) (I 32 30)) : PrW (J 47) (J 48) (J 49) (J 50) (J 32 30) := by
  have e47 : J 47 = I 47 := funext (fun k => h 47 k (by unfold scr; omega))
  have e48 : J 48 = I 48 := funext (fun k => h 48 k (by unfold scr; omega))
  have e49 : J 49 = I 49 := funext (fun k => h 49 k (by unfold scr; omega))
  have e50 : J 50 = I 50 := funext (fun k => h 50 k (by unfold scr; omega))
  rw [e47, e48, e49, e50, h 32 30 (by unfold scr; omega)]
  exact hP
theorem PlO_cg {I J : Nat → Int → Int} (h : Eqv I J) {p : Int} (hp : PlO I p) : PlO J p := by
  unfold PlO at *
  rw [h 39 p (by unfold scr; omega), h 37 (p.tdiv 6) (by unfold scr; omega)]
  exact hp
theorem getD_mem {l : List Int} {c : Nat} (h : c < l.length) : l.getD c 0 ∈ l := by
  rw [List.getD_eq_getElem?_getD, List.getElem?_eq_getElem h]; simp
theorem find_at {p : Int → Bool} : ∀ (l : List Int) (j : Nat), j < l.length → p (l.getD j 0) = true → (∀ i : Nat, i < j → p (l.getD i 0) = false) → l.find? p = some (l.getD j 0)
  | [], j, h, _, _ => by simp at h
  | a :: l, 0, _, hp, _ => by
    have : p a = true := hp
    simp [List.find?, this]
  | a :: l, j + 1, h, hp, hn => by
    have h0 : p a = false := hn 0 (by omega)
    have := find_at l j (by simpa using h) hp (fun i hi => hn (i + 1) (by omega))
    simp only [List.find?, h0]
    exact this
theorem least_at {P : Nat → Prop} : ∀ (j : Nat), P j → ∃ i : Nat, i ≤ j ∧ P i ∧ ∀ t : Nat, t < i → ¬ P t
  | j, h => by
    classical
    induction j using Nat.strongRecOn with
    | _ j ih =>
      by_cases hx : ∃ t : Nat, t < j ∧ P t
      · obtain ⟨t, h1, h2⟩ := hx
        obtain ⟨i, h3, h4⟩ := ih t h1 h2
        exact ⟨i, by omega, h4⟩
      · exact ⟨j, Nat.le_refl _, h, fun t ht hp => hx ⟨t, ht, hp⟩⟩
/-- what a choice at place c of l comes to, behind p, before r -/
def gch (I : Nat → Int → Int) (b : Int) (l : List Int) (r : List (List Int)) (p : Option Int) (c : Nat) : Int := if l.length = 0 then wv I b r none else tieO I b p (l.getD c 0) + wv I b r (some (l.getD c 0))
theorem gch_first {I : Nat → Int → Int} (hP : PrW (I 47) (I 48) (I 49) (I 50) (I 32 30)) (b : Int) (l : List Int) (r : List (List Int)) (p : Option Int) : ∃ j : Nat, cOk l j ∧ gch I b l r p j = wv I b (l :: r) p ∧ (∀ t : Nat, t < j → gch I b l r p t ≠ wv I b (l :: r) p) ∧ l.find? (fun q => decide (tieO I b p q + wv I b r (some q) = wv I b (l :: r) p)) = opc l j := by
  rcases Nat.eq_zero_or_pos l.length with h | h
  · refine ⟨0, Or.inr ⟨rfl, h⟩, ?_, fun t ht => absurd ht (Nat.not_lt_zero t), ?_⟩
    · unfold gch; rw [if_pos h, wv_0 p h]
    · rw [opc_0 0 h, List.eq_nil_of_length_eq_zero h]; rfl
  · have hg : ∀ c, gch I b l r p c = tieO I b p (l.getD c 0) + wv I b r (some (l.getD c 0)) := fun c => by unfold gch; rw [if_neg (by omega)]
    obtain ⟨j, h1, h2⟩ := mxT_at (f := fun q => tieO I b p q + wv I b r (some q)) (l := l) l.length h (fun j _ => by
      have := (tieO_B hP b p (l.getD j 0)).1
      have := (wv_B hP b r (some (l.getD j 0))).1
      show 0 ≤ tieO I b p (l.getD j 0) + wv I b r (some (l.getD j 0))
      omega)
    rw [← wv_1 p h] at h2
    obtain ⟨i, h3, h4, h5⟩ := least_at (P := fun j => tieO I b p (l.getD j 0) + wv I b r (some (l.getD j 0)) = wv I b (l :: r) p) j h2
    refine ⟨i, Or.inl (by omega), by rw [hg]; exact h4, fun t ht => by rw [hg]; exact h5 t ht, ?_⟩
    rw [opc_1 h]
    exact find_at l i (by omega) (decide_eq_true h4) (fun t ht => decide_eq_false (h5 t ht))
section
variable {I : Nat → Int → Int} {L : Nat → Int → BitVec 64} {R : Nat → Int → Option Nat} {n : Nat} {m : Mm} {Q : Option AV → Mm → Prop}
theorem mxT_t {f : Int → Int} {l : List Int} {k : Nat} {v : Int} (hv : v = f (l.getD k 0)) (h : mxT f l k < v) : v = mxT f l (k + 1) := by simp only [mxT]; omega
theorem mxT_f {f : Int → Int} {l : List Int} {k : Nat} {v : Int} (hv : v = f (l.getD k 0)) (h : ¬ mxT f l k < v) : mxT f l k = mxT f l (k + 1) := by simp only [mxT]; omega
/-- what is fixed while a sentence is put over: its lists, and what they are made of -/
def FxC (I J : Nat → Int → Int) (C : Nat → List Int) (S : Nat) : Prop := Eqv I J ∧ J 32 35 = S ∧ S ≤ 10 ∧ chA J C S ∧ ∀ q : Nat, q < S → (C q).length ≤ 18 ∧ ∀ p ∈ C q, PlO I p
def fch (I : Nat → Int → Int) (b : Int) (p : Option Int) (r : List (List Int)) (q : Int) : Int := tieO I b p q + wv I b r (some q)
theorem wv_f {b : Int} {l : List Int} {r : List (List Int)} (p : Option Int) (h : 0 < l.length) : wv I b (l :: r) p = mxT (fch I b p r) l l.length := wv_1 p h
theorem sfD_len (C : Nat → List Int) (S : Nat) : ∀ d : Nat, (sfD C S d).length = d
  | 0 => rfl
  | d + 1 => by simp only [sfD, List.length_cons]; rw [sfD_len C S d]
theorem wv_B2 (hP : PrW (I 47) (I 48) (I 49) (I 50) (I 32 30)) (b : Int) (C : Nat → List Int) {S d : Nat} (hd : d ≤ 10) (p : Option Int) : 0 ≤ wv I b (sfD C S d) p ∧ wv I b (sfD C S d) p ≤ 1090 := by
  have h := wv_B hP b (sfD C S d) p
  rw [sfD_len] at h
  omega
theorem mxf_B (hP : PrW (I 47) (I 48) (I 49) (I 50) (I 32 30)) (b : Int) (C : Nat → List Int) {S d : Nat} (hd : d ≤ 10) (p : Option Int) (l : List Int) (k : Nat) : 0 ≤ mxT (fch I b p (sfD C S d)) l k ∧ mxT (fch I b p (sfD C S d)) l k ≤ 1199 := by
  refine mxT_B (by omega) k (fun j _ => ?_)
  have h1 := tieO_B hP b p (l.getD j 0)
  have h2 := wv_B2 hP b C (S := S) hd (some (l.getD j 0))
  unfold fch
  omega
set_option maxHeartbeats 2000000 in
theorem ct_X12_from {J : Nat → Int → Int} {C : Nat → List Int} {S i c : Nat} {b : Int} (hn : 57 ≤ n) (hFx : Fx R) (hP : PrW (I 47) (I 48) (I 49) (I 50) (I 32 30)) (hb : inR b) (hF : FxC I J C S) (hi : i < S) (hc : cOk (C i) c) (hM : i + 1 < S → mst I J b C S (i + 1)) (hq : Q (some (vi (wv I b (sfD C S (S - (i + 1))) (opc (C i) c)))) (J, L, R, n)) : Wp mX12_from 0 [some (vr (some 32)), some (vi b), some (vi i), some (vi c), none, none, none, none] [] (J, L, R, n) (0, 0) Q := by
  obtain ⟨hE, hS, hS1, hA, hC⟩ := hF
  have hPJ := PrW_cg hE hP
  have hAi := hA i hi
  have hCi := (hC i hi).1
  have hJi := hAi.1
  rcases Nat.lt_or_ge (i + 1) S with hlt | hge
  · have hAj := hA (i + 1) hlt
    have hCj := (hC (i + 1) hlt).1
    have hJj : J 52 (i + 1) = ((C (i + 1)).length : Int) := hAj.1
    have hMj := hM hlt
    rw [sfD_s hlt] at hq
    rcases Nat.eq_zero_or_pos (C (i + 1)).length with h0 | h0
    · rw [wv_0 _ h0] at hq
      have hv : J 54 (18 * (i + 1) + 0) = wv I b (sfD C S (S - (i + 1 + 1))) none := by have := hMj 0 (Or.inr ⟨rfl, h0⟩); rw [opc_0 0 h0] at this; exact this
      have hvB := wv_B2 hP b C (S := S) (d := S - (i + 1 + 1)) (by omega) none
      have hend : ∀ (v : Int) (x6 x7 : Option AV), v = wv I b (sfD C S (S - (i + 1 + 1))) none → Wp mX12_from 18 [some (vr (some 32)), some (vi b), some (vi i), some (vi c), some (vi v), some (vi (0 + 1)), x6, x7] [] (J, L, R, n) (0, 0) Q := by
        intro v x6 x7 hvv
        refine Wp.iload rfl dX12_from_18 ?_
        refine Wp.aload_n rfl dX12_from_20 ?_
        refine Wp.gr (kz := 38) rfl dX12_from_21 fkX12_83 (by first | rfl | exact kd_b0 _ | exact kd_b1 _ | exact kd_b2 _ | exact kd_b3 _ | exact kd_b4 _ | exact kd_b5 _ | exact kd_b6 _) (by omega) (by first | exact hFx _ 38 _ rfl | assumption | exact hBk.1 | exact hBk.2.1 | exact hBk.2.2.1 | exact hBk.2.2.2.1 | exact hBk.2.2.2.2.1 | exact hBk.2.2.2.2.2) ?_
        refine Wp.iload_n rfl dX12_from_24 ?_
        refine Wp.iconst dX12_from_25 ?_
        refine Wp.iadd dX12_from_26 ?_
        refine Wp.iaload dX12_from_27 (by first | rfl | exact kd_b0 _ | exact kd_b1 _ | exact kd_b2 _ | exact kd_b3 _ | exact kd_b4 _ | exact kd_b5 _ | exact kd_b6 _) (by omega) (by omega) (by omega) ?_
        refine Wp.if_ne (tgt := 35) dX12_from_28 (by decide) (by first | omega | exact bI_R _ | exact cmp_R _ _ | assumption) (fun c28 => ?_) (fun c28 => ?_)
        · refine Wp.aload_n rfl dX12_from_35 ?_
          refine Wp.gr (kz := 38) rfl dX12_from_36 fkX12_83 (by first | rfl | exact kd_b0 _ | exact kd_b1 _ | exact kd_b2 _ | exact kd_b3 _ | exact kd_b4 _ | exact kd_b5 _ | exact kd_b6 _) (by omega) (by first | exact hFx _ 38 _ rfl | assumption | exact hBk.1 | exact hBk.2.1 | exact hBk.2.2.1 | exact hBk.2.2.2.1 | exact hBk.2.2.2.2.1 | exact hBk.2.2.2.2.2) ?_
          refine Wp.iload_n rfl dX12_from_39 ?_
          refine Wp.iconst dX12_from_40 ?_
          refine Wp.iadd dX12_from_41 ?_
          refine Wp.iaload dX12_from_42 (by first | rfl | exact kd_b0 _ | exact kd_b1 _ | exact kd_b2 _ | exact kd_b3 _ | exact kd_b4 _ | exact kd_b5 _ | exact kd_b6 _) (by omega) (by omega) (by omega) ?_
          refine Wp.icmp_ge (tgt := 151) dX12_from_43 (by decide) (by first | omega | exact bI_R _ | exact cmp_R _ _ | assumption) (by first | omega | exact bI_R _ | exact cmp_R _ _ | assumption) (fun c43 => ?_) (fun c43 => ?_)
          · refine Wp.iload rfl dX12_from_151 ?_
            refine Wp.ireturn dX12_from_153 rfl ?_
            first | (exfalso; omega) | (exact qI hq hvv)
          · exfalso; omega
        · refine Wp.iconst dX12_from_31 ?_
          refine Wp.goto (tgt := 43) dX12_from_32 (by decide) ?_
          refine Wp.icmp_ge (tgt := 151) dX12_from_43 (by decide) (by first | omega | exact bI_R _ | exact cmp_R _ _ | assumption) (by first | omega | exact bI_R _ | exact cmp_R _ _ | assumption) (fun c43 => ?_) (fun c43 => ?_)
          · refine Wp.iload rfl dX12_from_151 ?_
            refine Wp.ireturn dX12_from_153 rfl ?_
            first | (exfalso; omega) | (exact qI hq hvv)
          · exfalso; omega
      have hone : Wp mX12_from 18 [some (vr (some 32)), some (vi b), some (vi i), some (vi c), some (vi 0), some (vi 0), none, none] [] (J, L, R, n) (0, 0) Q := by
        skip
        refine Wp.iload rfl dX12_from_18 ?_
        refine Wp.aload_n rfl dX12_from_20 ?_
        refine Wp.gr (kz := 38) rfl dX12_from_21 fkX12_83 (by first | rfl | exact kd_b0 _ | exact kd_b1 _ | exact kd_b2 _ | exact kd_b3 _ | exact kd_b4 _ | exact kd_b5 _ | exact kd_b6 _) (by omega) (by first | exact hFx _ 38 _ rfl | assumption | exact hBk.1 | exact hBk.2.1 | exact hBk.2.2.1 | exact hBk.2.2.2.1 | exact hBk.2.2.2.2.1 | exact hBk.2.2.2.2.2) ?_
        refine Wp.iload_n rfl dX12_from_24 ?_
        refine Wp.iconst dX12_from_25 ?_
        refine Wp.iadd dX12_from_26 ?_
        refine Wp.iaload dX12_from_27 (by first | rfl | exact kd_b0 _ | exact kd_b1 _ | exact kd_b2 _ | exact kd_b3 _ | exact kd_b4 _ | exact kd_b5 _ | exact kd_b6 _) (by omega) (by omega) (by omega) ?_
        refine Wp.if_ne (tgt := 35) dX12_from_28 (by decide) (by first | omega | exact bI_R _ | exact cmp_R _ _ | assumption) (fun c28 => ?_) (fun c28 => ?_)
        · refine Wp.aload_n rfl dX12_from_35 ?_
          refine Wp.gr (kz := 38) rfl dX12_from_36 fkX12_83 (by first | rfl | exact kd_b0 _ | exact kd_b1 _ | exact kd_b2 _ | exact kd_b3 _ | exact kd_b4 _ | exact kd_b5 _ | exact kd_b6 _) (by omega) (by first | exact hFx _ 38 _ rfl | assumption | exact hBk.1 | exact hBk.2.1 | exact hBk.2.2.1 | exact hBk.2.2.2.1 | exact hBk.2.2.2.2.1 | exact hBk.2.2.2.2.2) ?_
          refine Wp.iload_n rfl dX12_from_39 ?_
          refine Wp.iconst dX12_from_40 ?_
          refine Wp.iadd dX12_from_41 ?_
          refine Wp.iaload dX12_from_42 (by first | rfl | exact kd_b0 _ | exact kd_b1 _ | exact kd_b2 _ | exact kd_b3 _ | exact kd_b4 _ | exact kd_b5 _ | exact kd_b6 _) (by omega) (by omega) (by omega) ?_
          refine Wp.icmp_ge (tgt := 151) dX12_from_43 (by decide) (by first | omega | exact bI_R _ | exact cmp_R _ _ | assumption) (by first | omega | exact bI_R _ | exact cmp_R _ _ | assumption) (fun c43 => ?_) (fun c43 => ?_)
          · exfalso; omega
          · refine Wp.aload_n rfl dX12_from_46 ?_
            refine Wp.gr (kz := 38) rfl dX12_from_47 fkX12_83 (by first | rfl | exact kd_b0 _ | exact kd_b1 _ | exact kd_b2 _ | exact kd_b3 _ | exact kd_b4 _ | exact kd_b5 _ | exact kd_b6 _) (by omega) (by first | exact hFx _ 38 _ rfl | assumption | exact hBk.1 | exact hBk.2.1 | exact hBk.2.2.1 | exact hBk.2.2.2.1 | exact hBk.2.2.2.2.1 | exact hBk.2.2.2.2.2) ?_
            refine Wp.iload_n rfl dX12_from_50 ?_
            refine Wp.iaload dX12_from_51 (by first | rfl | exact kd_b0 _ | exact kd_b1 _ | exact kd_b2 _ | exact kd_b3 _ | exact kd_b4 _ | exact kd_b5 _ | exact kd_b6 _) (by omega) (by omega) (by omega) ?_
            refine Wp.if_le (tgt := 70) dX12_from_52 (by decide) (by first | omega | exact bI_R _ | exact cmp_R _ _ | assumption) (fun c52 => ?_) (fun c52 => ?_)
            · refine Wp.iconst dX12_from_70 ?_
              refine Wp.istore (ls' := [_, _, _, _, _, _, _, _]) dX12_from_71 (by decide) rfl ?_
              refine Wp.aload_n rfl dX12_from_73 ?_
              refine Wp.gr (kz := 40) rfl dX12_from_74 fkX12_89 (by first | rfl | exact kd_b0 _ | exact kd_b1 _ | exact kd_b2 _ | exact kd_b3 _ | exact kd_b4 _ | exact kd_b5 _ | exact kd_b6 _) (by omega) (by first | exact hFx _ 40 _ rfl | assumption | exact hBk.1 | exact hBk.2.1 | exact hBk.2.2.1 | exact hBk.2.2.2.1 | exact hBk.2.2.2.2.1 | exact hBk.2.2.2.2.2) ?_
              refine Wp.bipush rfl dX12_from_77 ?_
              refine Wp.iload_n rfl dX12_from_79 ?_
              refine Wp.iconst dX12_from_80 ?_
              refine Wp.iadd dX12_from_81 ?_
              refine Wp.imul dX12_from_82 ?_
              refine Wp.iload rfl dX12_from_83 ?_
              refine Wp.iadd dX12_from_85 ?_
              refine Wp.iaload dX12_from_86 (by first | rfl | exact kd_b0 _ | exact kd_b1 _ | exact kd_b2 _ | exact kd_b3 _ | exact kd_b4 _ | exact kd_b5 _ | exact kd_b6 _) (by omega) (by omega) (by omega) ?_
              refine Wp.iload rfl dX12_from_87 ?_
              refine Wp.if_eq (tgt := 125) dX12_from_89 (by decide) (by first | omega | exact bI_R _ | exact cmp_R _ _ | assumption) (fun c89 => ?_) (fun c89 => ?_)
              · refine Wp.iconst dX12_from_125 ?_
                refine Wp.iadd dX12_from_126 ?_
                refine Wp.istore (ls' := [_, _, _, _, _, _, _, _]) dX12_from_127 (by decide) rfl ?_
                refine Wp.iload rfl dX12_from_129 ?_
                refine Wp.iload rfl dX12_from_131 ?_
                refine Wp.icmp_le (tgt := 141) dX12_from_133 (by decide) (by first | omega | exact bI_R _ | exact cmp_R _ _ | assumption) (by first | omega | exact bI_R _ | exact cmp_R _ _ | assumption) (fun c133 => ?_) (fun c133 => ?_)
                · refine Wp.iload rfl dX12_from_141 ?_
                  refine Wp.istore (ls' := [_, _, _, _, _, _, _, _]) dX12_from_143 (by decide) rfl ?_
                  refine Wp.iinc (ls' := [_, _, _, _, _, _, _, _]) rfl dX12_from_145 (by decide) rfl ?_
                  refine Wp.goto (tgt := 18) dX12_from_148 (by decide) ?_
                  first | exact hend _ _ _ (by omega) | (exfalso; omega)
                · refine Wp.iload rfl dX12_from_136 ?_
                  refine Wp.goto (tgt := 143) dX12_from_138 (by decide) ?_
                  refine Wp.istore (ls' := [_, _, _, _, _, _, _, _]) dX12_from_143 (by decide) rfl ?_
                  refine Wp.iinc (ls' := [_, _, _, _, _, _, _, _]) rfl dX12_from_145 (by decide) rfl ?_
                  refine Wp.goto (tgt := 18) dX12_from_148 (by decide) ?_
                  first | exact hend _ _ _ (by omega) | (exfalso; omega)
              · exfalso; omega
            · refine Wp.aload_n rfl dX12_from_55 ?_
              refine Wp.gr (kz := 38) rfl dX12_from_56 fkX12_83 (by first | rfl | exact kd_b0 _ | exact kd_b1 _ | exact kd_b2 _ | exact kd_b3 _ | exact kd_b4 _ | exact kd_b5 _ | exact kd_b6 _) (by omega) (by first | exact hFx _ 38 _ rfl | assumption | exact hBk.1 | exact hBk.2.1 | exact hBk.2.2.1 | exact hBk.2.2.2.1 | exact hBk.2.2.2.2.1 | exact hBk.2.2.2.2.2) ?_
              refine Wp.iload_n rfl dX12_from_59 ?_
              refine Wp.iconst dX12_from_60 ?_
              refine Wp.iadd dX12_from_61 ?_
              refine Wp.iaload dX12_from_62 (by first | rfl | exact kd_b0 _ | exact kd_b1 _ | exact kd_b2 _ | exact kd_b3 _ | exact kd_b4 _ | exact kd_b5 _ | exact kd_b6 _) (by omega) (by omega) (by omega) ?_
              refine Wp.if_le (tgt := 70) dX12_from_63 (by decide) (by first | omega | exact bI_R _ | exact cmp_R _ _ | assumption) (fun c63 => ?_) (fun c63 => ?_)
              · refine Wp.iconst dX12_from_70 ?_
                refine Wp.istore (ls' := [_, _, _, _, _, _, _, _]) dX12_from_71 (by decide) rfl ?_
                refine Wp.aload_n rfl dX12_from_73 ?_
                refine Wp.gr (kz := 40) rfl dX12_from_74 fkX12_89 (by first | rfl | exact kd_b0 _ | exact kd_b1 _ | exact kd_b2 _ | exact kd_b3 _ | exact kd_b4 _ | exact kd_b5 _ | exact kd_b6 _) (by omega) (by first | exact hFx _ 40 _ rfl | assumption | exact hBk.1 | exact hBk.2.1 | exact hBk.2.2.1 | exact hBk.2.2.2.1 | exact hBk.2.2.2.2.1 | exact hBk.2.2.2.2.2) ?_
                refine Wp.bipush rfl dX12_from_77 ?_
                refine Wp.iload_n rfl dX12_from_79 ?_
                refine Wp.iconst dX12_from_80 ?_
                refine Wp.iadd dX12_from_81 ?_
                refine Wp.imul dX12_from_82 ?_
                refine Wp.iload rfl dX12_from_83 ?_
                refine Wp.iadd dX12_from_85 ?_
                refine Wp.iaload dX12_from_86 (by first | rfl | exact kd_b0 _ | exact kd_b1 _ | exact kd_b2 _ | exact kd_b3 _ | exact kd_b4 _ | exact kd_b5 _ | exact kd_b6 _) (by omega) (by omega) (by omega) ?_
                refine Wp.iload rfl dX12_from_87 ?_
                refine Wp.if_eq (tgt := 125) dX12_from_89 (by decide) (by first | omega | exact bI_R _ | exact cmp_R _ _ | assumption) (fun c89 => ?_) (fun c89 => ?_)
                · refine Wp.iconst dX12_from_125 ?_
                  refine Wp.iadd dX12_from_126 ?_
                  refine Wp.istore (ls' := [_, _, _, _, _, _, _, _]) dX12_from_127 (by decide) rfl ?_
                  refine Wp.iload rfl dX12_from_129 ?_
                  refine Wp.iload rfl dX12_from_131 ?_
                  refine Wp.icmp_le (tgt := 141) dX12_from_133 (by decide) (by first | omega | exact bI_R _ | exact cmp_R _ _ | assumption) (by first | omega | exact bI_R _ | exact cmp_R _ _ | assumption) (fun c133 => ?_) (fun c133 => ?_)
                  · refine Wp.iload rfl dX12_from_141 ?_
                    refine Wp.istore (ls' := [_, _, _, _, _, _, _, _]) dX12_from_143 (by decide) rfl ?_
                    refine Wp.iinc (ls' := [_, _, _, _, _, _, _, _]) rfl dX12_from_145 (by decide) rfl ?_
                    refine Wp.goto (tgt := 18) dX12_from_148 (by decide) ?_
                    first | exact hend _ _ _ (by omega) | (exfalso; omega)
                  · refine Wp.iload rfl dX12_from_136 ?_
                    refine Wp.goto (tgt := 143) dX12_from_138 (by decide) ?_
                    refine Wp.istore (ls' := [_, _, _, _, _, _, _, _]) dX12_from_143 (by decide) rfl ?_
                    refine Wp.iinc (ls' := [_, _, _, _, _, _, _, _]) rfl dX12_from_145 (by decide) rfl ?_
                    refine Wp.goto (tgt := 18) dX12_from_148 (by decide) ?_
                    first | exact hend _ _ _ (by omega) | (exfalso; omega)
                · exfalso; omega
              · refine Wp.iconst dX12_from_66 ?_
                refine Wp.goto (tgt := 71) dX12_from_67 (by decide) ?_
                refine Wp.istore (ls' := [_, _, _, _, _, _, _, _]) dX12_from_71 (by decide) rfl ?_
                refine Wp.aload_n rfl dX12_from_73 ?_
                refine Wp.gr (kz := 40) rfl dX12_from_74 fkX12_89 (by first | rfl | exact kd_b0 _ | exact kd_b1 _ | exact kd_b2 _ | exact kd_b3 _ | exact kd_b4 _ | exact kd_b5 _ | exact kd_b6 _) (by omega) (by first | exact hFx _ 40 _ rfl | assumption | exact hBk.1 | exact hBk.2.1 | exact hBk.2.2.1 | exact hBk.2.2.2.1 | exact hBk.2.2.2.2.1 | exact hBk.2.2.2.2.2) ?_
                refine Wp.bipush rfl dX12_from_77 ?_
                refine Wp.iload_n rfl dX12_from_79 ?_
                refine Wp.iconst dX12_from_80 ?_
                refine Wp.iadd dX12_from_81 ?_
                refine Wp.imul dX12_from_82 ?_
                refine Wp.iload rfl dX12_from_83 ?_
                refine Wp.iadd dX12_from_85 ?_
                refine Wp.iaload dX12_from_86 (by first | rfl | exact kd_b0 _ | exact kd_b1 _ | exact kd_b2 _ | exact kd_b3 _ | exact kd_b4 _ | exact kd_b5 _ | exact kd_b6 _) (by omega) (by omega) (by omega) ?_
                refine Wp.iload rfl dX12_from_87 ?_
                refine Wp.if_eq (tgt := 125) dX12_from_89 (by decide) (by first | omega | exact bI_R _ | exact cmp_R _ _ | assumption) (fun c89 => ?_) (fun c89 => ?_)
                · refine Wp.iconst dX12_from_125 ?_
                  refine Wp.iadd dX12_from_126 ?_
                  refine Wp.istore (ls' := [_, _, _, _, _, _, _, _]) dX12_from_127 (by decide) rfl ?_
                  refine Wp.iload rfl dX12_from_129 ?_
                  refine Wp.iload rfl dX12_from_131 ?_
                  refine Wp.icmp_le (tgt := 141) dX12_from_133 (by decide) (by first | omega | exact bI_R _ | exact cmp_R _ _ | assumption) (by first | omega | exact bI_R _ | exact cmp_R _ _ | assumption) (fun c133 => ?_) (fun c133 => ?_)
                  · refine Wp.iload rfl dX12_from_141 ?_
                    refine Wp.istore (ls' := [_, _, _, _, _, _, _, _]) dX12_from_143 (by decide) rfl ?_
                    refine Wp.iinc (ls' := [_, _, _, _, _, _, _, _]) rfl dX12_from_145 (by decide) rfl ?_
                    refine Wp.goto (tgt := 18) dX12_from_148 (by decide) ?_
                    first | exact hend _ _ _ (by omega) | (exfalso; omega)
                  · refine Wp.iload rfl dX12_from_136 ?_
                    refine Wp.goto (tgt := 143) dX12_from_138 (by decide) ?_
                    refine Wp.istore (ls' := [_, _, _, _, _, _, _, _]) dX12_from_143 (by decide) rfl ?_
                    refine Wp.iinc (ls' := [_, _, _, _, _, _, _, _]) rfl dX12_from_145 (by decide) rfl ?_
                    refine Wp.goto (tgt := 18) dX12_from_148 (by decide) ?_
                    first | exact hend _ _ _ (by omega) | (exfalso; omega)
                · exfalso; omega
        · refine Wp.iconst dX12_from_31 ?_
          refine Wp.goto (tgt := 43) dX12_from_32 (by decide) ?_
          refine Wp.icmp_ge (tgt := 151) dX12_from_43 (by decide) (by first | omega | exact bI_R _ | exact cmp_R _ _ | assumption) (by first | omega | exact bI_R _ | exact cmp_R _ _ | assumption) (fun c43 => ?_) (fun c43 => ?_)
          · exfalso; omega
          · refine Wp.aload_n rfl dX12_from_46 ?_
            refine Wp.gr (kz := 38) rfl dX12_from_47 fkX12_83 (by first | rfl | exact kd_b0 _ | exact kd_b1 _ | exact kd_b2 _ | exact kd_b3 _ | exact kd_b4 _ | exact kd_b5 _ | exact kd_b6 _) (by omega) (by first | exact hFx _ 38 _ rfl | assumption | exact hBk.1 | exact hBk.2.1 | exact hBk.2.2.1 | exact hBk.2.2.2.1 | exact hBk.2.2.2.2.1 | exact hBk.2.2.2.2.2) ?_
            refine Wp.iload_n rfl dX12_from_50 ?_
            refine Wp.iaload dX12_from_51 (by first | rfl | exact kd_b0 _ | exact kd_b1 _ | exact kd_b2 _ | exact kd_b3 _ | exact kd_b4 _ | exact kd_b5 _ | exact kd_b6 _) (by omega) (by omega) (by omega) ?_
            refine Wp.if_le (tgt := 70) dX12_from_52 (by decide) (by first | omega | exact bI_R _ | exact cmp_R _ _ | assumption) (fun c52 => ?_) (fun c52 => ?_)
            · refine Wp.iconst dX12_from_70 ?_
              refine Wp.istore (ls' := [_, _, _, _, _, _, _, _]) dX12_from_71 (by decide) rfl ?_
              refine Wp.aload_n rfl dX12_from_73 ?_
              refine Wp.gr (kz := 40) rfl dX12_from_74 fkX12_89 (by first | rfl | exact kd_b0 _ | exact kd_b1 _ | exact kd_b2 _ | exact kd_b3 _ | exact kd_b4 _ | exact kd_b5 _ | exact kd_b6 _) (by omega) (by first | exact hFx _ 40 _ rfl | assumption | exact hBk.1 | exact hBk.2.1 | exact hBk.2.2.1 | exact hBk.2.2.2.1 | exact hBk.2.2.2.2.1 | exact hBk.2.2.2.2.2) ?_
              refine Wp.bipush rfl dX12_from_77 ?_
              refine Wp.iload_n rfl dX12_from_79 ?_
              refine Wp.iconst dX12_from_80 ?_
              refine Wp.iadd dX12_from_81 ?_
              refine Wp.imul dX12_from_82 ?_
              refine Wp.iload rfl dX12_from_83 ?_
              refine Wp.iadd dX12_from_85 ?_
              refine Wp.iaload dX12_from_86 (by first | rfl | exact kd_b0 _ | exact kd_b1 _ | exact kd_b2 _ | exact kd_b3 _ | exact kd_b4 _ | exact kd_b5 _ | exact kd_b6 _) (by omega) (by omega) (by omega) ?_
              refine Wp.iload rfl dX12_from_87 ?_
              refine Wp.if_eq (tgt := 125) dX12_from_89 (by decide) (by first | omega | exact bI_R _ | exact cmp_R _ _ | assumption) (fun c89 => ?_) (fun c89 => ?_)
              · refine Wp.iconst dX12_from_125 ?_
                refine Wp.iadd dX12_from_126 ?_
                refine Wp.istore (ls' := [_, _, _, _, _, _, _, _]) dX12_from_127 (by decide) rfl ?_
                refine Wp.iload rfl dX12_from_129 ?_
                refine Wp.iload rfl dX12_from_131 ?_
                refine Wp.icmp_le (tgt := 141) dX12_from_133 (by decide) (by first | omega | exact bI_R _ | exact cmp_R _ _ | assumption) (by first | omega | exact bI_R _ | exact cmp_R _ _ | assumption) (fun c133 => ?_) (fun c133 => ?_)
                · refine Wp.iload rfl dX12_from_141 ?_
                  refine Wp.istore (ls' := [_, _, _, _, _, _, _, _]) dX12_from_143 (by decide) rfl ?_
                  refine Wp.iinc (ls' := [_, _, _, _, _, _, _, _]) rfl dX12_from_145 (by decide) rfl ?_
                  refine Wp.goto (tgt := 18) dX12_from_148 (by decide) ?_
                  first | exact hend _ _ _ (by omega) | (exfalso; omega)
                · refine Wp.iload rfl dX12_from_136 ?_
                  refine Wp.goto (tgt := 143) dX12_from_138 (by decide) ?_
                  refine Wp.istore (ls' := [_, _, _, _, _, _, _, _]) dX12_from_143 (by decide) rfl ?_
                  refine Wp.iinc (ls' := [_, _, _, _, _, _, _, _]) rfl dX12_from_145 (by decide) rfl ?_
                  refine Wp.goto (tgt := 18) dX12_from_148 (by decide) ?_
                  first | exact hend _ _ _ (by omega) | (exfalso; omega)
              · exfalso; omega
            · refine Wp.aload_n rfl dX12_from_55 ?_
              refine Wp.gr (kz := 38) rfl dX12_from_56 fkX12_83 (by first | rfl | exact kd_b0 _ | exact kd_b1 _ | exact kd_b2 _ | exact kd_b3 _ | exact kd_b4 _ | exact kd_b5 _ | exact kd_b6 _) (by omega) (by first | exact hFx _ 38 _ rfl | assumption | exact hBk.1 | exact hBk.2.1 | exact hBk.2.2.1 | exact hBk.2.2.2.1 | exact hBk.2.2.2.2.1 | exact hBk.2.2.2.2.2) ?_
              refine Wp.iload_n rfl dX12_from_59 ?_
              refine Wp.iconst dX12_from_60 ?_
              refine Wp.iadd dX12_from_61 ?_
              refine Wp.iaload dX12_from_62 (by first | rfl | exact kd_b0 _ | exact kd_b1 _ | exact kd_b2 _ | exact kd_b3 _ | exact kd_b4 _ | exact kd_b5 _ | exact kd_b6 _) (by omega) (by omega) (by omega) ?_
              refine Wp.if_le (tgt := 70) dX12_from_63 (by decide) (by first | omega | exact bI_R _ | exact cmp_R _ _ | assumption) (fun c63 => ?_) (fun c63 => ?_)
              · refine Wp.iconst dX12_from_70 ?_
                refine Wp.istore (ls' := [_, _, _, _, _, _, _, _]) dX12_from_71 (by decide) rfl ?_
                refine Wp.aload_n rfl dX12_from_73 ?_
                refine Wp.gr (kz := 40) rfl dX12_from_74 fkX12_89 (by first | rfl | exact kd_b0 _ | exact kd_b1 _ | exact kd_b2 _ | exact kd_b3 _ | exact kd_b4 _ | exact kd_b5 _ | exact kd_b6 _) (by omega) (by first | exact hFx _ 40 _ rfl | assumption | exact hBk.1 | exact hBk.2.1 | exact hBk.2.2.1 | exact hBk.2.2.2.1 | exact hBk.2.2.2.2.1 | exact hBk.2.2.2.2.2) ?_
                refine Wp.bipush rfl dX12_from_77 ?_
                refine Wp.iload_n rfl dX12_from_79 ?_
                refine Wp.iconst dX12_from_80 ?_
                refine Wp.iadd dX12_from_81 ?_
                refine Wp.imul dX12_from_82 ?_
                refine Wp.iload rfl dX12_from_83 ?_
                refine Wp.iadd dX12_from_85 ?_
                refine Wp.iaload dX12_from_86 (by first | rfl | exact kd_b0 _ | exact kd_b1 _ | exact kd_b2 _ | exact kd_b3 _ | exact kd_b4 _ | exact kd_b5 _ | exact kd_b6 _) (by omega) (by omega) (by omega) ?_
                refine Wp.iload rfl dX12_from_87 ?_
                refine Wp.if_eq (tgt := 125) dX12_from_89 (by decide) (by first | omega | exact bI_R _ | exact cmp_R _ _ | assumption) (fun c89 => ?_) (fun c89 => ?_)
                · refine Wp.iconst dX12_from_125 ?_
                  refine Wp.iadd dX12_from_126 ?_
                  refine Wp.istore (ls' := [_, _, _, _, _, _, _, _]) dX12_from_127 (by decide) rfl ?_
                  refine Wp.iload rfl dX12_from_129 ?_
                  refine Wp.iload rfl dX12_from_131 ?_
                  refine Wp.icmp_le (tgt := 141) dX12_from_133 (by decide) (by first | omega | exact bI_R _ | exact cmp_R _ _ | assumption) (by first | omega | exact bI_R _ | exact cmp_R _ _ | assumption) (fun c133 => ?_) (fun c133 => ?_)
                  · refine Wp.iload rfl dX12_from_141 ?_
                    refine Wp.istore (ls' := [_, _, _, _, _, _, _, _]) dX12_from_143 (by decide) rfl ?_
                    refine Wp.iinc (ls' := [_, _, _, _, _, _, _, _]) rfl dX12_from_145 (by decide) rfl ?_
                    refine Wp.goto (tgt := 18) dX12_from_148 (by decide) ?_
                    first | exact hend _ _ _ (by omega) | (exfalso; omega)
                  · refine Wp.iload rfl dX12_from_136 ?_
                    refine Wp.goto (tgt := 143) dX12_from_138 (by decide) ?_
                    refine Wp.istore (ls' := [_, _, _, _, _, _, _, _]) dX12_from_143 (by decide) rfl ?_
                    refine Wp.iinc (ls' := [_, _, _, _, _, _, _, _]) rfl dX12_from_145 (by decide) rfl ?_
                    refine Wp.goto (tgt := 18) dX12_from_148 (by decide) ?_
                    first | exact hend _ _ _ (by omega) | (exfalso; omega)
                · exfalso; omega
              · refine Wp.iconst dX12_from_66 ?_
                refine Wp.goto (tgt := 71) dX12_from_67 (by decide) ?_
                refine Wp.istore (ls' := [_, _, _, _, _, _, _, _]) dX12_from_71 (by decide) rfl ?_
                refine Wp.aload_n rfl dX12_from_73 ?_
                refine Wp.gr (kz := 40) rfl dX12_from_74 fkX12_89 (by first | rfl | exact kd_b0 _ | exact kd_b1 _ | exact kd_b2 _ | exact kd_b3 _ | exact kd_b4 _ | exact kd_b5 _ | exact kd_b6 _) (by omega) (by first | exact hFx _ 40 _ rfl | assumption | exact hBk.1 | exact hBk.2.1 | exact hBk.2.2.1 | exact hBk.2.2.2.1 | exact hBk.2.2.2.2.1 | exact hBk.2.2.2.2.2) ?_
                refine Wp.bipush rfl dX12_from_77 ?_
                refine Wp.iload_n rfl dX12_from_79 ?_
                refine Wp.iconst dX12_from_80 ?_
                refine Wp.iadd dX12_from_81 ?_
                refine Wp.imul dX12_from_82 ?_
                refine Wp.iload rfl dX12_from_83 ?_
                refine Wp.iadd dX12_from_85 ?_
                refine Wp.iaload dX12_from_86 (by first | rfl | exact kd_b0 _ | exact kd_b1 _ | exact kd_b2 _ | exact kd_b3 _ | exact kd_b4 _ | exact kd_b5 _ | exact kd_b6 _) (by omega) (by omega) (by omega) ?_
                refine Wp.iload rfl dX12_from_87 ?_
                refine Wp.if_eq (tgt := 125) dX12_from_89 (by decide) (by first | omega | exact bI_R _ | exact cmp_R _ _ | assumption) (fun c89 => ?_) (fun c89 => ?_)
                · refine Wp.iconst dX12_from_125 ?_
                  refine Wp.iadd dX12_from_126 ?_
                  refine Wp.istore (ls' := [_, _, _, _, _, _, _, _]) dX12_from_127 (by decide) rfl ?_
                  refine Wp.iload rfl dX12_from_129 ?_
                  refine Wp.iload rfl dX12_from_131 ?_
                  refine Wp.icmp_le (tgt := 141) dX12_from_133 (by decide) (by first | omega | exact bI_R _ | exact cmp_R _ _ | assumption) (by first | omega | exact bI_R _ | exact cmp_R _ _ | assumption) (fun c133 => ?_) (fun c133 => ?_)
                  · refine Wp.iload rfl dX12_from_141 ?_
                    refine Wp.istore (ls' := [_, _, _, _, _, _, _, _]) dX12_from_143 (by decide) rfl ?_
                    refine Wp.iinc (ls' := [_, _, _, _, _, _, _, _]) rfl dX12_from_145 (by decide) rfl ?_
                    refine Wp.goto (tgt := 18) dX12_from_148 (by decide) ?_
                    first | exact hend _ _ _ (by omega) | (exfalso; omega)
                  · refine Wp.iload rfl dX12_from_136 ?_
                    refine Wp.goto (tgt := 143) dX12_from_138 (by decide) ?_
                    refine Wp.istore (ls' := [_, _, _, _, _, _, _, _]) dX12_from_143 (by decide) rfl ?_
                    refine Wp.iinc (ls' := [_, _, _, _, _, _, _, _]) rfl dX12_from_145 (by decide) rfl ?_
                    refine Wp.goto (tgt := 18) dX12_from_148 (by decide) ?_
                    first | exact hend _ _ _ (by omega) | (exfalso; omega)
                · exfalso; omega
      refine Wp.iload_n rfl dX12_from_0 ?_
      refine Wp.aload_n rfl dX12_from_1 ?_
      refine Wp.gi (kz := 35) rfl dX12_from_2 fkX12_165 (by first | rfl | exact kd_b0 _ | exact kd_b1 _ | exact kd_b2 _ | exact kd_b3 _ | exact kd_b4 _ | exact kd_b5 _ | exact kd_b6 _) (by omega) ?_
      refine Wp.iconst dX12_from_5 ?_
      refine Wp.isub dX12_from_6 ?_
      refine Wp.icmp_ne (tgt := 12) dX12_from_7 (by decide) (by first | omega | exact bI_R _ | exact cmp_R _ _ | assumption) (by first | omega | exact bI_R _ | exact cmp_R _ _ | assumption) (fun c7 => ?_) (fun c7 => ?_)
      · refine Wp.iconst dX12_from_12 ?_
        refine Wp.istore (ls' := [_, _, _, _, _, _, _, _]) dX12_from_13 (by decide) rfl ?_
        refine Wp.iconst dX12_from_15 ?_
        refine Wp.istore (ls' := [_, _, _, _, _, _, _, _]) dX12_from_16 (by decide) rfl ?_
        exact hone
      · refine Wp.iconst dX12_from_10 ?_
        refine Wp.ireturn dX12_from_11 rfl ?_
        first | (exfalso; omega) | (exfalso; omega)
    · rw [wv_f _ h0] at hq
      have lp : ∀ (tt k : Nat) (z : Int) (acc : Int) (x6 : Option AV) (x7 : Option AV), k + tt = (C (i + 1)).length → z = k → acc = mxT (fch I b (opc (C i) c) (sfD C S (S - (i + 1 + 1)))) (C (i + 1)) k → Wp mX12_from 18 [some (vr (some 32)), some (vi b), some (vi i), some (vi c), some (vi acc), some (vi z), x6, x7] [] (J, L, R, n) (0, 0) Q := by
        intro tt
        induction tt with
        | zero =>
          intro k z acc x6 x7 hkt hz e0
          obtain rfl : k = (C (i + 1)).length := by omega
          refine Wp.iload rfl dX12_from_18 ?_
          refine Wp.aload_n rfl dX12_from_20 ?_
          refine Wp.gr (kz := 38) rfl dX12_from_21 fkX12_83 (by first | rfl | exact kd_b0 _ | exact kd_b1 _ | exact kd_b2 _ | exact kd_b3 _ | exact kd_b4 _ | exact kd_b5 _ | exact kd_b6 _) (by omega) (by first | exact hFx _ 38 _ rfl | assumption | exact hBk.1 | exact hBk.2.1 | exact hBk.2.2.1 | exact hBk.2.2.2.1 | exact hBk.2.2.2.2.1 | exact hBk.2.2.2.2.2) ?_
          refine Wp.iload_n rfl dX12_from_24 ?_
          refine Wp.iconst dX12_from_25 ?_
          refine Wp.iadd dX12_from_26 ?_
          refine Wp.iaload dX12_from_27 (by first | rfl | exact kd_b0 _ | exact kd_b1 _ | exact kd_b2 _ | exact kd_b3 _ | exact kd_b4 _ | exact kd_b5 _ | exact kd_b6 _) (by omega) (by omega) (by omega) ?_
          refine Wp.if_ne (tgt := 35) dX12_from_28 (by decide) (by first | omega | exact bI_R _ | exact cmp_R _ _ | assumption) (fun c28 => ?_) (fun c28 => ?_)
          · refine Wp.aload_n rfl dX12_from_35 ?_
            refine Wp.gr (kz := 38) rfl dX12_from_36 fkX12_83 (by first | rfl | exact kd_b0 _ | exact kd_b1 _ | exact kd_b2 _ | exact kd_b3 _ | exact kd_b4 _ | exact kd_b5 _ | exact kd_b6 _) (by omega) (by first | exact hFx _ 38 _ rfl | assumption | exact hBk.1 | exact hBk.2.1 | exact hBk.2.2.1 | exact hBk.2.2.2.1 | exact hBk.2.2.2.2.1 | exact hBk.2.2.2.2.2) ?_
            refine Wp.iload_n rfl dX12_from_39 ?_
            refine Wp.iconst dX12_from_40 ?_
            refine Wp.iadd dX12_from_41 ?_
            refine Wp.iaload dX12_from_42 (by first | rfl | exact kd_b0 _ | exact kd_b1 _ | exact kd_b2 _ | exact kd_b3 _ | exact kd_b4 _ | exact kd_b5 _ | exact kd_b6 _) (by omega) (by omega) (by omega) ?_
            refine Wp.icmp_ge (tgt := 151) dX12_from_43 (by decide) (by first | omega | exact bI_R _ | exact cmp_R _ _ | assumption) (by first | omega | exact bI_R _ | exact cmp_R _ _ | assumption) (fun c43 => ?_) (fun c43 => ?_)
            · refine Wp.iload rfl dX12_from_151 ?_
              refine Wp.ireturn dX12_from_153 rfl ?_
              first | (exfalso; omega) | (exact qI hq e0)
            · exfalso; omega
          · refine Wp.iconst dX12_from_31 ?_
            refine Wp.goto (tgt := 43) dX12_from_32 (by decide) ?_
            refine Wp.icmp_ge (tgt := 151) dX12_from_43 (by decide) (by first | omega | exact bI_R _ | exact cmp_R _ _ | assumption) (by first | omega | exact bI_R _ | exact cmp_R _ _ | assumption) (fun c43 => ?_) (fun c43 => ?_)
            · refine Wp.iload rfl dX12_from_151 ?_
              refine Wp.ireturn dX12_from_153 rfl ?_
              first | (exfalso; omega) | (exact qI hq e0)
            · exfalso; omega
        | succ tt ih =>
          intro k z acc x6 x7 hkt hz e0
          subst hz
          subst e0
          have hmk : J 54 (18 * (i + 1) + k) = wv I b (sfD C S (S - (i + 1 + 1))) (some ((C (i + 1)).getD k 0)) := by have := hMj k (Or.inl (by omega)); rw [opc_1 h0] at this; exact this
          have hck : J 53 (18 * (i + 1) + k) = (C (i + 1)).getD k 0 := hAj.2 k (by omega)
          have hwB := wv_B2 hP b C (S := S) (d := S - (i + 1 + 1)) (by omega) (some ((C (i + 1)).getD k 0))
          have htB := tieP_B hP b ((C i).getD c 0) ((C (i + 1)).getD k 0)
          have haB := mxf_B hP b C (S := S) (d := S - (i + 1 + 1)) (by omega) (opc (C i) c) (C (i + 1)) k
          have hv1 : 0 < (C i).length → J 54 (18 * (i + 1) + k) + tieP I b ((C i).getD c 0) ((C (i + 1)).getD k 0) = fch I b (opc (C i) c) (sfD C S (S - (i + 1 + 1))) ((C (i + 1)).getD k 0) := fun h => by unfold fch; rw [hmk, opc_1 h]; exact Int.add_comm _ _
          have hv0 : (C i).length = 0 → J 54 (18 * (i + 1) + k) + 0 = fch I b (opc (C i) c) (sfD C S (S - (i + 1 + 1))) ((C (i + 1)).getD k 0) := fun h => by unfold fch; rw [hmk, opc_0 c h]; exact Int.add_comm _ _
          refine Wp.iload rfl dX12_from_18 ?_
          refine Wp.aload_n rfl dX12_from_20 ?_
          refine Wp.gr (kz := 38) rfl dX12_from_21 fkX12_83 (by first | rfl | exact kd_b0 _ | exact kd_b1 _ | exact kd_b2 _ | exact kd_b3 _ | exact kd_b4 _ | exact kd_b5 _ | exact kd_b6 _) (by omega) (by first | exact hFx _ 38 _ rfl | assumption | exact hBk.1 | exact hBk.2.1 | exact hBk.2.2.1 | exact hBk.2.2.2.1 | exact hBk.2.2.2.2.1 | exact hBk.2.2.2.2.2) ?_
          refine Wp.iload_n rfl dX12_from_24 ?_
          refine Wp.iconst dX12_from_25 ?_
          refine Wp.iadd dX12_from_26 ?_
          refine Wp.iaload dX12_from_27 (by first | rfl | exact kd_b0 _ | exact kd_b1 _ | exact kd_b2 _ | exact kd_b3 _ | exact kd_b4 _ | exact kd_b5 _ | exact kd_b6 _) (by omega) (by omega) (by omega) ?_
          refine Wp.if_ne (tgt := 35) dX12_from_28 (by decide) (by first | omega | exact bI_R _ | exact cmp_R _ _ | assumption) (fun c28 => ?_) (fun c28 => ?_)
          · refine Wp.aload_n rfl dX12_from_35 ?_
            refine Wp.gr (kz := 38) rfl dX12_from_36 fkX12_83 (by first | rfl | exact kd_b0 _ | exact kd_b1 _ | exact kd_b2 _ | exact kd_b3 _ | exact kd_b4 _ | exact kd_b5 _ | exact kd_b6 _) (by omega) (by first | exact hFx _ 38 _ rfl | assumption | exact hBk.1 | exact hBk.2.1 | exact hBk.2.2.1 | exact hBk.2.2.2.1 | exact hBk.2.2.2.2.1 | exact hBk.2.2.2.2.2) ?_
            refine Wp.iload_n rfl dX12_from_39 ?_
            refine Wp.iconst dX12_from_40 ?_
            refine Wp.iadd dX12_from_41 ?_
            refine Wp.iaload dX12_from_42 (by first | rfl | exact kd_b0 _ | exact kd_b1 _ | exact kd_b2 _ | exact kd_b3 _ | exact kd_b4 _ | exact kd_b5 _ | exact kd_b6 _) (by omega) (by omega) (by omega) ?_
            refine Wp.icmp_ge (tgt := 151) dX12_from_43 (by decide) (by first | omega | exact bI_R _ | exact cmp_R _ _ | assumption) (by first | omega | exact bI_R _ | exact cmp_R _ _ | assumption) (fun c43 => ?_) (fun c43 => ?_)
            · exfalso; omega
            · refine Wp.aload_n rfl dX12_from_46 ?_
              refine Wp.gr (kz := 38) rfl dX12_from_47 fkX12_83 (by first | rfl | exact kd_b0 _ | exact kd_b1 _ | exact kd_b2 _ | exact kd_b3 _ | exact kd_b4 _ | exact kd_b5 _ | exact kd_b6 _) (by omega) (by first | exact hFx _ 38 _ rfl | assumption | exact hBk.1 | exact hBk.2.1 | exact hBk.2.2.1 | exact hBk.2.2.2.1 | exact hBk.2.2.2.2.1 | exact hBk.2.2.2.2.2) ?_
              refine Wp.iload_n rfl dX12_from_50 ?_
              refine Wp.iaload dX12_from_51 (by first | rfl | exact kd_b0 _ | exact kd_b1 _ | exact kd_b2 _ | exact kd_b3 _ | exact kd_b4 _ | exact kd_b5 _ | exact kd_b6 _) (by omega) (by omega) (by omega) ?_
              refine Wp.if_le (tgt := 70) dX12_from_52 (by decide) (by first | omega | exact bI_R _ | exact cmp_R _ _ | assumption) (fun c52 => ?_) (fun c52 => ?_)
              · refine Wp.iconst dX12_from_70 ?_
                refine Wp.istore (ls' := [_, _, _, _, _, _, _, _]) dX12_from_71 (by decide) rfl ?_
                refine Wp.aload_n rfl dX12_from_73 ?_
                refine Wp.gr (kz := 40) rfl dX12_from_74 fkX12_89 (by first | rfl | exact kd_b0 _ | exact kd_b1 _ | exact kd_b2 _ | exact kd_b3 _ | exact kd_b4 _ | exact kd_b5 _ | exact kd_b6 _) (by omega) (by first | exact hFx _ 40 _ rfl | assumption | exact hBk.1 | exact hBk.2.1 | exact hBk.2.2.1 | exact hBk.2.2.2.1 | exact hBk.2.2.2.2.1 | exact hBk.2.2.2.2.2) ?_
                refine Wp.bipush rfl dX12_from_77 ?_
                refine Wp.iload_n rfl dX12_from_79 ?_
                refine Wp.iconst dX12_from_80 ?_
                refine Wp.iadd dX12_from_81 ?_
                refine Wp.imul dX12_from_82 ?_
                refine Wp.iload rfl dX12_from_83 ?_
                refine Wp.iadd dX12_from_85 ?_
                refine Wp.iaload dX12_from_86 (by first | rfl | exact kd_b0 _ | exact kd_b1 _ | exact kd_b2 _ | exact kd_b3 _ | exact kd_b4 _ | exact kd_b5 _ | exact kd_b6 _) (by omega) (by omega) (by omega) ?_
                refine Wp.iload rfl dX12_from_87 ?_
                refine Wp.if_eq (tgt := 125) dX12_from_89 (by decide) (by first | omega | exact bI_R _ | exact cmp_R _ _ | assumption) (fun c89 => ?_) (fun c89 => ?_)
                · refine Wp.iconst dX12_from_125 ?_
                  refine Wp.iadd dX12_from_126 ?_
                  refine Wp.istore (ls' := [_, _, _, _, _, _, _, _]) dX12_from_127 (by decide) rfl ?_
                  refine Wp.iload rfl dX12_from_129 ?_
                  refine Wp.iload rfl dX12_from_131 ?_
                  refine Wp.icmp_le (tgt := 141) dX12_from_133 (by decide) (by first | omega | exact bI_R _ | exact cmp_R _ _ | assumption) (by first | omega | exact bI_R _ | exact cmp_R _ _ | assumption) (fun c133 => ?_) (fun c133 => ?_)
                  · refine Wp.iload rfl dX12_from_141 ?_
                    refine Wp.istore (ls' := [_, _, _, _, _, _, _, _]) dX12_from_143 (by decide) rfl ?_
                    refine Wp.iinc (ls' := [_, _, _, _, _, _, _, _]) rfl dX12_from_145 (by decide) rfl ?_
                    refine Wp.goto (tgt := 18) dX12_from_148 (by decide) ?_
                    first | exact ih (k + 1) _ _ _ _ (by omega) (by omega) (mxT_t (hv1 (by omega)) (by omega)) | exact ih (k + 1) _ _ _ _ (by omega) (by omega) (mxT_f (hv1 (by omega)) (by omega)) | exact ih (k + 1) _ _ _ _ (by omega) (by omega) (mxT_t (hv0 (by omega)) (by omega)) | exact ih (k + 1) _ _ _ _ (by omega) (by omega) (mxT_f (hv0 (by omega)) (by omega)) | (exfalso; omega)
                  · refine Wp.iload rfl dX12_from_136 ?_
                    refine Wp.goto (tgt := 143) dX12_from_138 (by decide) ?_
                    refine Wp.istore (ls' := [_, _, _, _, _, _, _, _]) dX12_from_143 (by decide) rfl ?_
                    refine Wp.iinc (ls' := [_, _, _, _, _, _, _, _]) rfl dX12_from_145 (by decide) rfl ?_
                    refine Wp.goto (tgt := 18) dX12_from_148 (by decide) ?_
                    first | exact ih (k + 1) _ _ _ _ (by omega) (by omega) (mxT_t (hv1 (by omega)) (by omega)) | exact ih (k + 1) _ _ _ _ (by omega) (by omega) (mxT_f (hv1 (by omega)) (by omega)) | exact ih (k + 1) _ _ _ _ (by omega) (by omega) (mxT_t (hv0 (by omega)) (by omega)) | exact ih (k + 1) _ _ _ _ (by omega) (by omega) (mxT_f (hv0 (by omega)) (by omega)) | (exfalso; omega)
                · refine Wp.aload_n rfl dX12_from_92 ?_
                  refine Wp.iload_n rfl dX12_from_93 ?_
                  refine Wp.aload_n rfl dX12_from_94 ?_
                  refine Wp.gr (kz := 39) rfl dX12_from_95 fkX12_86 (by first | rfl | exact kd_b0 _ | exact kd_b1 _ | exact kd_b2 _ | exact kd_b3 _ | exact kd_b4 _ | exact kd_b5 _ | exact kd_b6 _) (by omega) (by first | exact hFx _ 39 _ rfl | assumption | exact hBk.1 | exact hBk.2.1 | exact hBk.2.2.1 | exact hBk.2.2.2.1 | exact hBk.2.2.2.2.1 | exact hBk.2.2.2.2.2) ?_
                  refine Wp.bipush rfl dX12_from_98 ?_
                  refine Wp.iload_n rfl dX12_from_100 ?_
                  refine Wp.imul dX12_from_101 ?_
                  refine Wp.iload_n rfl dX12_from_102 ?_
                  refine Wp.iadd dX12_from_103 ?_
                  refine Wp.iaload dX12_from_104 (by first | rfl | exact kd_b0 _ | exact kd_b1 _ | exact kd_b2 _ | exact kd_b3 _ | exact kd_b4 _ | exact kd_b5 _ | exact kd_b6 _) (by omega) (by omega) (by omega) ?_
                  refine Wp.aload_n rfl dX12_from_105 ?_
                  refine Wp.gr (kz := 39) rfl dX12_from_106 fkX12_86 (by first | rfl | exact kd_b0 _ | exact kd_b1 _ | exact kd_b2 _ | exact kd_b3 _ | exact kd_b4 _ | exact kd_b5 _ | exact kd_b6 _) (by omega) (by first | exact hFx _ 39 _ rfl | assumption | exact hBk.1 | exact hBk.2.1 | exact hBk.2.2.1 | exact hBk.2.2.2.1 | exact hBk.2.2.2.2.1 | exact hBk.2.2.2.2.2) ?_
                  refine Wp.bipush rfl dX12_from_109 ?_
                  refine Wp.iload_n rfl dX12_from_111 ?_
                  refine Wp.iconst dX12_from_112 ?_
                  refine Wp.iadd dX12_from_113 ?_
                  refine Wp.imul dX12_from_114 ?_
                  refine Wp.iload rfl dX12_from_115 ?_
                  refine Wp.iadd dX12_from_117 ?_
                  refine Wp.iaload dX12_from_118 (by first | rfl | exact kd_b0 _ | exact kd_b1 _ | exact kd_b2 _ | exact kd_b3 _ | exact kd_b4 _ | exact kd_b5 _ | exact kd_b6 _) (by omega) (by omega) (by omega) ?_
                  refine Wp.callV (As := [_, _, _]) (ls0 := [_, _, _, _, _, _]) (bd := (0, 0)) (bd' := (0, 0)) dX12_from_119 kmX12_bring lkX12_260 (by decide) (by decide) (Nat.le_of_ble_eq_true rfl) (by first | rfl | exact kd_b0 _ | exact kd_b1 _ | exact kd_b2 _ | exact kd_b3 _ | exact kd_b4 _ | exact kd_b5 _ | exact kd_b6 _) (by omega) rfl rfl (Nat.le_of_ble_eq_true rfl) rfl ?_
                  have hpos : 0 < (C i).length := by omega
                  have hci : J 53 (18 * i + c) = (C i).getD c 0 := hAi.2 c (by omega)
                  rw [hci, hck]
                  refine ct_X12_bring hn hFx hPJ hb (PlO_cg hE ((hC i hi).2 _ (getD_mem (by omega)))) (PlO_cg hE ((hC _ hlt).2 _ (getD_mem (by omega)))) ?_
                  rw [tieP_cg hE]
                  show Wp _ _ _ (_ :: _) _ _ _
                  refine Wp.goto (tgt := 126) dX12_from_122 (by decide) ?_
                  refine Wp.iadd dX12_from_126 ?_
                  refine Wp.istore (ls' := [_, _, _, _, _, _, _, _]) dX12_from_127 (by decide) rfl ?_
                  refine Wp.iload rfl dX12_from_129 ?_
                  refine Wp.iload rfl dX12_from_131 ?_
                  refine Wp.icmp_le (tgt := 141) dX12_from_133 (by decide) (by first | omega | exact bI_R _ | exact cmp_R _ _ | assumption) (by first | omega | exact bI_R _ | exact cmp_R _ _ | assumption) (fun c133 => ?_) (fun c133 => ?_)
                  · refine Wp.iload rfl dX12_from_141 ?_
                    refine Wp.istore (ls' := [_, _, _, _, _, _, _, _]) dX12_from_143 (by decide) rfl ?_
                    refine Wp.iinc (ls' := [_, _, _, _, _, _, _, _]) rfl dX12_from_145 (by decide) rfl ?_
                    refine Wp.goto (tgt := 18) dX12_from_148 (by decide) ?_
                    first | exact ih (k + 1) _ _ _ _ (by omega) (by omega) (mxT_t (hv1 (by omega)) (by omega)) | exact ih (k + 1) _ _ _ _ (by omega) (by omega) (mxT_f (hv1 (by omega)) (by omega)) | exact ih (k + 1) _ _ _ _ (by omega) (by omega) (mxT_t (hv0 (by omega)) (by omega)) | exact ih (k + 1) _ _ _ _ (by omega) (by omega) (mxT_f (hv0 (by omega)) (by omega)) | (exfalso; omega)
                  · refine Wp.iload rfl dX12_from_136 ?_
                    refine Wp.goto (tgt := 143) dX12_from_138 (by decide) ?_
                    refine Wp.istore (ls' := [_, _, _, _, _, _, _, _]) dX12_from_143 (by decide) rfl ?_
                    refine Wp.iinc (ls' := [_, _, _, _, _, _, _, _]) rfl dX12_from_145 (by decide) rfl ?_
                    refine Wp.goto (tgt := 18) dX12_from_148 (by decide) ?_
                    first | exact ih (k + 1) _ _ _ _ (by omega) (by omega) (mxT_t (hv1 (by omega)) (by omega)) | exact ih (k + 1) _ _ _ _ (by omega) (by omega) (mxT_f (hv1 (by omega)) (by omega)) | exact ih (k + 1) _ _ _ _ (by omega) (by omega) (mxT_t (hv0 (by omega)) (by omega)) | exact ih (k + 1) _ _ _ _ (by omega) (by omega) (mxT_f (hv0 (by omega)) (by omega)) | (exfalso; omega)
              · refine Wp.aload_n rfl dX12_from_55 ?_
                refine Wp.gr (kz := 38) rfl dX12_from_56 fkX12_83 (by first | rfl | exact kd_b0 _ | exact kd_b1 _ | exact kd_b2 _ | exact kd_b3 _ | exact kd_b4 _ | exact kd_b5 _ | exact kd_b6 _) (by omega) (by first | exact hFx _ 38 _ rfl | assumption | exact hBk.1 | exact hBk.2.1 | exact hBk.2.2.1 | exact hBk.2.2.2.1 | exact hBk.2.2.2.2.1 | exact hBk.2.2.2.2.2) ?_
                refine Wp.iload_n rfl dX12_from_59 ?_
                refine Wp.iconst dX12_from_60 ?_
                refine Wp.iadd dX12_from_61 ?_
                refine Wp.iaload dX12_from_62 (by first | rfl | exact kd_b0 _ | exact kd_b1 _ | exact kd_b2 _ | exact kd_b3 _ | exact kd_b4 _ | exact kd_b5 _ | exact kd_b6 _) (by omega) (by omega) (by omega) ?_
                refine Wp.if_le (tgt := 70) dX12_from_63 (by decide) (by first | omega | exact bI_R _ | exact cmp_R _ _ | assumption) (fun c63 => ?_) (fun c63 => ?_)
                · refine Wp.iconst dX12_from_70 ?_
                  refine Wp.istore (ls' := [_, _, _, _, _, _, _, _]) dX12_from_71 (by decide) rfl ?_
                  refine Wp.aload_n rfl dX12_from_73 ?_
                  refine Wp.gr (kz := 40) rfl dX12_from_74 fkX12_89 (by first | rfl | exact kd_b0 _ | exact kd_b1 _ | exact kd_b2 _ | exact kd_b3 _ | exact kd_b4 _ | exact kd_b5 _ | exact kd_b6 _) (by omega) (by first | exact hFx _ 40 _ rfl | assumption | exact hBk.1 | exact hBk.2.1 | exact hBk.2.2.1 | exact hBk.2.2.2.1 | exact hBk.2.2.2.2.1 | exact hBk.2.2.2.2.2) ?_
                  refine Wp.bipush rfl dX12_from_77 ?_
                  refine Wp.iload_n rfl dX12_from_79 ?_
                  refine Wp.iconst dX12_from_80 ?_
                  refine Wp.iadd dX12_from_81 ?_
                  refine Wp.imul dX12_from_82 ?_
                  refine Wp.iload rfl dX12_from_83 ?_
                  refine Wp.iadd dX12_from_85 ?_
                  refine Wp.iaload dX12_from_86 (by first | rfl | exact kd_b0 _ | exact kd_b1 _ | exact kd_b2 _ | exact kd_b3 _ | exact kd_b4 _ | exact kd_b5 _ | exact kd_b6 _) (by omega) (by omega) (by omega) ?_
                  refine Wp.iload rfl dX12_from_87 ?_
                  refine Wp.if_eq (tgt := 125) dX12_from_89 (by decide) (by first | omega | exact bI_R _ | exact cmp_R _ _ | assumption) (fun c89 => ?_) (fun c89 => ?_)
                  · refine Wp.iconst dX12_from_125 ?_
                    refine Wp.iadd dX12_from_126 ?_
                    refine Wp.istore (ls' := [_, _, _, _, _, _, _, _]) dX12_from_127 (by decide) rfl ?_
                    refine Wp.iload rfl dX12_from_129 ?_
                    refine Wp.iload rfl dX12_from_131 ?_
                    refine Wp.icmp_le (tgt := 141) dX12_from_133 (by decide) (by first | omega | exact bI_R _ | exact cmp_R _ _ | assumption) (by first | omega | exact bI_R _ | exact cmp_R _ _ | assumption) (fun c133 => ?_) (fun c133 => ?_)
                    · refine Wp.iload rfl dX12_from_141 ?_
                      refine Wp.istore (ls' := [_, _, _, _, _, _, _, _]) dX12_from_143 (by decide) rfl ?_
                      refine Wp.iinc (ls' := [_, _, _, _, _, _, _, _]) rfl dX12_from_145 (by decide) rfl ?_
                      refine Wp.goto (tgt := 18) dX12_from_148 (by decide) ?_
                      first | exact ih (k + 1) _ _ _ _ (by omega) (by omega) (mxT_t (hv1 (by omega)) (by omega)) | exact ih (k + 1) _ _ _ _ (by omega) (by omega) (mxT_f (hv1 (by omega)) (by omega)) | exact ih (k + 1) _ _ _ _ (by omega) (by omega) (mxT_t (hv0 (by omega)) (by omega)) | exact ih (k + 1) _ _ _ _ (by omega) (by omega) (mxT_f (hv0 (by omega)) (by omega)) | (exfalso; omega)
                    · refine Wp.iload rfl dX12_from_136 ?_
                      refine Wp.goto (tgt := 143) dX12_from_138 (by decide) ?_
                      refine Wp.istore (ls' := [_, _, _, _, _, _, _, _]) dX12_from_143 (by decide) rfl ?_
                      refine Wp.iinc (ls' := [_, _, _, _, _, _, _, _]) rfl dX12_from_145 (by decide) rfl ?_
                      refine Wp.goto (tgt := 18) dX12_from_148 (by decide) ?_
                      first | exact ih (k + 1) _ _ _ _ (by omega) (by omega) (mxT_t (hv1 (by omega)) (by omega)) | exact ih (k + 1) _ _ _ _ (by omega) (by omega) (mxT_f (hv1 (by omega)) (by omega)) | exact ih (k + 1) _ _ _ _ (by omega) (by omega) (mxT_t (hv0 (by omega)) (by omega)) | exact ih (k + 1) _ _ _ _ (by omega) (by omega) (mxT_f (hv0 (by omega)) (by omega)) | (exfalso; omega)
                  · refine Wp.aload_n rfl dX12_from_92 ?_
                    refine Wp.iload_n rfl dX12_from_93 ?_
                    refine Wp.aload_n rfl dX12_from_94 ?_
                    refine Wp.gr (kz := 39) rfl dX12_from_95 fkX12_86 (by first | rfl | exact kd_b0 _ | exact kd_b1 _ | exact kd_b2 _ | exact kd_b3 _ | exact kd_b4 _ | exact kd_b5 _ | exact kd_b6 _) (by omega) (by first | exact hFx _ 39 _ rfl | assumption | exact hBk.1 | exact hBk.2.1 | exact hBk.2.2.1 | exact hBk.2.2.2.1 | exact hBk.2.2.2.2.1 | exact hBk.2.2.2.2.2) ?_
                    refine Wp.bipush rfl dX12_from_98 ?_
                    refine Wp.iload_n rfl dX12_from_100 ?_
                    refine Wp.imul dX12_from_101 ?_
                    refine Wp.iload_n rfl dX12_from_102 ?_
                    refine Wp.iadd dX12_from_103 ?_
                    refine Wp.iaload dX12_from_104 (by first | rfl | exact kd_b0 _ | exact kd_b1 _ | exact kd_b2 _ | exact kd_b3 _ | exact kd_b4 _ | exact kd_b5 _ | exact kd_b6 _) (by omega) (by omega) (by omega) ?_
                    refine Wp.aload_n rfl dX12_from_105 ?_
                    refine Wp.gr (kz := 39) rfl dX12_from_106 fkX12_86 (by first | rfl | exact kd_b0 _ | exact kd_b1 _ | exact kd_b2 _ | exact kd_b3 _ | exact kd_b4 _ | exact kd_b5 _ | exact kd_b6 _) (by omega) (by first | exact hFx _ 39 _ rfl | assumption | exact hBk.1 | exact hBk.2.1 | exact hBk.2.2.1 | exact hBk.2.2.2.1 | exact hBk.2.2.2.2.1 | exact hBk.2.2.2.2.2) ?_
                    refine Wp.bipush rfl dX12_from_109 ?_
                    refine Wp.iload_n rfl dX12_from_111 ?_
                    refine Wp.iconst dX12_from_112 ?_
                    refine Wp.iadd dX12_from_113 ?_
                    refine Wp.imul dX12_from_114 ?_
                    refine Wp.iload rfl dX12_from_115 ?_
                    refine Wp.iadd dX12_from_117 ?_
                    refine Wp.iaload dX12_from_118 (by first | rfl | exact kd_b0 _ | exact kd_b1 _ | exact kd_b2 _ | exact kd_b3 _ | exact kd_b4 _ | exact kd_b5 _ | exact kd_b6 _) (by omega) (by omega) (by omega) ?_
                    refine Wp.callV (As := [_, _, _]) (ls0 := [_, _, _, _, _, _]) (bd := (0, 0)) (bd' := (0, 0)) dX12_from_119 kmX12_bring lkX12_260 (by decide) (by decide) (Nat.le_of_ble_eq_true rfl) (by first | rfl | exact kd_b0 _ | exact kd_b1 _ | exact kd_b2 _ | exact kd_b3 _ | exact kd_b4 _ | exact kd_b5 _ | exact kd_b6 _) (by omega) rfl rfl (Nat.le_of_ble_eq_true rfl) rfl ?_
                    have hpos : 0 < (C i).length := by omega
                    have hci : J 53 (18 * i + c) = (C i).getD c 0 := hAi.2 c (by omega)
                    rw [hci, hck]
                    refine ct_X12_bring hn hFx hPJ hb (PlO_cg hE ((hC i hi).2 _ (getD_mem (by omega)))) (PlO_cg hE ((hC _ hlt).2 _ (getD_mem (by omega)))) ?_
                    rw [tieP_cg hE]
                    show Wp _ _ _ (_ :: _) _ _ _
                    refine Wp.goto (tgt := 126) dX12_from_122 (by decide) ?_
                    refine Wp.iadd dX12_from_126 ?_
                    refine Wp.istore (ls' := [_, _, _, _, _, _, _, _]) dX12_from_127 (by decide) rfl ?_
                    refine Wp.iload rfl dX12_from_129 ?_
                    refine Wp.iload rfl dX12_from_131 ?_
                    refine Wp.icmp_le (tgt := 141) dX12_from_133 (by decide) (by first | omega | exact bI_R _ | exact cmp_R _ _ | assumption) (by first | omega | exact bI_R _ | exact cmp_R _ _ | assumption) (fun c133 => ?_) (fun c133 => ?_)
                    · refine Wp.iload rfl dX12_from_141 ?_
                      refine Wp.istore (ls' := [_, _, _, _, _, _, _, _]) dX12_from_143 (by decide) rfl ?_
                      refine Wp.iinc (ls' := [_, _, _, _, _, _, _, _]) rfl dX12_from_145 (by decide) rfl ?_
                      refine Wp.goto (tgt := 18) dX12_from_148 (by decide) ?_
                      first | exact ih (k + 1) _ _ _ _ (by omega) (by omega) (mxT_t (hv1 (by omega)) (by omega)) | exact ih (k + 1) _ _ _ _ (by omega) (by omega) (mxT_f (hv1 (by omega)) (by omega)) | exact ih (k + 1) _ _ _ _ (by omega) (by omega) (mxT_t (hv0 (by omega)) (by omega)) | exact ih (k + 1) _ _ _ _ (by omega) (by omega) (mxT_f (hv0 (by omega)) (by omega)) | (exfalso; omega)
                    · refine Wp.iload rfl dX12_from_136 ?_
                      refine Wp.goto (tgt := 143) dX12_from_138 (by decide) ?_
                      refine Wp.istore (ls' := [_, _, _, _, _, _, _, _]) dX12_from_143 (by decide) rfl ?_
                      refine Wp.iinc (ls' := [_, _, _, _, _, _, _, _]) rfl dX12_from_145 (by decide) rfl ?_
                      refine Wp.goto (tgt := 18) dX12_from_148 (by decide) ?_
                      first | exact ih (k + 1) _ _ _ _ (by omega) (by omega) (mxT_t (hv1 (by omega)) (by omega)) | exact ih (k + 1) _ _ _ _ (by omega) (by omega) (mxT_f (hv1 (by omega)) (by omega)) | exact ih (k + 1) _ _ _ _ (by omega) (by omega) (mxT_t (hv0 (by omega)) (by omega)) | exact ih (k + 1) _ _ _ _ (by omega) (by omega) (mxT_f (hv0 (by omega)) (by omega)) | (exfalso; omega)
                · refine Wp.iconst dX12_from_66 ?_
                  refine Wp.goto (tgt := 71) dX12_from_67 (by decide) ?_
                  refine Wp.istore (ls' := [_, _, _, _, _, _, _, _]) dX12_from_71 (by decide) rfl ?_
                  refine Wp.aload_n rfl dX12_from_73 ?_
                  refine Wp.gr (kz := 40) rfl dX12_from_74 fkX12_89 (by first | rfl | exact kd_b0 _ | exact kd_b1 _ | exact kd_b2 _ | exact kd_b3 _ | exact kd_b4 _ | exact kd_b5 _ | exact kd_b6 _) (by omega) (by first | exact hFx _ 40 _ rfl | assumption | exact hBk.1 | exact hBk.2.1 | exact hBk.2.2.1 | exact hBk.2.2.2.1 | exact hBk.2.2.2.2.1 | exact hBk.2.2.2.2.2) ?_
                  refine Wp.bipush rfl dX12_from_77 ?_
                  refine Wp.iload_n rfl dX12_from_79 ?_
                  refine Wp.iconst dX12_from_80 ?_
                  refine Wp.iadd dX12_from_81 ?_
                  refine Wp.imul dX12_from_82 ?_
                  refine Wp.iload rfl dX12_from_83 ?_
                  refine Wp.iadd dX12_from_85 ?_
                  refine Wp.iaload dX12_from_86 (by first | rfl | exact kd_b0 _ | exact kd_b1 _ | exact kd_b2 _ | exact kd_b3 _ | exact kd_b4 _ | exact kd_b5 _ | exact kd_b6 _) (by omega) (by omega) (by omega) ?_
                  refine Wp.iload rfl dX12_from_87 ?_
                  refine Wp.if_eq (tgt := 125) dX12_from_89 (by decide) (by first | omega | exact bI_R _ | exact cmp_R _ _ | assumption) (fun c89 => ?_) (fun c89 => ?_)
                  · refine Wp.iconst dX12_from_125 ?_
                    refine Wp.iadd dX12_from_126 ?_
                    refine Wp.istore (ls' := [_, _, _, _, _, _, _, _]) dX12_from_127 (by decide) rfl ?_
                    refine Wp.iload rfl dX12_from_129 ?_
                    refine Wp.iload rfl dX12_from_131 ?_
                    refine Wp.icmp_le (tgt := 141) dX12_from_133 (by decide) (by first | omega | exact bI_R _ | exact cmp_R _ _ | assumption) (by first | omega | exact bI_R _ | exact cmp_R _ _ | assumption) (fun c133 => ?_) (fun c133 => ?_)
                    · refine Wp.iload rfl dX12_from_141 ?_
                      refine Wp.istore (ls' := [_, _, _, _, _, _, _, _]) dX12_from_143 (by decide) rfl ?_
                      refine Wp.iinc (ls' := [_, _, _, _, _, _, _, _]) rfl dX12_from_145 (by decide) rfl ?_
                      refine Wp.goto (tgt := 18) dX12_from_148 (by decide) ?_
                      first | exact ih (k + 1) _ _ _ _ (by omega) (by omega) (mxT_t (hv1 (by omega)) (by omega)) | exact ih (k + 1) _ _ _ _ (by omega) (by omega) (mxT_f (hv1 (by omega)) (by omega)) | exact ih (k + 1) _ _ _ _ (by omega) (by omega) (mxT_t (hv0 (by omega)) (by omega)) | exact ih (k + 1) _ _ _ _ (by omega) (by omega) (mxT_f (hv0 (by omega)) (by omega)) | (exfalso; omega)
                    · refine Wp.iload rfl dX12_from_136 ?_
                      refine Wp.goto (tgt := 143) dX12_from_138 (by decide) ?_
                      refine Wp.istore (ls' := [_, _, _, _, _, _, _, _]) dX12_from_143 (by decide) rfl ?_
                      refine Wp.iinc (ls' := [_, _, _, _, _, _, _, _]) rfl dX12_from_145 (by decide) rfl ?_
                      refine Wp.goto (tgt := 18) dX12_from_148 (by decide) ?_
                      first | exact ih (k + 1) _ _ _ _ (by omega) (by omega) (mxT_t (hv1 (by omega)) (by omega)) | exact ih (k + 1) _ _ _ _ (by omega) (by omega) (mxT_f (hv1 (by omega)) (by omega)) | exact ih (k + 1) _ _ _ _ (by omega) (by omega) (mxT_t (hv0 (by omega)) (by omega)) | exact ih (k + 1) _ _ _ _ (by omega) (by omega) (mxT_f (hv0 (by omega)) (by omega)) | (exfalso; omega)
                  · refine Wp.aload_n rfl dX12_from_92 ?_
                    refine Wp.iload_n rfl dX12_from_93 ?_
                    refine Wp.aload_n rfl dX12_from_94 ?_
                    refine Wp.gr (kz := 39) rfl dX12_from_95 fkX12_86 (by first | rfl | exact kd_b0 _ | exact kd_b1 _ | exact kd_b2 _ | exact kd_b3 _ | exact kd_b4 _ | exact kd_b5 _ | exact kd_b6 _) (by omega) (by first | exact hFx _ 39 _ rfl | assumption | exact hBk.1 | exact hBk.2.1 | exact hBk.2.2.1 | exact hBk.2.2.2.1 | exact hBk.2.2.2.2.1 | exact hBk.2.2.2.2.2) ?_
                    refine Wp.bipush rfl dX12_from_98 ?_
                    refine Wp.iload_n rfl dX12_from_100 ?_
                    refine Wp.imul dX12_from_101 ?_
                    refine Wp.iload_n rfl dX12_from_102 ?_
                    refine Wp.iadd dX12_from_103 ?_
                    refine Wp.iaload dX12_from_104 (by first | rfl | exact kd_b0 _ | exact kd_b1 _ | exact kd_b2 _ | exact kd_b3 _ | exact kd_b4 _ | exact kd_b5 _ | exact kd_b6 _) (by omega) (by omega) (by omega) ?_
                    refine Wp.aload_n rfl dX12_from_105 ?_
                    refine Wp.gr (kz := 39) rfl dX12_from_106 fkX12_86 (by first | rfl | exact kd_b0 _ | exact kd_b1 _ | exact kd_b2 _ | exact kd_b3 _ | exact kd_b4 _ | exact kd_b5 _ | exact kd_b6 _) (by omega) (by first | exact hFx _ 39 _ rfl | assumption | exact hBk.1 | exact hBk.2.1 | exact hBk.2.2.1 | exact hBk.2.2.2.1 | exact hBk.2.2.2.2.1 | exact hBk.2.2.2.2.2) ?_
                    refine Wp.bipush rfl dX12_from_109 ?_
                    refine Wp.iload_n rfl dX12_from_111 ?_
                    refine Wp.iconst dX12_from_112 ?_
                    refine Wp.iadd dX12_from_113 ?_
                    refine Wp.imul dX12_from_114 ?_
                    refine Wp.iload rfl dX12_from_115 ?_
                    refine Wp.iadd dX12_from_117 ?_
                    refine Wp.iaload dX12_from_118 (by first | rfl | exact kd_b0 _ | exact kd_b1 _ | exact kd_b2 _ | exact kd_b3 _ | exact kd_b4 _ | exact kd_b5 _ | exact kd_b6 _) (by omega) (by omega) (by omega) ?_
                    refine Wp.callV (As := [_, _, _]) (ls0 := [_, _, _, _, _, _]) (bd := (0, 0)) (bd' := (0, 0)) dX12_from_119 kmX12_bring lkX12_260 (by decide) (by decide) (Nat.le_of_ble_eq_true rfl) (by first | rfl | exact kd_b0 _ | exact kd_b1 _ | exact kd_b2 _ | exact kd_b3 _ | exact kd_b4 _ | exact kd_b5 _ | exact kd_b6 _) (by omega) rfl rfl (Nat.le_of_ble_eq_true rfl) rfl ?_
                    have hpos : 0 < (C i).length := by omega
                    have hci : J 53 (18 * i + c) = (C i).getD c 0 := hAi.2 c (by omega)
                    rw [hci, hck]
                    refine ct_X12_bring hn hFx hPJ hb (PlO_cg hE ((hC i hi).2 _ (getD_mem (by omega)))) (PlO_cg hE ((hC _ hlt).2 _ (getD_mem (by omega)))) ?_
                    rw [tieP_cg hE]
                    show Wp _ _ _ (_ :: _) _ _ _
                    refine Wp.goto (tgt := 126) dX12_from_122 (by decide) ?_
                    refine Wp.iadd dX12_from_126 ?_
                    refine Wp.istore (ls' := [_, _, _, _, _, _, _, _]) dX12_from_127 (by decide) rfl ?_
                    refine Wp.iload rfl dX12_from_129 ?_
                    refine Wp.iload rfl dX12_from_131 ?_
                    refine Wp.icmp_le (tgt := 141) dX12_from_133 (by decide) (by first | omega | exact bI_R _ | exact cmp_R _ _ | assumption) (by first | omega | exact bI_R _ | exact cmp_R _ _ | assumption) (fun c133 => ?_) (fun c133 => ?_)
                    · refine Wp.iload rfl dX12_from_141 ?_
                      refine Wp.istore (ls' := [_, _, _, _, _, _, _, _]) dX12_from_143 (by decide) rfl ?_
                      refine Wp.iinc (ls' := [_, _, _, _, _, _, _, _]) rfl dX12_from_145 (by decide) rfl ?_
                      refine Wp.goto (tgt := 18) dX12_from_148 (by decide) ?_
                      first | exact ih (k + 1) _ _ _ _ (by omega) (by omega) (mxT_t (hv1 (by omega)) (by omega)) | exact ih (k + 1) _ _ _ _ (by omega) (by omega) (mxT_f (hv1 (by omega)) (by omega)) | exact ih (k + 1) _ _ _ _ (by omega) (by omega) (mxT_t (hv0 (by omega)) (by omega)) | exact ih (k + 1) _ _ _ _ (by omega) (by omega) (mxT_f (hv0 (by omega)) (by omega)) | (exfalso; omega)
                    · refine Wp.iload rfl dX12_from_136 ?_
                      refine Wp.goto (tgt := 143) dX12_from_138 (by decide) ?_
                      refine Wp.istore (ls' := [_, _, _, _, _, _, _, _]) dX12_from_143 (by decide) rfl ?_
                      refine Wp.iinc (ls' := [_, _, _, _, _, _, _, _]) rfl dX12_from_145 (by decide) rfl ?_
                      refine Wp.goto (tgt := 18) dX12_from_148 (by decide) ?_
                      first | exact ih (k + 1) _ _ _ _ (by omega) (by omega) (mxT_t (hv1 (by omega)) (by omega)) | exact ih (k + 1) _ _ _ _ (by omega) (by omega) (mxT_f (hv1 (by omega)) (by omega)) | exact ih (k + 1) _ _ _ _ (by omega) (by omega) (mxT_t (hv0 (by omega)) (by omega)) | exact ih (k + 1) _ _ _ _ (by omega) (by omega) (mxT_f (hv0 (by omega)) (by omega)) | (exfalso; omega)
          · refine Wp.iconst dX12_from_31 ?_
            refine Wp.goto (tgt := 43) dX12_from_32 (by decide) ?_
            refine Wp.icmp_ge (tgt := 151) dX12_from_43 (by decide) (by first | omega | exact bI_R _ | exact cmp_R _ _ | assumption) (by first | omega | exact bI_R _ | exact cmp_R _ _ | assumption) (fun c43 => ?_) (fun c43 => ?_)
            · exfalso; omega
            · refine Wp.aload_n rfl dX12_from_46 ?_
              refine Wp.gr (kz := 38) rfl dX12_from_47 fkX12_83 (by first | rfl | exact kd_b0 _ | exact kd_b1 _ | exact kd_b2 _ | exact kd_b3 _ | exact kd_b4 _ | exact kd_b5 _ | exact kd_b6 _) (by omega) (by first | exact hFx _ 38 _ rfl | assumption | exact hBk.1 | exact hBk.2.1 | exact hBk.2.2.1 | exact hBk.2.2.2.1 | exact hBk.2.2.2.2.1 | exact hBk.2.2.2.2.2) ?_
              refine Wp.iload_n rfl dX12_from_50 ?_
              refine Wp.iaload dX12_from_51 (by first | rfl | exact kd_b0 _ | exact kd_b1 _ | exact kd_b2 _ | exact kd_b3 _ | exact kd_b4 _ | exact kd_b5 _ | exact kd_b6 _) (by omega) (by omega) (by omega) ?_
              refine Wp.if_le (tgt := 70) dX12_from_52 (by decide) (by first | omega | exact bI_R _ | exact cmp_R _ _ | assumption) (fun c52 => ?_) (fun c52 => ?_)
              · refine Wp.iconst dX12_from_70 ?_
                refine Wp.istore (ls' := [_, _, _, _, _, _, _, _]) dX12_from_71 (by decide) rfl ?_
                refine Wp.aload_n rfl dX12_from_73 ?_
                refine Wp.gr (kz := 40) rfl dX12_from_74 fkX12_89 (by first | rfl | exact kd_b0 _ | exact kd_b1 _ | exact kd_b2 _ | exact kd_b3 _ | exact kd_b4 _ | exact kd_b5 _ | exact kd_b6 _) (by omega) (by first | exact hFx _ 40 _ rfl | assumption | exact hBk.1 | exact hBk.2.1 | exact hBk.2.2.1 | exact hBk.2.2.2.1 | exact hBk.2.2.2.2.1 | exact hBk.2.2.2.2.2) ?_
                refine Wp.bipush rfl dX12_from_77 ?_
                refine Wp.iload_n rfl dX12_from_79 ?_
                refine Wp.iconst dX12_from_80 ?_
                refine Wp.iadd dX12_from_81 ?_
                refine Wp.imul dX12_from_82 ?_
                refine Wp.iload rfl dX12_from_83 ?_
                refine Wp.iadd dX12_from_85 ?_
                refine Wp.iaload dX12_from_86 (by first | rfl | exact kd_b0 _ | exact kd_b1 _ | exact kd_b2 _ | exact kd_b3 _ | exact kd_b4 _ | exact kd_b5 _ | exact kd_b6 _) (by omega) (by omega) (by omega) ?_
                refine Wp.iload rfl dX12_from_87 ?_
                refine Wp.if_eq (tgt := 125) dX12_from_89 (by decide) (by first | omega | exact bI_R _ | exact cmp_R _ _ | assumption) (fun c89 => ?_) (fun c89 => ?_)
                · refine Wp.iconst dX12_from_125 ?_
                  refine Wp.iadd dX12_from_126 ?_
                  refine Wp.istore (ls' := [_, _, _, _, _, _, _, _]) dX12_from_127 (by decide) rfl ?_
                  refine Wp.iload rfl dX12_from_129 ?_
                  refine Wp.iload rfl dX12_from_131 ?_
                  refine Wp.icmp_le (tgt := 141) dX12_from_133 (by decide) (by first | omega | exact bI_R _ | exact cmp_R _ _ | assumption) (by first | omega | exact bI_R _ | exact cmp_R _ _ | assumption) (fun c133 => ?_) (fun c133 => ?_)
                  · refine Wp.iload rfl dX12_from_141 ?_
                    refine Wp.istore (ls' := [_, _, _, _, _, _, _, _]) dX12_from_143 (by decide) rfl ?_
                    refine Wp.iinc (ls' := [_, _, _, _, _, _, _, _]) rfl dX12_from_145 (by decide) rfl ?_
                    refine Wp.goto (tgt := 18) dX12_from_148 (by decide) ?_
                    first | exact ih (k + 1) _ _ _ _ (by omega) (by omega) (mxT_t (hv1 (by omega)) (by omega)) | exact ih (k + 1) _ _ _ _ (by omega) (by omega) (mxT_f (hv1 (by omega)) (by omega)) | exact ih (k + 1) _ _ _ _ (by omega) (by omega) (mxT_t (hv0 (by omega)) (by omega)) | exact ih (k + 1) _ _ _ _ (by omega) (by omega) (mxT_f (hv0 (by omega)) (by omega)) | (exfalso; omega)
                  · refine Wp.iload rfl dX12_from_136 ?_
                    refine Wp.goto (tgt := 143) dX12_from_138 (by decide) ?_
                    refine Wp.istore (ls' := [_, _, _, _, _, _, _, _]) dX12_from_143 (by decide) rfl ?_
                    refine Wp.iinc (ls' := [_, _, _, _, _, _, _, _]) rfl dX12_from_145 (by decide) rfl ?_
                    refine Wp.goto (tgt := 18) dX12_from_148 (by decide) ?_
                    first | exact ih (k + 1) _ _ _ _ (by omega) (by omega) (mxT_t (hv1 (by omega)) (by omega)) | exact ih (k + 1) _ _ _ _ (by omega) (by omega) (mxT_f (hv1 (by omega)) (by omega)) | exact ih (k + 1) _ _ _ _ (by omega) (by omega) (mxT_t (hv0 (by omega)) (by omega)) | exact ih (k + 1) _ _ _ _ (by omega) (by omega) (mxT_f (hv0 (by omega)) (by omega)) | (exfalso; omega)
                · refine Wp.aload_n rfl dX12_from_92 ?_
                  refine Wp.iload_n rfl dX12_from_93 ?_
                  refine Wp.aload_n rfl dX12_from_94 ?_
                  refine Wp.gr (kz := 39) rfl dX12_from_95 fkX12_86 (by first | rfl | exact kd_b0 _ | exact kd_b1 _ | exact kd_b2 _ | exact kd_b3 _ | exact kd_b4 _ | exact kd_b5 _ | exact kd_b6 _) (by omega) (by first | exact hFx _ 39 _ rfl | assumption | exact hBk.1 | exact hBk.2.1 | exact hBk.2.2.1 | exact hBk.2.2.2.1 | exact hBk.2.2.2.2.1 | exact hBk.2.2.2.2.2) ?_
                  refine Wp.bipush rfl dX12_from_98 ?_
                  refine Wp.iload_n rfl dX12_from_100 ?_
                  refine Wp.imul dX12_from_101 ?_
                  refine Wp.iload_n rfl dX12_from_102 ?_
                  refine Wp.iadd dX12_from_103 ?_
                  refine Wp.iaload dX12_from_104 (by first | rfl | exact kd_b0 _ | exact kd_b1 _ | exact kd_b2 _ | exact kd_b3 _ | exact kd_b4 _ | exact kd_b5 _ | exact kd_b6 _) (by omega) (by omega) (by omega) ?_
                  refine Wp.aload_n rfl dX12_from_105 ?_
                  refine Wp.gr (kz := 39) rfl dX12_from_106 fkX12_86 (by first | rfl | exact kd_b0 _ | exact kd_b1 _ | exact kd_b2 _ | exact kd_b3 _ | exact kd_b4 _ | exact kd_b5 _ | exact kd_b6 _) (by omega) (by first | exact hFx _ 39 _ rfl | assumption | exact hBk.1 | exact hBk.2.1 | exact hBk.2.2.1 | exact hBk.2.2.2.1 | exact hBk.2.2.2.2.1 | exact hBk.2.2.2.2.2) ?_
                  refine Wp.bipush rfl dX12_from_109 ?_
                  refine Wp.iload_n rfl dX12_from_111 ?_
                  refine Wp.iconst dX12_from_112 ?_
                  refine Wp.iadd dX12_from_113 ?_
                  refine Wp.imul dX12_from_114 ?_
                  refine Wp.iload rfl dX12_from_115 ?_
                  refine Wp.iadd dX12_from_117 ?_
                  refine Wp.iaload dX12_from_118 (by first | rfl | exact kd_b0 _ | exact kd_b1 _ | exact kd_b2 _ | exact kd_b3 _ | exact kd_b4 _ | exact kd_b5 _ | exact kd_b6 _) (by omega) (by omega) (by omega) ?_
                  refine Wp.callV (As := [_, _, _]) (ls0 := [_, _, _, _, _, _]) (bd := (0, 0)) (bd' := (0, 0)) dX12_from_119 kmX12_bring lkX12_260 (by decide) (by decide) (Nat.le_of_ble_eq_true rfl) (by first | rfl | exact kd_b0 _ | exact kd_b1 _ | exact kd_b2 _ | exact kd_b3 _ | exact kd_b4 _ | exact kd_b5 _ | exact kd_b6 _) (by omega) rfl rfl (Nat.le_of_ble_eq_true rfl) rfl ?_
                  have hpos : 0 < (C i).length := by omega
                  have hci : J 53 (18 * i + c) = (C i).getD c 0 := hAi.2 c (by omega)
                  rw [hci, hck]
                  refine ct_X12_bring hn hFx hPJ hb (PlO_cg hE ((hC i hi).2 _ (getD_mem (by omega)))) (PlO_cg hE ((hC _ hlt).2 _ (getD_mem (by omega)))) ?_
                  rw [tieP_cg hE]
                  show Wp _ _ _ (_ :: _) _ _ _
                  refine Wp.goto (tgt := 126) dX12_from_122 (by decide) ?_
                  refine Wp.iadd dX12_from_126 ?_
                  refine Wp.istore (ls' := [_, _, _, _, _, _, _, _]) dX12_from_127 (by decide) rfl ?_
                  refine Wp.iload rfl dX12_from_129 ?_
                  refine Wp.iload rfl dX12_from_131 ?_
                  refine Wp.icmp_le (tgt := 141) dX12_from_133 (by decide) (by first | omega | exact bI_R _ | exact cmp_R _ _ | assumption) (by first | omega | exact bI_R _ | exact cmp_R _ _ | assumption) (fun c133 => ?_) (fun c133 => ?_)
                  · refine Wp.iload rfl dX12_from_141 ?_
                    refine Wp.istore (ls' := [_, _, _, _, _, _, _, _]) dX12_from_143 (by decide) rfl ?_
                    refine Wp.iinc (ls' := [_, _, _, _, _, _, _, _]) rfl dX12_from_145 (by decide) rfl ?_
                    refine Wp.goto (tgt := 18) dX12_from_148 (by decide) ?_
                    first | exact ih (k + 1) _ _ _ _ (by omega) (by omega) (mxT_t (hv1 (by omega)) (by omega)) | exact ih (k + 1) _ _ _ _ (by omega) (by omega) (mxT_f (hv1 (by omega)) (by omega)) | exact ih (k + 1) _ _ _ _ (by omega) (by omega) (mxT_t (hv0 (by omega)) (by omega)) | exact ih (k + 1) _ _ _ _ (by omega) (by omega) (mxT_f (hv0 (by omega)) (by omega)) | (exfalso; omega)
                  · refine Wp.iload rfl dX12_from_136 ?_
                    refine Wp.goto (tgt := 143) dX12_from_138 (by decide) ?_
                    refine Wp.istore (ls' := [_, _, _, _, _, _, _, _]) dX12_from_143 (by decide) rfl ?_
                    refine Wp.iinc (ls' := [_, _, _, _, _, _, _, _]) rfl dX12_from_145 (by decide) rfl ?_
                    refine Wp.goto (tgt := 18) dX12_from_148 (by decide) ?_
                    first | exact ih (k + 1) _ _ _ _ (by omega) (by omega) (mxT_t (hv1 (by omega)) (by omega)) | exact ih (k + 1) _ _ _ _ (by omega) (by omega) (mxT_f (hv1 (by omega)) (by omega)) | exact ih (k + 1) _ _ _ _ (by omega) (by omega) (mxT_t (hv0 (by omega)) (by omega)) | exact ih (k + 1) _ _ _ _ (by omega) (by omega) (mxT_f (hv0 (by omega)) (by omega)) | (exfalso; omega)
              · refine Wp.aload_n rfl dX12_from_55 ?_
                refine Wp.gr (kz := 38) rfl dX12_from_56 fkX12_83 (by first | rfl | exact kd_b0 _ | exact kd_b1 _ | exact kd_b2 _ | exact kd_b3 _ | exact kd_b4 _ | exact kd_b5 _ | exact kd_b6 _) (by omega) (by first | exact hFx _ 38 _ rfl | assumption | exact hBk.1 | exact hBk.2.1 | exact hBk.2.2.1 | exact hBk.2.2.2.1 | exact hBk.2.2.2.2.1 | exact hBk.2.2.2.2.2) ?_
                refine Wp.iload_n rfl dX12_from_59 ?_
                refine Wp.iconst dX12_from_60 ?_
                refine Wp.iadd dX12_from_61 ?_
                refine Wp.iaload dX12_from_62 (by first | rfl | exact kd_b0 _ | exact kd_b1 _ | exact kd_b2 _ | exact kd_b3 _ | exact kd_b4 _ | exact kd_b5 _ | exact kd_b6 _) (by omega) (by omega) (by omega) ?_
                refine Wp.if_le (tgt := 70) dX12_from_63 (by decide) (by first | omega | exact bI_R _ | exact cmp_R _ _ | assumption) (fun c63 => ?_) (fun c63 => ?_)
                · refine Wp.iconst dX12_from_70 ?_
                  refine Wp.istore (ls' := [_, _, _, _, _, _, _, _]) dX12_from_71 (by decide) rfl ?_
                  refine Wp.aload_n rfl dX12_from_73 ?_
                  refine Wp.gr (kz := 40) rfl dX12_from_74 fkX12_89 (by first | rfl | exact kd_b0 _ | exact kd_b1 _ | exact kd_b2 _ | exact kd_b3 _ | exact kd_b4 _ | exact kd_b5 _ | exact kd_b6 _) (by omega) (by first | exact hFx _ 40 _ rfl | assumption | exact hBk.1 | exact hBk.2.1 | exact hBk.2.2.1 | exact hBk.2.2.2.1 | exact hBk.2.2.2.2.1 | exact hBk.2.2.2.2.2) ?_
                  refine Wp.bipush rfl dX12_from_77 ?_
                  refine Wp.iload_n rfl dX12_from_79 ?_
                  refine Wp.iconst dX12_from_80 ?_
                  refine Wp.iadd dX12_from_81 ?_
                  refine Wp.imul dX12_from_82 ?_
                  refine Wp.iload rfl dX12_from_83 ?_
                  refine Wp.iadd dX12_from_85 ?_
                  refine Wp.iaload dX12_from_86 (by first | rfl | exact kd_b0 _ | exact kd_b1 _ | exact kd_b2 _ | exact kd_b3 _ | exact kd_b4 _ | exact kd_b5 _ | exact kd_b6 _) (by omega) (by omega) (by omega) ?_
                  refine Wp.iload rfl dX12_from_87 ?_
                  refine Wp.if_eq (tgt := 125) dX12_from_89 (by decide) (by first | omega | exact bI_R _ | exact cmp_R _ _ | assumption) (fun c89 => ?_) (fun c89 => ?_)
                  · refine Wp.iconst dX12_from_125 ?_
                    refine Wp.iadd dX12_from_126 ?_
                    refine Wp.istore (ls' := [_, _, _, _, _, _, _, _]) dX12_from_127 (by decide) rfl ?_
                    refine Wp.iload rfl dX12_from_129 ?_
                    refine Wp.iload rfl dX12_from_131 ?_
                    refine Wp.icmp_le (tgt := 141) dX12_from_133 (by decide) (by first | omega | exact bI_R _ | exact cmp_R _ _ | assumption) (by first | omega | exact bI_R _ | exact cmp_R _ _ | assumption) (fun c133 => ?_) (fun c133 => ?_)
                    · refine Wp.iload rfl dX12_from_141 ?_
                      refine Wp.istore (ls' := [_, _, _, _, _, _, _, _]) dX12_from_143 (by decide) rfl ?_
                      refine Wp.iinc (ls' := [_, _, _, _, _, _, _, _]) rfl dX12_from_145 (by decide) rfl ?_
                      refine Wp.goto (tgt := 18) dX12_from_148 (by decide) ?_
                      first | exact ih (k + 1) _ _ _ _ (by omega) (by omega) (mxT_t (hv1 (by omega)) (by omega)) | exact ih (k + 1) _ _ _ _ (by omega) (by omega) (mxT_f (hv1 (by omega)) (by omega)) | exact ih (k + 1) _ _ _ _ (by omega) (by omega) (mxT_t (hv0 (by omega)) (by omega)) | exact ih (k + 1) _ _ _ _ (by omega) (by omega) (mxT_f (hv0 (by omega)) (by omega)) | (exfalso; omega)
                    · refine Wp.iload rfl dX12_from_136 ?_
                      refine Wp.goto (tgt := 143) dX12_from_138 (by decide) ?_
                      refine Wp.istore (ls' := [_, _, _, _, _, _, _, _]) dX12_from_143 (by decide) rfl ?_
                      refine Wp.iinc (ls' := [_, _, _, _, _, _, _, _]) rfl dX12_from_145 (by decide) rfl ?_
                      refine Wp.goto (tgt := 18) dX12_from_148 (by decide) ?_
                      first | exact ih (k + 1) _ _ _ _ (by omega) (by omega) (mxT_t (hv1 (by omega)) (by omega)) | exact ih (k + 1) _ _ _ _ (by omega) (by omega) (mxT_f (hv1 (by omega)) (by omega)) | exact ih (k + 1) _ _ _ _ (by omega) (by omega) (mxT_t (hv0 (by omega)) (by omega)) | exact ih (k + 1) _ _ _ _ (by omega) (by omega) (mxT_f (hv0 (by omega)) (by omega)) | (exfalso; omega)
                  · refine Wp.aload_n rfl dX12_from_92 ?_
                    refine Wp.iload_n rfl dX12_from_93 ?_
                    refine Wp.aload_n rfl dX12_from_94 ?_
                    refine Wp.gr (kz := 39) rfl dX12_from_95 fkX12_86 (by first | rfl | exact kd_b0 _ | exact kd_b1 _ | exact kd_b2 _ | exact kd_b3 _ | exact kd_b4 _ | exact kd_b5 _ | exact kd_b6 _) (by omega) (by first | exact hFx _ 39 _ rfl | assumption | exact hBk.1 | exact hBk.2.1 | exact hBk.2.2.1 | exact hBk.2.2.2.1 | exact hBk.2.2.2.2.1 | exact hBk.2.2.2.2.2) ?_
                    refine Wp.bipush rfl dX12_from_98 ?_
                    refine Wp.iload_n rfl dX12_from_100 ?_
                    refine Wp.imul dX12_from_101 ?_
                    refine Wp.iload_n rfl dX12_from_102 ?_
                    refine Wp.iadd dX12_from_103 ?_
                    refine Wp.iaload dX12_from_104 (by first | rfl | exact kd_b0 _ | exact kd_b1 _ | exact kd_b2 _ | exact kd_b3 _ | exact kd_b4 _ | exact kd_b5 _ | exact kd_b6 _) (by omega) (by omega) (by omega) ?_
                    refine Wp.aload_n rfl dX12_from_105 ?_
                    refine Wp.gr (kz := 39) rfl dX12_from_106 fkX12_86 (by first | rfl | exact kd_b0 _ | exact kd_b1 _ | exact kd_b2 _ | exact kd_b3 _ | exact kd_b4 _ | exact kd_b5 _ | exact kd_b6 _) (by omega) (by first | exact hFx _ 39 _ rfl | assumption | exact hBk.1 | exact hBk.2.1 | exact hBk.2.2.1 | exact hBk.2.2.2.1 | exact hBk.2.2.2.2.1 | exact hBk.2.2.2.2.2) ?_
                    refine Wp.bipush rfl dX12_from_109 ?_
                    refine Wp.iload_n rfl dX12_from_111 ?_
                    refine Wp.iconst dX12_from_112 ?_
                    refine Wp.iadd dX12_from_113 ?_
                    refine Wp.imul dX12_from_114 ?_
                    refine Wp.iload rfl dX12_from_115 ?_
                    refine Wp.iadd dX12_from_117 ?_
                    refine Wp.iaload dX12_from_118 (by first | rfl | exact kd_b0 _ | exact kd_b1 _ | exact kd_b2 _ | exact kd_b3 _ | exact kd_b4 _ | exact kd_b5 _ | exact kd_b6 _) (by omega) (by omega) (by omega) ?_
                    refine Wp.callV (As := [_, _, _]) (ls0 := [_, _, _, _, _, _]) (bd := (0, 0)) (bd' := (0, 0)) dX12_from_119 kmX12_bring lkX12_260 (by decide) (by decide) (Nat.le_of_ble_eq_true rfl) (by first | rfl | exact kd_b0 _ | exact kd_b1 _ | exact kd_b2 _ | exact kd_b3 _ | exact kd_b4 _ | exact kd_b5 _ | exact kd_b6 _) (by omega) rfl rfl (Nat.le_of_ble_eq_true rfl) rfl ?_
                    have hpos : 0 < (C i).length := by omega
                    have hci : J 53 (18 * i + c) = (C i).getD c 0 := hAi.2 c (by omega)
                    rw [hci, hck]
                    refine ct_X12_bring hn hFx hPJ hb (PlO_cg hE ((hC i hi).2 _ (getD_mem (by omega)))) (PlO_cg hE ((hC _ hlt).2 _ (getD_mem (by omega)))) ?_
                    rw [tieP_cg hE]
                    show Wp _ _ _ (_ :: _) _ _ _
                    refine Wp.goto (tgt := 126) dX12_from_122 (by decide) ?_
                    refine Wp.iadd dX12_from_126 ?_
                    refine Wp.istore (ls' := [_, _, _, _, _, _, _, _]) dX12_from_127 (by decide) rfl ?_
                    refine Wp.iload rfl dX12_from_129 ?_
                    refine Wp.iload rfl dX12_from_131 ?_
                    refine Wp.icmp_le (tgt := 141) dX12_from_133 (by decide) (by first | omega | exact bI_R _ | exact cmp_R _ _ | assumption) (by first | omega | exact bI_R _ | exact cmp_R _ _ | assumption) (fun c133 => ?_) (fun c133 => ?_)
                    · refine Wp.iload rfl dX12_from_141 ?_
                      refine Wp.istore (ls' := [_, _, _, _, _, _, _, _]) dX12_from_143 (by decide) rfl ?_
                      refine Wp.iinc (ls' := [_, _, _, _, _, _, _, _]) rfl dX12_from_145 (by decide) rfl ?_
                      refine Wp.goto (tgt := 18) dX12_from_148 (by decide) ?_
                      first | exact ih (k + 1) _ _ _ _ (by omega) (by omega) (mxT_t (hv1 (by omega)) (by omega)) | exact ih (k + 1) _ _ _ _ (by omega) (by omega) (mxT_f (hv1 (by omega)) (by omega)) | exact ih (k + 1) _ _ _ _ (by omega) (by omega) (mxT_t (hv0 (by omega)) (by omega)) | exact ih (k + 1) _ _ _ _ (by omega) (by omega) (mxT_f (hv0 (by omega)) (by omega)) | (exfalso; omega)
                    · refine Wp.iload rfl dX12_from_136 ?_
                      refine Wp.goto (tgt := 143) dX12_from_138 (by decide) ?_
                      refine Wp.istore (ls' := [_, _, _, _, _, _, _, _]) dX12_from_143 (by decide) rfl ?_
                      refine Wp.iinc (ls' := [_, _, _, _, _, _, _, _]) rfl dX12_from_145 (by decide) rfl ?_
                      refine Wp.goto (tgt := 18) dX12_from_148 (by decide) ?_
                      first | exact ih (k + 1) _ _ _ _ (by omega) (by omega) (mxT_t (hv1 (by omega)) (by omega)) | exact ih (k + 1) _ _ _ _ (by omega) (by omega) (mxT_f (hv1 (by omega)) (by omega)) | exact ih (k + 1) _ _ _ _ (by omega) (by omega) (mxT_t (hv0 (by omega)) (by omega)) | exact ih (k + 1) _ _ _ _ (by omega) (by omega) (mxT_f (hv0 (by omega)) (by omega)) | (exfalso; omega)
                · refine Wp.iconst dX12_from_66 ?_
                  refine Wp.goto (tgt := 71) dX12_from_67 (by decide) ?_
                  refine Wp.istore (ls' := [_, _, _, _, _, _, _, _]) dX12_from_71 (by decide) rfl ?_
                  refine Wp.aload_n rfl dX12_from_73 ?_
                  refine Wp.gr (kz := 40) rfl dX12_from_74 fkX12_89 (by first | rfl | exact kd_b0 _ | exact kd_b1 _ | exact kd_b2 _ | exact kd_b3 _ | exact kd_b4 _ | exact kd_b5 _ | exact kd_b6 _) (by omega) (by first | exact hFx _ 40 _ rfl | assumption | exact hBk.1 | exact hBk.2.1 | exact hBk.2.2.1 | exact hBk.2.2.2.1 | exact hBk.2.2.2.2.1 | exact hBk.2.2.2.2.2) ?_
                  refine Wp.bipush rfl dX12_from_77 ?_
                  refine Wp.iload_n rfl dX12_from_79 ?_
                  refine Wp.iconst dX12_from_80 ?_
                  refine Wp.iadd dX12_from_81 ?_
                  refine Wp.imul dX12_from_82 ?_
                  refine Wp.iload rfl dX12_from_83 ?_
                  refine Wp.iadd dX12_from_85 ?_
                  refine Wp.iaload dX12_from_86 (by first | rfl | exact kd_b0 _ | exact kd_b1 _ | exact kd_b2 _ | exact kd_b3 _ | exact kd_b4 _ | exact kd_b5 _ | exact kd_b6 _) (by omega) (by omega) (by omega) ?_
                  refine Wp.iload rfl dX12_from_87 ?_
                  refine Wp.if_eq (tgt := 125) dX12_from_89 (by decide) (by first | omega | exact bI_R _ | exact cmp_R _ _ | assumption) (fun c89 => ?_) (fun c89 => ?_)
                  · refine Wp.iconst dX12_from_125 ?_
                    refine Wp.iadd dX12_from_126 ?_
                    refine Wp.istore (ls' := [_, _, _, _, _, _, _, _]) dX12_from_127 (by decide) rfl ?_
                    refine Wp.iload rfl dX12_from_129 ?_
                    refine Wp.iload rfl dX12_from_131 ?_
                    refine Wp.icmp_le (tgt := 141) dX12_from_133 (by decide) (by first | omega | exact bI_R _ | exact cmp_R _ _ | assumption) (by first | omega | exact bI_R _ | exact cmp_R _ _ | assumption) (fun c133 => ?_) (fun c133 => ?_)
                    · refine Wp.iload rfl dX12_from_141 ?_
                      refine Wp.istore (ls' := [_, _, _, _, _, _, _, _]) dX12_from_143 (by decide) rfl ?_
                      refine Wp.iinc (ls' := [_, _, _, _, _, _, _, _]) rfl dX12_from_145 (by decide) rfl ?_
                      refine Wp.goto (tgt := 18) dX12_from_148 (by decide) ?_
                      first | exact ih (k + 1) _ _ _ _ (by omega) (by omega) (mxT_t (hv1 (by omega)) (by omega)) | exact ih (k + 1) _ _ _ _ (by omega) (by omega) (mxT_f (hv1 (by omega)) (by omega)) | exact ih (k + 1) _ _ _ _ (by omega) (by omega) (mxT_t (hv0 (by omega)) (by omega)) | exact ih (k + 1) _ _ _ _ (by omega) (by omega) (mxT_f (hv0 (by omega)) (by omega)) | (exfalso; omega)
                    · refine Wp.iload rfl dX12_from_136 ?_
                      refine Wp.goto (tgt := 143) dX12_from_138 (by decide) ?_
                      refine Wp.istore (ls' := [_, _, _, _, _, _, _, _]) dX12_from_143 (by decide) rfl ?_
                      refine Wp.iinc (ls' := [_, _, _, _, _, _, _, _]) rfl dX12_from_145 (by decide) rfl ?_
                      refine Wp.goto (tgt := 18) dX12_from_148 (by decide) ?_
                      first | exact ih (k + 1) _ _ _ _ (by omega) (by omega) (mxT_t (hv1 (by omega)) (by omega)) | exact ih (k + 1) _ _ _ _ (by omega) (by omega) (mxT_f (hv1 (by omega)) (by omega)) | exact ih (k + 1) _ _ _ _ (by omega) (by omega) (mxT_t (hv0 (by omega)) (by omega)) | exact ih (k + 1) _ _ _ _ (by omega) (by omega) (mxT_f (hv0 (by omega)) (by omega)) | (exfalso; omega)
                  · refine Wp.aload_n rfl dX12_from_92 ?_
                    refine Wp.iload_n rfl dX12_from_93 ?_
                    refine Wp.aload_n rfl dX12_from_94 ?_
                    refine Wp.gr (kz := 39) rfl dX12_from_95 fkX12_86 (by first | rfl | exact kd_b0 _ | exact kd_b1 _ | exact kd_b2 _ | exact kd_b3 _ | exact kd_b4 _ | exact kd_b5 _ | exact kd_b6 _) (by omega) (by first | exact hFx _ 39 _ rfl | assumption | exact hBk.1 | exact hBk.2.1 | exact hBk.2.2.1 | exact hBk.2.2.2.1 | exact hBk.2.2.2.2.1 | exact hBk.2.2.2.2.2) ?_
                    refine Wp.bipush rfl dX12_from_98 ?_
                    refine Wp.iload_n rfl dX12_from_100 ?_
                    refine Wp.imul dX12_from_101 ?_
                    refine Wp.iload_n rfl dX12_from_102 ?_
                    refine Wp.iadd dX12_from_103 ?_
                    refine Wp.iaload dX12_from_104 (by first | rfl | exact kd_b0 _ | exact kd_b1 _ | exact kd_b2 _ | exact kd_b3 _ | exact kd_b4 _ | exact kd_b5 _ | exact kd_b6 _) (by omega) (by omega) (by omega) ?_
                    refine Wp.aload_n rfl dX12_from_105 ?_
                    refine Wp.gr (kz := 39) rfl dX12_from_106 fkX12_86 (by first | rfl | exact kd_b0 _ | exact kd_b1 _ | exact kd_b2 _ | exact kd_b3 _ | exact kd_b4 _ | exact kd_b5 _ | exact kd_b6 _) (by omega) (by first | exact hFx _ 39 _ rfl | assumption | exact hBk.1 | exact hBk.2.1 | exact hBk.2.2.1 | exact hBk.2.2.2.1 | exact hBk.2.2.2.2.1 | exact hBk.2.2.2.2.2) ?_
                    refine Wp.bipush rfl dX12_from_109 ?_
                    refine Wp.iload_n rfl dX12_from_111 ?_
                    refine Wp.iconst dX12_from_112 ?_
                    refine Wp.iadd dX12_from_113 ?_
                    refine Wp.imul dX12_from_114 ?_
                    refine Wp.iload rfl dX12_from_115 ?_
                    refine Wp.iadd dX12_from_117 ?_
                    refine Wp.iaload dX12_from_118 (by first | rfl | exact kd_b0 _ | exact kd_b1 _ | exact kd_b2 _ | exact kd_b3 _ | exact kd_b4 _ | exact kd_b5 _ | exact kd_b6 _) (by omega) (by omega) (by omega) ?_
                    refine Wp.callV (As := [_, _, _]) (ls0 := [_, _, _, _, _, _]) (bd := (0, 0)) (bd' := (0, 0)) dX12_from_119 kmX12_bring lkX12_260 (by decide) (by decide) (Nat.le_of_ble_eq_true rfl) (by first | rfl | exact kd_b0 _ | exact kd_b1 _ | exact kd_b2 _ | exact kd_b3 _ | exact kd_b4 _ | exact kd_b5 _ | exact kd_b6 _) (by omega) rfl rfl (Nat.le_of_ble_eq_true rfl) rfl ?_
                    have hpos : 0 < (C i).length := by omega
                    have hci : J 53 (18 * i + c) = (C i).getD c 0 := hAi.2 c (by omega)
                    rw [hci, hck]
                    refine ct_X12_bring hn hFx hPJ hb (PlO_cg hE ((hC i hi).2 _ (getD_mem (by omega)))) (PlO_cg hE ((hC _ hlt).2 _ (getD_mem (by omega)))) ?_
                    rw [tieP_cg hE]
                    show Wp _ _ _ (_ :: _) _ _ _
                    refine Wp.goto (tgt := 126) dX12_from_122 (by decide) ?_
                    refine Wp.iadd dX12_from_126 ?_
                    refine Wp.istore (ls' := [_, _, _, _, _, _, _, _]) dX12_from_127 (by decide) rfl ?_
                    refine Wp.iload rfl dX12_from_129 ?_
                    refine Wp.iload rfl dX12_from_131 ?_
                    refine Wp.icmp_le (tgt := 141) dX12_from_133 (by decide) (by first | omega | exact bI_R _ | exact cmp_R _ _ | assumption) (by first | omega | exact bI_R _ | exact cmp_R _ _ | assumption) (fun c133 => ?_) (fun c133 => ?_)
                    · refine Wp.iload rfl dX12_from_141 ?_
                      refine Wp.istore (ls' := [_, _, _, _, _, _, _, _]) dX12_from_143 (by decide) rfl ?_
                      refine Wp.iinc (ls' := [_, _, _, _, _, _, _, _]) rfl dX12_from_145 (by decide) rfl ?_
                      refine Wp.goto (tgt := 18) dX12_from_148 (by decide) ?_
                      first | exact ih (k + 1) _ _ _ _ (by omega) (by omega) (mxT_t (hv1 (by omega)) (by omega)) | exact ih (k + 1) _ _ _ _ (by omega) (by omega) (mxT_f (hv1 (by omega)) (by omega)) | exact ih (k + 1) _ _ _ _ (by omega) (by omega) (mxT_t (hv0 (by omega)) (by omega)) | exact ih (k + 1) _ _ _ _ (by omega) (by omega) (mxT_f (hv0 (by omega)) (by omega)) | (exfalso; omega)
                    · refine Wp.iload rfl dX12_from_136 ?_
                      refine Wp.goto (tgt := 143) dX12_from_138 (by decide) ?_
                      refine Wp.istore (ls' := [_, _, _, _, _, _, _, _]) dX12_from_143 (by decide) rfl ?_
                      refine Wp.iinc (ls' := [_, _, _, _, _, _, _, _]) rfl dX12_from_145 (by decide) rfl ?_
                      refine Wp.goto (tgt := 18) dX12_from_148 (by decide) ?_
                      first | exact ih (k + 1) _ _ _ _ (by omega) (by omega) (mxT_t (hv1 (by omega)) (by omega)) | exact ih (k + 1) _ _ _ _ (by omega) (by omega) (mxT_f (hv1 (by omega)) (by omega)) | exact ih (k + 1) _ _ _ _ (by omega) (by omega) (mxT_t (hv0 (by omega)) (by omega)) | exact ih (k + 1) _ _ _ _ (by omega) (by omega) (mxT_f (hv0 (by omega)) (by omega)) | (exfalso; omega)
      refine Wp.iload_n rfl dX12_from_0 ?_
      refine Wp.aload_n rfl dX12_from_1 ?_
      refine Wp.gi (kz := 35) rfl dX12_from_2 fkX12_165 (by first | rfl | exact kd_b0 _ | exact kd_b1 _ | exact kd_b2 _ | exact kd_b3 _ | exact kd_b4 _ | exact kd_b5 _ | exact kd_b6 _) (by omega) ?_
      refine Wp.iconst dX12_from_5 ?_
      refine Wp.isub dX12_from_6 ?_
      refine Wp.icmp_ne (tgt := 12) dX12_from_7 (by decide) (by first | omega | exact bI_R _ | exact cmp_R _ _ | assumption) (by first | omega | exact bI_R _ | exact cmp_R _ _ | assumption) (fun c7 => ?_) (fun c7 => ?_)
      · refine Wp.iconst dX12_from_12 ?_
        refine Wp.istore (ls' := [_, _, _, _, _, _, _, _]) dX12_from_13 (by decide) rfl ?_
        refine Wp.iconst dX12_from_15 ?_
        refine Wp.istore (ls' := [_, _, _, _, _, _, _, _]) dX12_from_16 (by decide) rfl ?_
        exact lp (C (i + 1)).length 0 _ _ _ _ (by omega) (by omega) rfl
      · refine Wp.iconst dX12_from_10 ?_
        refine Wp.ireturn dX12_from_11 rfl ?_
        first | (exfalso; omega) | (exfalso; omega)
  · have e0 : S - (i + 1) = 0 := by omega
    rw [e0] at hq
    refine Wp.iload_n rfl dX12_from_0 ?_
    refine Wp.aload_n rfl dX12_from_1 ?_
    refine Wp.gi (kz := 35) rfl dX12_from_2 fkX12_165 (by first | rfl | exact kd_b0 _ | exact kd_b1 _ | exact kd_b2 _ | exact kd_b3 _ | exact kd_b4 _ | exact kd_b5 _ | exact kd_b6 _) (by omega) ?_
    refine Wp.iconst dX12_from_5 ?_
    refine Wp.isub dX12_from_6 ?_
    refine Wp.icmp_ne (tgt := 12) dX12_from_7 (by decide) (by first | omega | exact bI_R _ | exact cmp_R _ _ | assumption) (by first | omega | exact bI_R _ | exact cmp_R _ _ | assumption) (fun c7 => ?_) (fun c7 => ?_)
    · exfalso; omega
    · refine Wp.iconst dX12_from_10 ?_
      refine Wp.ireturn dX12_from_11 rfl ?_
      first | exact hq | (exfalso; omega) | exact qI hq (by omega)
end

