/-! ===== the class and the reference, side by side ===== -/
section
variable {M : MD} {pc : Nat} {ls : List (Option AV)} {st : List AV} {m : Mm} {bd : Nat × Nat} {Q : Option AV → Mm → Prop}
theorem Wp.icmp_same {x : Int} {off : Int} {tgt : Nat} (hd : decode (mdC M) pc = .ok (.if_icmp .eq off, 3)) (ht : (pc : Int) + off = (tgt : Int)) (k : Wp M tgt ls st m bd Q) : Wp M pc ls (vi x :: vi x :: st) m bd Q := by
  have h := Wp.icmp_eq (ls := ls) (st := st) (m := m) (bd := bd) (Q := Q) (x := (Int32.ofInt x).toInt) (y := (Int32.ofInt x).toInt) hd ht (w_rng _) (w_rng _) (fun _ => k) (fun q => absurd rfl q)
  intro p l e R s mid args below meth c H locs cells slots D cA ad base lsC Qf hC hH hS g1 g2 hl hF
  have h2 := h p l e R s mid args below meth c H locs cells slots D cA ad base lsC Qf hC hH hS g1 g2 hl hF
  have e1 : cv ad (vi (Int32.ofInt x).toInt) = cv ad (vi x) := by show Value.int (Int32.ofInt (Int32.ofInt x).toInt) = Value.int (Int32.ofInt x); rw [w_toInt]
  simp only [List.map_cons, e1] at h2
  exact h2
end
def LkR (I : Nat → Int → Int) : Prop := I 7 4 = I 32 25 ∧ (∀ j : Nat, (j : Int) < I 32 25 → I 8 j = I 43 j ∧ I 9 j = I 44 j ∧ I 10 j = I 45 j ∧ I 11 j = I 46 j) ∧ AkW (I 43) (I 44) (I 45) (I 46) (I 32 25)
def TxR (I : Nat → Int → Int) : Prop := I 1 1 = I 32 13 ∧ TxW I ∧ ∀ p : Int, 0 ≤ p → p < I 32 13 → I 2 p = I 41 p
def DrR (I : Nat → Int → Int) (R : Nat → Int → Option Nat) (n : Nat) : Prop := (R 4 1 = none ∧ (n : Int) = 57 + 7 * I 32 0) ∨ (R 4 1 = some (57 + 7 * (I 32 0).toNat) ∧ (n : Int) = 57 + 7 * I 32 0 + 7 ∧ I 32 0 < 8 ∧ Bk R (I 32 0).toNat)
def SR (I : Nat → Int → Int) (L : Nat → Int → BitVec 64) (R : Nat → Int → Option Nat) (n : Nat) : Prop := ShR I L R n ∧ PuR I ∧ LkR I ∧ TxR I ∧ I 0 10 = I 32 14 ∧ I 32 11 = 255 ∧ DrR I R n
section
variable {I J : Nat → Int → Int} {L K : Nat → Int → BitVec 64} {R R2 : Nat → Int → Option Nat} {n k : Nat}
/-- cells of the shelf -/
def shO (o : Nat) (z : Int) : Prop := o = 4 ∨ (o = 32 ∧ (z = 0 ∨ z = 9 ∨ z = 10)) ∨ (33 ≤ o ∧ o ≤ 40) ∨ 57 ≤ o
theorem BR_fr (e : ∀ (o : Nat) (z : Int), 33 ≤ o ∧ o ≤ 40 ∨ 57 ≤ o → J o z = I o z) (eL : ∀ (o : Nat) (z : Int), 57 ≤ o → K o z = L o z) (hB : BR I L R n k) : BR J K R n k := by
  have eS : shf J (k : Int) = shf I (k : Int) := by
    funext o z
    unfold shf
    rw [e 36 _ (by omega)]
    split
    · rfl
    · split
      · rename_i h2; exact e o _ (by omega)
      · split
        · rename_i h2; exact e o _ (by omega)
        · rfl
  obtain ⟨h1, h2, h3, h4, h5, h6, h7⟩ := hB
  refine ⟨h1, h2, h3, ?_, ?_, ?_, ?_⟩
  · rw [e _ _ (by omega), e 33 _ (by omega)]; exact h4
  · rw [e _ _ (by omega), e 34 _ (by omega)]; exact h5
  · rw [e _ _ (by omega), e 35 _ (by omega)]; exact h6
  · rw [eS]; exact CB_cg (fun o z _ _ => e o z (by omega)) (fun o z _ _ => eL o z (by omega)) h7
theorem ShR_fr (h : ∀ (o : Nat) (z : Int), shO o z → J o z = I o z) (hL : ∀ (o : Nat) (z : Int), 57 ≤ o → K o z = L o z) (hS : ShR I L R n) : ShR J K R n := by
  obtain ⟨h1, h2, h3, h4, h5, h6, h7⟩ := hS
  have e0 : J 32 0 = I 32 0 := h 32 0 (by unfold shO; omega)
  have e9 : J 32 9 = I 32 9 := h 32 9 (by unfold shO; omega)
  have e10 : J 32 10 = I 32 10 := h 32 10 (by unfold shO; omega)
  have hse : SE I J := ⟨fun o a b z => h o z (by unfold shO; omega), e0, e9, e10⟩
  refine ⟨h1, h2, RW_cg hse h3, ?_, ?_, ?_, fun k hk => BR_fr (fun o z ho => h o z (by unfold shO; omega)) hL (h7 k (by omega))⟩
  · rw [h 4 2 (by unfold shO; omega), e0]; exact h4
  · rw [h 4 3 (by unfold shO; omega), e9]; exact h5
  · rw [h 4 4 (by unfold shO; omega), e10]; exact h6
def puO (o : Nat) (z : Int) : Prop := o = 17 ∨ o = 18 ∨ o = 51 ∨ (12 ≤ o ∧ o ≤ 16) ∨ (47 ≤ o ∧ o ≤ 50) ∨ (o = 32 ∧ (z = 30 ∨ z = 35 ∨ z = 36))
theorem PuR_fr (h : ∀ (o : Nat) (z : Int), puO o z → J o z = I o z) (hU : PuR I) : PuR J := by
  have f : ∀ o : Nat, o ≠ 32 → (∀ z, puO o z) → J o = I o := fun o _ hz => funext (fun z => h o z (hz z))
  unfold PuR at hU ⊢
  rw [h 17 2 (by unfold puO; omega), h 17 1 (by unfold puO; omega), h 32 35 (by unfold puO; omega), h 32 36 (by unfold puO; omega), h 12 4 (by unfold puO; omega), h 32 30 (by unfold puO; omega), f 18 (by omega) (fun z => by unfold puO; omega), f 51 (by omega) (fun z => by unfold puO; omega), f 13 (by omega) (fun z => by unfold puO; omega), f 14 (by omega) (fun z => by unfold puO; omega), f 15 (by omega) (fun z => by unfold puO; omega), f 16 (by omega) (fun z => by unfold puO; omega), f 47 (by omega) (fun z => by unfold puO; omega), f 48 (by omega) (fun z => by unfold puO; omega), f 49 (by omega) (fun z => by unfold puO; omega), f 50 (by omega) (fun z => by unfold puO; omega)]
  exact hU
def lkO (o : Nat) (z : Int) : Prop := (7 ≤ o ∧ o ≤ 11) ∨ (43 ≤ o ∧ o ≤ 46) ∨ (o = 32 ∧ z = 25)
theorem LkR_fr (h : ∀ (o : Nat) (z : Int), lkO o z → J o z = I o z) (hU : LkR I) : LkR J := by
  have f : ∀ o : Nat, o ≠ 32 → (∀ z, lkO o z) → J o = I o := fun o _ hz => funext (fun z => h o z (hz z))
  unfold LkR at hU ⊢
  rw [h 7 4 (by unfold lkO; omega), h 32 25 (by unfold lkO; omega), f 8 (by omega) (fun z => by unfold lkO; omega), f 9 (by omega) (fun z => by unfold lkO; omega), f 10 (by omega) (fun z => by unfold lkO; omega), f 11 (by omega) (fun z => by unfold lkO; omega), f 43 (by omega) (fun z => by unfold lkO; omega), f 44 (by omega) (fun z => by unfold lkO; omega), f 45 (by omega) (fun z => by unfold lkO; omega), f 46 (by omega) (fun z => by unfold lkO; omega)]
  exact hU
def txO (o : Nat) (z : Int) : Prop := o = 1 ∨ o = 2 ∨ o = 41 ∨ (o = 32 ∧ z = 13)
theorem TxR_fr (h : ∀ (o : Nat) (z : Int), txO o z → J o z = I o z) (hU : TxR I) : TxR J := by
  have f : ∀ o : Nat, o ≠ 32 → (∀ z, txO o z) → J o = I o := fun o _ hz => funext (fun z => h o z (hz z))
  unfold TxR at hU ⊢
  unfold TxW at hU ⊢
  rw [h 1 1 (by unfold txO; omega), h 32 13 (by unfold txO; omega), f 2 (by omega) (fun z => by unfold txO; omega), f 41 (by omega) (fun z => by unfold txO; omega)]
  exact hU
theorem DrR_fr (h : J 32 0 = I 32 0) (hU : DrR I R n) : DrR J R n := by unfold DrR at hU ⊢; rw [h]; exact hU
theorem SR_cg (h : Eqv I J) (hL : EqvL L K) (hS : SR I L R n) : SR J K R n := by
  obtain ⟨h1, h2, h3, h4, h5, h6, h7⟩ := hS
  refine ⟨ShR_cg h hL h1, PuR_fr (fun o z ho => h o z (by unfold puO at ho; unfold scr; omega)) h2, LkR_fr (fun o z ho => h o z (by unfold lkO at ho; unfold scr; omega)) h3, TxR_fr (fun o z ho => h o z (by unfold txO at ho; unfold scr; omega)) h4, ?_, ?_, DrR_fr (h 32 0 (by unfold scr; omega)) h7⟩
  · rw [h 0 10 (by unfold scr; omega), h 32 14 (by unfold scr; omega)]; exact h5
  · rw [h 32 11 (by unfold scr; omega)]; exact h6
/-! the answers do not depend on what is scratched -/
theorem aBest_cg (h : SE I J) (a w mm c : Int) : aBest J 255 a w mm c = aBest I 255 a w mm c := by unfold aBest; rw [fbN_cg h]
theorem brN_cg (h : SE I J) (lk a w c : Int) : ∀ k, brN J lk a w c k = brN I lk a w c k
  | 0 => rfl
  | k + 1 => by simp only [brN, brS]; rw [brN_cg h lk a w c k, fbN_cg h]
theorem aBridge_cg (h : SE I J) (a w c : Int) : aBridge J 255 a w c = aBridge I 255 a w c := by unfold aBridge; rw [brN_cg h]
theorem aSure_cg (h : SE I J) (a w mm c t what : Int) : aSure J 255 a w mm c t what = aSure I 255 a w mm c t what := by unfold aSure; rw [upr_cg h, lwr_cg h]
theorem ldB_f (h : SE I J) : ldB J 255 = ldB I 255 := by funext a b; exact ldB_cg h 255 a b
theorem aAcross_cg (h : SE I J) (a b what : Int) : aAcross J 255 a b what = aAcross I 255 a b what := by unfold aAcross; rw [ldB_f h, acN_cg h]
theorem tieO_cg (h : Eqv I J) (b : Int) (p : Option Int) (q : Int) : tieO J b p q = tieO I b p q := by
  cases p with
  | none => rfl
  | some p => exact tieP_cg h b p q
theorem wv_cg (h : Eqv I J) (b : Int) : ∀ (r : List (List Int)) (p : Option Int), wv J b r p = wv I b r p
  | [], _ => rfl
  | l :: r, p => by
    simp only [wv]
    rw [wv_cg h b r none]
    split
    · rfl
    · exact mxT_cg (fun q => by rw [tieO_cg h, wv_cg h b r (some q)]) _
theorem cpN_cg (h : SE I J) (ag s : Int) : ∀ k, cpN J ag s k = cpN I ag s k
  | 0 => rfl
  | k + 1 => by simp only [cpN]; rw [cpN_cg h ag s k, h.1 40 (by omega) (by omega)]
theorem csN_cg (h : SE I J) (ag e : Int) : ∀ k, csN J ag e k = csN I ag e k
  | 0 => rfl
  | k + 1 => by simp only [csN]; rw [csN_cg h ag e k, cpN_cg h, h.1 38 (by omega) (by omega)]
theorem chL_cg (h : Eqv I J) (b : Int) : chL J 255 b = chL I 255 b := by
  funext i
  unfold chL
  rw [h 32 36 (by unfold scr; omega), h 51 _ (by unfold scr; omega), ent_cg h.se, csN_cg h.se, cntE_cg h.se, h.se.2.2.2]
theorem cz_cg (h : Eqv I J) (b : Int) (c : Nat → List Int) (S : Nat) : ∀ k, cz J b c S k = cz I b c S k
  | 0 => by simp only [cz, tieO_cg h, wv_cg h]
  | k + 1 => by simp only [cz, cz_cg h b c S k, tieO_cg h, wv_cg h]
theorem aPut_cg (h : Eqv I J) (b i what : Int) : aPut J 255 b i what = aPut I 255 b i what := by
  unfold aPut
  have e39 : ∀ z, J 39 z = I 39 z := fun z => h 39 z (by unfold scr; omega)
  simp only [h 32 35 (by unfold scr; omega), h 32 36 (by unfold scr; omega), chL_cg h, wv_cg h, cz_cg h, e39]
theorem frN_A {A W B V A' W' B' V' : Int → Int} : ∀ k : Nat, (∀ j : Nat, j < k → A' j = A j ∧ W' j = W j ∧ B' j = B j ∧ V' j = V j) → frN I 255 A' W' B' V' k = frN I 255 A W B V k
  | 0, _ => rfl
  | k + 1, h => by
    have h1 := h k (by omega)
    simp only [frN]
    rw [frN_A k (fun j hj => h j (by omega)), h1.1, h1.2.1, h1.2.2.1, h1.2.2.2]
theorem aFriends_A (hK : LkR I) (i : Int) : aFriends I 255 (I 8) (I 9) (I 10) (I 11) (I 7 4) i = aFriends I 255 (I 43) (I 44) (I 45) (I 46) (I 32 25) i := by
  have k0 := hK.2.2.1
  unfold aFriends
  rw [hK.1, frN_A (I := I) (I 32 25).toNat (fun j hj => hK.2.1 j (by omega))]
  by_cases hr : -1 ≤ i ∧ i < I 32 25
  · rw [if_pos hr, if_pos hr]
    by_cases hi : i = -1
    · rw [if_pos hi, if_pos hi]
    · have h1 := hK.2.1 i.toNat (by omega)
      rw [show ((i.toNat : Nat) : Int) = i by omega] at h1
      rw [if_neg hi, if_neg hi, h1.1, h1.2.1, h1.2.2.1, h1.2.2.2]
  · rw [if_neg hr, if_neg hr]
theorem alk_A (hK : LkR I) (a w b v : Int) : alk (I 8) (I 9) (I 10) (I 11) a w b v (I 7 4).toNat = alk (I 43) (I 44) (I 45) (I 46) a w b v (I 32 25).toNat := by
  have k0 := hK.2.2.1
  rw [hK.1]
  unfold alk
  apply anyB_cg
  intro j hj
  have h1 := hK.2.1 j (by omega)
  rw [h1.1, h1.2.1, h1.2.2.1, h1.2.2.2]
theorem AkW_A (hK : LkR I) : AkW (I 8) (I 9) (I 10) (I 11) (I 7 4) := by
  refine ⟨by rw [hK.1]; exact hK.2.2.1, by rw [hK.1]; exact hK.2.2.2.1, fun j hj => ?_⟩
  rw [hK.1] at hj
  have h1 := hK.2.1 j hj
  rw [h1.1, h1.2.1, h1.2.2.1, h1.2.2.2]
  exact hK.2.2.2.2 j hj
end

