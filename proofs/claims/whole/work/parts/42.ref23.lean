/-! ===== the reference: promises 1, 3: words, senses ===== -/
/-- the reference's arrays of book kb are the draft's (but for how many senses) -/
def RDr (J : Nat → Int → Int) (kb : Int) (D : Dr) : Prop := (∀ i : Int, 0 ≤ i → i < 180 → J 37 (180 * kb + i) = D 37 i ∧ J 38 (180 * kb + i) = D 38 i) ∧ ∀ i : Int, 0 ≤ i → i < 1080 → J 39 (1080 * kb + i) = D 39 i ∧ J 40 (1080 * kb + i) = D 40 i
def tW (kb : Int) (o : Nat) (k : Int) : Prop := (o = 32 ∧ 14 ≤ k ∧ k ≤ 17) ∨ ((o = 37 ∨ o = 38) ∧ 180 * kb ≤ k ∧ k < 180 * kb + 180) ∨ ((o = 39 ∨ o = 40) ∧ 1080 * kb ≤ k ∧ k < 1080 * kb + 1080)
def FrW (kb : Int) (I J : Nat → Int → Int) : Prop := ∀ (o : Nat) (k : Int), ¬ tW kb o k → J o k = I o k
theorem FrW.rf (kb : Int) (I : Nat → Int → Int) : FrW kb I I := fun _ _ _ => rfl
theorem FrW.wr {kb : Int} {I J : Nat → Int → Int} (h : FrW kb I J) {o : Nat} {k v : Int} (hs : tW kb o k) : FrW kb I (up J o k v) := fun o' k' hs' => by
  unfold up
  rw [if_neg (fun q => hs' (by rw [q.1, q.2]; exact hs))]
  exact h o' k' hs'
theorem FrW.fn {kb : Int} {I J K : Nat → Int → Int} (h : FrW kb I J) (h2 : FrN J K) : FrW kb I K := fun o k hs => (h2 o k (fun q => hs (by unfold tW; omega))).trans (h o k hs)
theorem FrW.tr {kb : Int} {I J K : Nat → Int → Int} (h : FrW kb I J) (h2 : FrW kb J K) : FrW kb I K := fun o k hs => (h2 o k hs).trans (h o k hs)
theorem FrW.t {kb : Int} {I J : Nat → Int → Int} (h : FrW kb I J) : J 41 = I 41 ∧ J 32 13 = I 32 13 := ⟨funext (fun k => h 41 k (by unfold tW; omega)), h 32 13 (by unfold tW; omega)⟩
theorem RDr_fn {J K : Nat → Int → Int} {kb : Int} {D : Dr} (h : RDr J kb D) (h2 : FrN J K) : RDr K kb D :=
  ⟨fun i h0 h1 => by rw [h2 37 _ (by omega), h2 38 _ (by omega)]; exact h.1 i h0 h1, fun i h0 h1 => by rw [h2 39 _ (by omega), h2 40 _ (by omega)]; exact h.2 i h0 h1⟩
theorem up_i {f g : Nat → Int → Int} {o : Nat} {b k i v : Int} (h : f o (b + k) = g o k) : up f o (b + i) v o (b + k) = up g o i v o k := by
  unfold up
  by_cases hk : k = i
  · subst hk; rw [if_pos ⟨rfl, rfl⟩, if_pos ⟨rfl, rfl⟩]
  · rw [if_neg (by omega), if_neg (by omega)]; exact h
theorem RDr_37 {J : Nat → Int → Int} {kb i v : Int} {D : Dr} (h : RDr J kb D) : RDr (up J 37 (180 * kb + i) v) kb (up D 37 i v) :=
  ⟨fun k h0 h1 => ⟨up_i (h.1 k h0 h1).1, by rw [up_o _ _ _ _ (by decide), up_o _ _ _ _ (by decide)]; exact (h.1 k h0 h1).2⟩, fun k h0 h1 => by rw [up_o _ _ _ _ (by decide), up_o _ _ _ _ (by decide), up_o _ _ _ _ (by decide), up_o _ _ _ _ (by decide)]; exact h.2 k h0 h1⟩
theorem RDr_38 {J : Nat → Int → Int} {kb i v : Int} {D : Dr} (h : RDr J kb D) : RDr (up J 38 (180 * kb + i) v) kb (up D 38 i v) :=
  ⟨fun k h0 h1 => ⟨by rw [up_o _ _ _ _ (by decide), up_o _ _ _ _ (by decide)]; exact (h.1 k h0 h1).1, up_i (h.1 k h0 h1).2⟩, fun k h0 h1 => by rw [up_o _ _ _ _ (by decide), up_o _ _ _ _ (by decide), up_o _ _ _ _ (by decide), up_o _ _ _ _ (by decide)]; exact h.2 k h0 h1⟩
theorem RDr_39 {J : Nat → Int → Int} {kb i v : Int} {D : Dr} (h : RDr J kb D) : RDr (up J 39 (1080 * kb + i) v) kb (up D 39 i v) :=
  ⟨fun k h0 h1 => by rw [up_o _ _ _ _ (by decide), up_o _ _ _ _ (by decide), up_o _ _ _ _ (by decide), up_o _ _ _ _ (by decide)]; exact h.1 k h0 h1, fun k h0 h1 => ⟨up_i (h.2 k h0 h1).1, by rw [up_o _ _ _ _ (by decide), up_o _ _ _ _ (by decide)]; exact (h.2 k h0 h1).2⟩⟩
theorem RDr_40 {J : Nat → Int → Int} {kb i v : Int} {D : Dr} (h : RDr J kb D) : RDr (up J 40 (1080 * kb + i) v) kb (up D 40 i v) :=
  ⟨fun k h0 h1 => by rw [up_o _ _ _ _ (by decide), up_o _ _ _ _ (by decide), up_o _ _ _ _ (by decide), up_o _ _ _ _ (by decide)]; exact h.1 k h0 h1, fun k h0 h1 => ⟨by rw [up_o _ _ _ _ (by decide), up_o _ _ _ _ (by decide)]; exact (h.2 k h0 h1).1, up_i (h.2 k h0 h1).2⟩⟩
theorem RDr_d {J : Nat → Int → Int} {kb : Int} {D D' : Dr} (h : RDr J kb D) (he : ∀ (o : Nat) (k : Int), 37 ≤ o → o ≤ 40 → D' o k = D o k) : RDr J kb D' :=
  ⟨fun i h0 h1 => by rw [he 37 i (by decide) (by decide), he 38 i (by decide) (by decide)]; exact h.1 i h0 h1, fun i h0 h1 => by rw [he 39 i (by decide) (by decide), he 40 i (by decide) (by decide)]; exact h.2 i h0 h1⟩
theorem RDr_u {J : Nat → Int → Int} {kb : Int} {D : Dr} {k v : Int} (h : RDr J kb D) : RDr (up J 32 k v) kb D :=
  ⟨fun i h0 h1 => by rw [up_o _ _ _ _ (by decide), up_o _ _ _ _ (by decide)]; exact h.1 i h0 h1, fun i h0 h1 => by rw [up_o _ _ _ _ (by decide), up_o _ _ _ _ (by decide)]; exact h.2 i h0 h1⟩
theorem aged_up (D : Dr) (x i v n1 : Int) : up (up (up (up D 39 x v) 40 x 0) 38 i n1) 40 x 1 = up (up (up D 39 x v) 40 x 1) 38 i n1 := by
  funext o k
  unfold up
  by_cases h1 : o = 40 ∧ k = x
  · rw [if_pos h1, if_neg (by omega), if_pos h1]
  · rw [if_neg h1, if_neg h1]
    by_cases h2 : o = 38 ∧ k = i
    · rw [if_pos h2, if_pos h2]
    · rw [if_neg h2, if_neg h2, if_neg h1]
/-- how reading a number, a sign comes out -/
def rnO (T : Int → Int) (N p most : Int) (I J : Nat → Int → Int) (f : Int) : Prop := (f = 1 ∧ ¬ dgP T N p ∧ J 32 14 = p) ∨ (f = 2 ∧ dgP T N p ∧ (2 < dc T N p ∨ most < vN T p (dc T N p).toNat) ∧ J 32 14 = p) ∨ (f = 0 ∧ dgP T N p ∧ ¬ (2 < dc T N p ∨ most < vN T p (dc T N p).toNat) ∧ J 32 14 = I 32 14 ∧ J 32 15 = p + dc T N p ∧ J 32 16 = vN T p (dc T N p).toNat ∧ J 32 17 = p)
def rsO (T : Int → Int) (N p c : Int) (I J : Nat → Int → Int) (f : Int) : Prop := (f = 1 ∧ sgE T N p ≠ c ∧ J 32 14 = p) ∨ (f = 0 ∧ sgE T N p = c ∧ J 32 14 = I 32 14 ∧ J 32 15 = p + 1)
section
variable {I : Nat → Int → Int} {L : Nat → Int → BitVec 64} {R : Nat → Int → Option Nat} {n : Nat} {m : Mm} {Q : Option AV → Mm → Prop} {T : Int → Int} {N : Int}
theorem ct_he (hn : 57 ≤ n) (hFx : Fx R) (hT : TxW I) (hJT : I 41 = T) (hJN : I 32 13 = N) (h0 : 0 ≤ I 32 15) (h1 : I 32 15 ≤ N) (hq : ∀ J, FrN I J → J 32 14 = I 32 14 → J 32 16 = I 32 16 → J 32 17 = I 32 17 → J 32 15 = sk T N (I 32 15) → Q (some (vi (sgE T N (sk T N (I 32 15))))) (J, L, R, n)) : Wp mX12_here 0 [some (vr (some 32))] [] (I, L, R, n) (0, 0) Q := by
  subst hJT; subst hJN
  exact ct_X12_here hn hFx hT h0 h1 (fun J hF hk h15 => hq J hF (hk 14 (by omega)) (hk 16 (by omega)) (hk 17 (by omega)) h15)
theorem ct_rn {most : Int} (hn : 57 ≤ n) (hFx : Fx R) (hT : TxW I) (hJT : I 41 = T) (hJN : I 32 13 = N) (hm : 0 ≤ most ∧ most ≤ 99) (h0 : 0 ≤ I 32 15) (h1 : I 32 15 ≤ N) (hq : ∀ J f, 0 ≤ f → f ≤ 2 → FrN I J → rnO T N (sk T N (I 32 15)) most I J f → Q (some (vi f)) (J, L, R, n)) : Wp mX12_readNumber 0 [some (vr (some 32)), some (vi most), none] [] (I, L, R, n) (0, 0) Q := by
  subst hJT; subst hJN
  exact ct_X12_readNumber hn hFx hT hm h0 h1 rfl (fun J hF h2 h3 => hq J 1 (by omega) (by omega) hF (Or.inl ⟨rfl, h2, h3⟩)) (fun J hF h2 h3 h4 => hq J 2 (by omega) (by omega) hF (Or.inr (Or.inl ⟨rfl, h2, h3, h4⟩))) (fun J hF h2 h3 h4 h5 h6 h7 => hq J 0 (by omega) (by omega) hF (Or.inr (Or.inr ⟨rfl, h2, h3, h4, h5, h6, h7⟩)))
theorem ct_rs {c : Int} (hn : 57 ≤ n) (hFx : Fx R) (hT : TxW I) (hJT : I 41 = T) (hJN : I 32 13 = N) (hc : 0 ≤ c ∧ c ≤ 255) (h0 : 0 ≤ I 32 15) (h1 : I 32 15 ≤ N) (hq : ∀ J f, 0 ≤ f → f ≤ 1 → FrN I J → rsO T N (sk T N (I 32 15)) c I J f → Q (some (vi f)) (J, L, R, n)) : Wp mX12_readSign 0 [some (vr (some 32)), some (vi c)] [] (I, L, R, n) (0, 0) Q := by
  subst hJT; subst hJN
  exact ct_X12_readSign hn hFx hT hc h0 h1 (fun J hF h2 h3 => hq J 1 (by omega) (by omega) hF (Or.inl ⟨rfl, h2, h3⟩)) (fun J hF h2 h3 h4 => hq J 0 (by omega) (by omega) hF (Or.inr ⟨rfl, h2, h3, h4⟩))
end
section
variable {T : Int → Int} {N nx hd p : Int} {D : Dr}
theorem out_n1 (hp : p ≤ N) (hnd : ¬ dgP T N p) (hsp : ¬ (p < N ∧ T p = 32)) (hx : nx = 0 ∧ p < N ∨ nx = 2 ∧ sgE T N p ≠ 40 ∨ nx = 3 ∨ nx = 5) : (out T N nx hd p D).1 = 1 ∧ (out T N nx hd p D).2.1 = p := by
  by_cases h : p < N
  · have hT : sgE T N p = T p := sgE_t h
    rw [out_f h (x := 1) (by unfold stp; rw [if_neg hnd, if_neg (by omega), if_neg (by omega), if_neg (by omega), if_neg (by omega), if_neg (by omega), if_neg (by omega), if_neg (by omega)])]
    exact ⟨rfl, rfl⟩
  · rw [out_end (by omega), if_neg (by omega)]
    exact ⟨rfl, by show N = p; omega⟩
theorem out_n2 (hd0 : dgP T N p) (hx : nx = 0 ∨ nx = 2 ∨ nx = 3 ∨ nx = 5) (h : 2 < dc T N p ∨ (if nx = 3 then (6 : Int) else 60) ≤ vN T p (dc T N p).toNat) : (out T N nx hd p D).1 = 2 ∧ (out T N nx hd p D).2.1 = p := by
  rw [out_f hd0.1 (x := 2) (by unfold stp; rw [if_pos hd0, if_pos hx, if_pos h])]
  exact ⟨rfl, rfl⟩
theorem out_w4 (hd0 : dgP T N p) (hx : nx = 2 ∨ nx = 5) (h : ¬ (2 < dc T N p ∨ 59 < vN T p (dc T N p).toNat)) (h4 : anyB (fun k => decide (D 39 (6 * cur D hd + k) = vN T p (dc T N p).toNat)) (D 38 (cur D hd)).toNat = true) : (out T N nx hd p D).1 = 4 ∧ (out T N nx hd p D).2.1 = p := by
  rw [out_f hd0.1 (x := 4) (by unfold stp; rw [if_pos hd0, if_pos (by omega), if_neg (by rw [if_neg (by omega)]; omega), if_neg (by omega), if_neg (by omega), if_pos h4])]
  exact ⟨rfl, rfl⟩
theorem out_w5 (hd0 : dgP T N p) (hx : nx = 2 ∨ nx = 5) (h : ¬ (2 < dc T N p ∨ 59 < vN T p (dc T N p).toNat)) (h4 : ¬ anyB (fun k => decide (D 39 (6 * cur D hd + k) = vN T p (dc T N p).toNat)) (D 38 (cur D hd)).toNat = true) (h5 : 6 ≤ D 38 (cur D hd)) : (out T N nx hd p D).1 = 5 ∧ (out T N nx hd p D).2.1 = p := by
  rw [out_f hd0.1 (x := 5) (by unfold stp; rw [if_pos hd0, if_pos (by omega), if_neg (by rw [if_neg (by omega)]; omega), if_neg (by omega), if_neg (by omega), if_neg h4, if_pos h5])]
  exact ⟨rfl, rfl⟩
theorem out_w (hd0 : dgP T N p) (hx : nx = 2 ∨ nx = 5) (h : ¬ (2 < dc T N p ∨ 59 < vN T p (dc T N p).toNat)) (h4 : ¬ anyB (fun k => decide (D 39 (6 * cur D hd + k) = vN T p (dc T N p).toNat)) (D 38 (cur D hd)).toNat = true) (h5 : ¬ 6 ≤ D 38 (cur D hd)) : out T N nx hd p D = out T N 6 hd (p + dc T N p) (addW D (cur D hd) (vN T p (dc T N p).toNat)) :=
  out_s hd0.1 (by unfold stp; rw [if_pos hd0, if_pos (by omega), if_neg (by rw [if_neg (by omega)]; omega), if_neg (by omega), if_neg (by omega), if_neg h4, if_neg h5])
theorem out_h3 (hd0 : dgP T N p) (h : ¬ (2 < dc T N p ∨ 59 < vN T p (dc T N p).toNat)) (h4 : D 41 (vN T p (dc T N p).toNat) = 1) : (out T N 0 hd p D).1 = 3 ∧ (out T N 0 hd p D).2.1 = p := by
  rw [out_f hd0.1 (x := 3) (by unfold stp; rw [if_pos hd0, if_pos (by omega), if_neg (by rw [if_neg (by omega)]; omega), if_pos rfl, if_pos h4])]
  exact ⟨rfl, rfl⟩
theorem out_h (hd0 : dgP T N p) (h : ¬ (2 < dc T N p ∨ 59 < vN T p (dc T N p).toNat)) (h4 : ¬ D 41 (vN T p (dc T N p).toNat) = 1) : out T N 0 hd p D = out T N 1 (vN T p (dc T N p).toNat) (p + dc T N p) (up D 41 (vN T p (dc T N p).toNat) 1) :=
  out_s hd0.1 (by unfold stp; rw [if_pos hd0, if_pos (by omega), if_neg (by rw [if_neg (by omega)]; omega), if_pos rfl, if_neg h4])
theorem out_fd (hd0 : dgP T N p) (h : ¬ (2 < dc T N p ∨ 5 < vN T p (dc T N p).toNat)) : out T N 3 hd p D = out T N 4 hd (p + dc T N p) (up D 37 (cur D hd) (vN T p (dc T N p).toNat)) :=
  out_s hd0.1 (by unfold stp; rw [if_pos hd0, if_pos (by omega), if_neg (by rw [if_pos rfl]; omega), if_neg (by omega), if_pos rfl])
theorem out_se (h : p < N) (hx : (T p = 58 ∧ nx = 1) ∨ (T p = 124 ∧ (nx = 6 ∨ nx = 7))) (h3 : ¬ 3 ≤ D 36 hd) : out T N nx hd p D = out T N 2 hd (p + 1) (addS D hd) :=
  out_s h (by unfold stp; rw [if_neg (by omega), if_neg (by omega), if_pos hx, if_neg h3])
theorem out_se5 (h : p < N) (hx : T p = 124 ∧ (nx = 6 ∨ nx = 7)) (h3 : 3 ≤ D 36 hd) : (out T N nx hd p D).1 = 5 ∧ (out T N nx hd p D).2.1 = p := by
  rw [out_f h (x := 5) (by unfold stp; rw [if_neg (by omega), if_neg (by omega), if_pos (by omega), if_pos h3])]
  exact ⟨rfl, rfl⟩
theorem out_op (h : p < N) (hx : T p = 40) : out T N 2 hd p D = out T N 3 hd (p + 1) D :=
  out_s h (by unfold stp; rw [if_neg (by omega), if_neg (by omega), if_neg (by omega), if_pos (by omega)])
theorem out_cl (h : p < N) (hx : T p = 41) : out T N 4 hd p D = out T N 5 hd (p + 1) D :=
  out_s h (by unfold stp; rw [if_neg (by omega), if_neg (by omega), if_neg (by omega), if_neg (by omega), if_pos (by omega)])
theorem out_co (h : p < N) (hx : T p = 44) (hn : nx = 6 ∨ nx = 7) : out T N nx hd p D = out T N 5 hd (p + 1) D :=
  out_s h (by unfold stp; rw [if_neg (by omega), if_neg (by omega), if_neg (by omega), if_neg (by omega), if_neg (by omega), if_pos (by omega)])
theorem out_sc (h : p < N) (hx : T p = 59) (hn : nx = 6 ∨ nx = 7) : out T N nx hd p D = out T N 0 hd (p + 1) D :=
  out_s h (by unfold stp; rw [if_neg (by omega), if_neg (by omega), if_neg (by omega), if_neg (by omega), if_neg (by omega), if_neg (by omega), if_pos (by omega)])
theorem out_st (h : p < N) (hx : T p = 42) : out T N 6 hd p D = out T N 7 hd (p + 1) (up D 40 (6 * cur D hd + (D 38 (cur D hd) - 1)) 1) :=
  out_s h (by unfold stp; rw [if_neg (by omega), if_neg (by omega), if_neg (by omega), if_neg (by omega), if_neg (by omega), if_neg (by omega), if_neg (by omega), if_pos (by omega)])
theorem out_m1 (hp : p ≤ N) (hsp : ¬ (p < N ∧ T p = 32)) (hx : nx = 1 ∧ sgE T N p ≠ 58 ∨ nx = 4 ∧ sgE T N p ≠ 41 ∨ (nx = 6 ∨ nx = 7) ∧ sgE T N p ≠ 124 ∧ sgE T N p ≠ 44 ∧ sgE T N p ≠ 59 ∧ (nx = 6 → sgE T N p ≠ 42)) : (out T N nx hd p D).1 = 1 ∧ (out T N nx hd p D).2.1 = p := by
  by_cases h : p < N
  · have hT : sgE T N p = T p := sgE_t h
    rw [hT] at hx
    by_cases hg : dgP T N p
    · rw [out_f h (x := 1) (by unfold stp; rw [if_pos hg, if_neg (by omega)])]
      exact ⟨rfl, rfl⟩
    · rw [out_f h (x := 1) (by unfold stp; rw [if_neg hg, if_neg (by omega), if_neg (by omega), if_neg (by omega), if_neg (by omega), if_neg (by omega), if_neg (by omega), if_neg (by omega)])]
      exact ⟨rfl, rfl⟩
  · rw [out_end (by omega), if_neg (by omega)]
    exact ⟨rfl, by show N = p; omega⟩
end

