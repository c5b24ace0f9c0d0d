/-! ===== the reference: promise 14 ===== -/
section
variable {I : Nat → Int → Int} {L : Nat → Int → BitVec 64} {R : Nat → Int → Option Nat} {n : Nat} {m : Mm} {Q : Option AV → Mm → Prop}
theorem up_up {α : Type} (f : Nat → Int → α) (o : Nat) (k : Int) (u v : α) : up (up f o k u) o k v = up f o k v := by
  funext o' k'; unfold up; split <;> simp_all
/-- of a set's first k words all neighbours, with the set g -/
def exN (nb : Nat → BitVec 64) (had g : BitVec 64) : Nat → BitVec 64
  | 0 => g
  | k + 1 => exN nb had g k ||| (if had.getLsbD k = true then nb k else 0#64)
theorem exN_bit (nb : Nat → BitVec 64) (had g : BitVec 64) (i : Nat) : ∀ k : Nat, (exN nb had g k).getLsbD i = true ↔ g.getLsbD i = true ∨ ∃ x, x < k ∧ had.getLsbD x = true ∧ (nb x).getLsbD i = true
  | 0 => by simp [exN]
  | k + 1 => by
    simp only [exN, BitVec.getLsbD_or, Bool.or_eq_true, exN_bit nb had g i k]
    constructor
    · rintro ((h | ⟨x, h1, h2, h3⟩) | h)
      · exact Or.inl h
      · exact Or.inr ⟨x, by omega, h2, h3⟩
      · split at h
        · rename_i h4; exact Or.inr ⟨k, by omega, h4, h⟩
        · simp at h
    · rintro (h | ⟨x, h1, h2, h3⟩)
      · exact Or.inl (Or.inl h)
      · rcases Nat.lt_or_ge x k with h4 | h4
        · exact Or.inl (Or.inr ⟨x, h4, h2, h3⟩)
        · have : x = k := by omega
          subst this; right; rw [if_pos h2]; exact h3
theorem exN60 {nb : Nat → BitVec 64} {had g : BitVec 64} (hn : ∀ x : Nat, x < 60 → ∀ i : Nat, 60 ≤ i → (nb x).getLsbD i = false) (hg : ∀ i : Nat, 60 ≤ i → g.getLsbD i = false) : ∀ k : Nat, k ≤ 60 → ∀ i : Nat, 60 ≤ i → (exN nb had g k).getLsbD i = false
  | 0, _ => hg
  | k + 1, hk => by
    simp only [exN]
    refine or60 (exN60 hn hg k (by omega)) ?_
    split
    · exact hn k (by omega)
    · exact zero60
/-- more words: more counted -/
theorem pcN_mono {s t : BitVec 64} (h : ∀ i : Nat, i < 60 → s.getLsbD i = true → t.getLsbD i = true) : ∀ k : Nat, k ≤ 60 → pcN s k ≤ pcN t k
  | 0, _ => by simp [pcN]
  | k + 1, hk => by
    have ih := pcN_mono h k (by omega)
    have hb := h k (by omega)
    simp only [pcN]
    by_cases h1 : s.getLsbD k = true
    · rw [if_pos h1, if_pos (hb h1)]; omega
    · rw [if_neg h1]; split <;> omega
theorem pcN_strict {s t : BitVec 64} (h : ∀ i : Nat, i < 60 → s.getLsbD i = true → t.getLsbD i = true) {j : Nat} (hj0 : s.getLsbD j = false) (hj1 : t.getLsbD j = true) : ∀ k : Nat, k ≤ 60 → j < k → pcN s k < pcN t k
  | 0, _, hj => by omega
  | k + 1, hk, hj => by
    have hb := h k (by omega)
    simp only [pcN]
    rcases Nat.lt_or_ge j k with h4 | h4
    · have ih := pcN_strict h hj0 hj1 k (by omega) h4
      by_cases h1 : s.getLsbD k = true
      · rw [if_pos h1, if_pos (hb h1)]; omega
      · rw [if_neg h1]; split <;> omega
    · have : j = k := by omega
      subst this
      have ih := pcN_mono h j (by omega)
      rw [if_neg (by rw [hj0]; decide), if_pos hj1]; omega
theorem bv_diff {s t : BitVec 64} (h : ¬ s = t) : ∃ i : Nat, i < 64 ∧ s.getLsbD i ≠ t.getLsbD i := by
  apply Classical.byContradiction
  intro hn
  apply h
  apply BitVec.eq_of_getLsbD_eq
  intro i hi
  apply Classical.byContradiction
  intro hc
  exact hn ⟨i, hi, hc⟩
/-- a group that grows: it has its word t, and nothing that isn't in t's closure -/
def grw (nb : Nat → BitVec 64) (t : Nat) (g : BitVec 64) : Prop := g.getLsbD t = true ∧ (∀ i : Nat, 60 ≤ i → g.getLsbD i = false) ∧ ∀ i : Nat, i < 60 → g.getLsbD i = true → inClo nb t i
theorem grw_ex {nb : Nat → BitVec 64} {t : Nat} {g : BitVec 64} (hn : ∀ x : Nat, x < 60 → ∀ i : Nat, 60 ≤ i → (nb x).getLsbD i = false) (h : grw nb t g) : grw nb t (exN nb g g 60) := by
  refine ⟨(exN_bit nb g g t 60).mpr (Or.inl h.1), exN60 hn h.2.1 60 (by omega), fun i hi hb => ?_⟩
  rcases (exN_bit nb g g i 60).mp hb with h1 | ⟨x, h1, h2, h3⟩
  · exact h.2.2 i hi h1
  · exact fun S hS ht => hS x h1 (h.2.2 x h1 h2 S hS ht) i hi h3
theorem grw_done {nb : Nat → BitVec 64} {t : Nat} {g : BitVec 64} (h : grw nb t g) (he : exN nb g g 60 = g) : ∀ i : Nat, i < 60 → g.getLsbD i = cloB nb t i := by
  intro i hi
  have hcl : NCl nb g := fun x hx hg j hj hb => by rw [← he]; exact (exN_bit nb g g j 60).mpr (Or.inr ⟨x, hx, hg, hb⟩)
  rw [Bool.eq_iff_iff, cloB_iff]
  exact ⟨h.2.2 i hi, fun hc => hc g hcl h.1⟩
theorem nrN_t {lk a w b : Int} {x k : Nat} (h1 : (gv I lk a w b).getLsbD k = true) (h2 : ¬ miX I lk a w b x &&& gv I lk b k a = 0#64) : nrN I lk a w b x k ||| 1#64 <<< k = nrN I lk a w b x (k + 1) := by
  simp only [nrN]; rw [if_pos ⟨h1, h2⟩]
theorem nrN_f {lk a w b : Int} {x k : Nat} (h : ¬ ((gv I lk a w b).getLsbD k = true ∧ ¬ miX I lk a w b x &&& gv I lk b k a = 0#64)) : nrN I lk a w b x k ||| 0#64 = nrN I lk a w b x (k + 1) := by
  simp only [nrN]; rw [if_neg h]
theorem nsN_t {lk a w b : Int} {x k : Nat} (h : (ss I (I 32 10) (3 * ent I lk a w b + k)).getLsbD x = true) : nsN I lk a w b x k ||| ss I (I 32 10) (3 * ent I lk a w b + k) = nsN I lk a w b x (k + 1) := by
  simp only [nsN]; rw [if_pos h]
theorem nsN_f {lk a w b : Int} {x k : Nat} (h : ¬ (ss I (I 32 10) (3 * ent I lk a w b + k)).getLsbD x = true) : nsN I lk a w b x k ||| 0#64 = nsN I lk a w b x (k + 1) := by
  simp only [nsN]; rw [if_neg h]
theorem exN_t {nb : Nat → BitVec 64} {had g v : BitVec 64} {k : Nat} (h : had.getLsbD k = true) (hv : v = nb k) : exN nb had g k ||| v = exN nb had g (k + 1) := by
  simp only [exN]; rw [if_pos h, hv]
theorem exN_f {nb : Nat → BitVec 64} {had g : BitVec 64} {k : Nat} (h : ¬ had.getLsbD k = true) : exN nb had g k ||| 0#64 = exN nb had g (k + 1) := by
  simp only [exN]; rw [if_neg h]
set_option maxHeartbeats 4000000 in
theorem ct_X12_meanings {a w b : Int} (hn : 57 ≤ n) (hFx : Fx R) (hW : RW I) (ha : inR a) (hw : inR w) (hb : inR b) (hq : ∀ K, EqvL L K → Q (some (vi (aMean I (I 32 11) a w b))) (I, K, R, n)) : Wp mX12_meanings 0 [some (vr (some 32)), some (vi a), some (vi w), some (vi b), none, none, none, none, none, none, none, none, none, none, none] [] (I, L, R, n) (0, 0) Q := by
  have hA := hW.2.2.2.2.1
  by_cases hok : tgP a ∧ wdP w ∧ tgP b ∧ a ≠ b
  · obtain ⟨hta, htw, htb, hab⟩ := hok
    have hE0 := hW.entOk (lk := I 32 11) (a := a) (b := b) (w := w) (by omega) (by omega)
    have hcE := cntE_end hE0
    have hn60 : ∀ x : Nat, x < 60 → ∀ i : Nat, 60 ≤ i → (nbr I (I 32 11) a w b x).getLsbD i = false := fun x hx => nbr60 hW (by omega) (by omega) hx
    have hg60 := gv60 hW (I 32 11) a b (w := w) (by omega) (by omega)
    have hq2 : ∀ K v, EqvL L K → v = (mnF (nbr I (I 32 11) a w b) (gv I (I 32 11) a w b) 60).2 → Q (some (vi v)) (I, K, R, n) := fun K v h e => by
      have := hq K h
      unfold aMean at this
      rw [if_pos ⟨hta, htw, htb⟩, if_neg hab, ← e] at this
      exact this
    have ly : ∀ (K : Nat → Int → BitVec 64) (x : Nat) (hx : x < 60) (mi : BitVec 64) (hmi : mi = miX I (I 32 11) a w b x) (hc' : ∀ (x10 x11 : Option AV), Wp mX12_meanings 181 [some (vr (some 32)), some (vi a), some (vi w), some (vi b), some (vl (gv I (I 32 11) a w b)), none, some (vi (ent I (I 32 11) a w b)), some (vi x), some (vl (miX I (I 32 11) a w b x)), none, some (vi 60), x11, none, none, none] [] (I, up K 42 x (nrN I (I 32 11) a w b x 60), R, n) (0, 0) Q) , ∀ (tt k : Nat) (z : Int) (v : BitVec 64) (x11 : Option AV), k + tt = 60 → z = k → v = nrN I (I 32 11) a w b x k → Wp mX12_meanings 110 [some (vr (some 32)), some (vi a), some (vi w), some (vi b), some (vl (gv I (I 32 11) a w b)), none, some (vi (ent I (I 32 11) a w b)), some (vi x), some (vl mi), none, some (vi z), x11, none, none, none] [] (I, up K 42 x v, R, n) (0, 0) Q := by
      intro K x hx mi hmi hc'
      intro tt
      induction tt with
      | zero =>
        intro k z v x11 hkt hz e0
        obtain rfl : k = 60 := by omega
        subst hmi
        refine Wp.iload rfl dX12_meanings_110 ?_
        refine Wp.bipush rfl dX12_meanings_112 ?_
        refine Wp.icmp_ge (tgt := 181) dX12_meanings_114 (by decide) (by first | omega | exact bI_R _ | exact cmp_R _ _ | assumption) (by first | omega | exact bI_R _ | exact cmp_R _ _ | assumption) (fun c114 => ?_) (fun c114 => ?_)
        · subst e0; subst hz; exact hc' none _
        · exfalso; omega
      | succ tt ih =>
        intro k z v x11 hkt hz e0
        subst hz
        subst e0
        subst hmi
        refine Wp.iload rfl dX12_meanings_110 ?_
        refine Wp.bipush rfl dX12_meanings_112 ?_
        refine Wp.icmp_ge (tgt := 181) dX12_meanings_114 (by decide) (by first | omega | exact bI_R _ | exact cmp_R _ _ | assumption) (by first | omega | exact bI_R _ | exact cmp_R _ _ | assumption) (fun c114 => ?_) (fun c114 => ?_)
        · exfalso; omega
        · refine Wp.lload rfl dX12_meanings_117 ?_
          refine Wp.iload rfl dX12_meanings_119 ?_
          refine Wp.lshr (by omega) (by omega) dX12_meanings_121 ?_
          refine Wp.lconst1 dX12_meanings_122 ?_
          refine Wp.land dX12_meanings_123 ?_
          refine Wp.lconst1 dX12_meanings_124 ?_
          refine Wp.lcmp dX12_meanings_125 ?_
          refine Wp.if_neC (tgt := 149) dX12_meanings_126 (by decide) (fun c126 => ?_) (fun c126 => ?_)
          · refine Wp.iconst dX12_meanings_149 ?_
            refine Wp.istore (ls' := [_, _, _, _, _, _, _, _, _, _, _, _, _, _, _]) dX12_meanings_150 (by decide) rfl ?_
            refine Wp.aload_n rfl dX12_meanings_152 ?_
            refine Wp.gr (kz := 18) rfl dX12_meanings_153 fkX12_52 (by first | rfl | exact kd_b0 _ | exact kd_b1 _ | exact kd_b2 _ | exact kd_b3 _ | exact kd_b4 _ | exact kd_b5 _ | exact kd_b6 _) (by omega) (by first | exact hFx _ 18 _ rfl | assumption | exact hBk.1 | exact hBk.2.1 | exact hBk.2.2.1 | exact hBk.2.2.2.1 | exact hBk.2.2.2.2.1 | exact hBk.2.2.2.2.2) ?_
            refine Wp.iload rfl dX12_meanings_156 ?_
            first | refine Wp.dup2IR dX12_meanings_158 ?_ | refine Wp.dup2II dX12_meanings_158 ?_
            refine Wp.laload dX12_meanings_159 (by first | rfl | exact kd_b0 _ | exact kd_b1 _ | exact kd_b2 _ | exact kd_b3 _ | exact kd_b4 _ | exact kd_b5 _ | exact kd_b6 _) (by omega) (by omega) (by omega) ?_
            rw [up_same]
            refine Wp.iload rfl dX12_meanings_160 ?_
            refine Wp.if_eq (tgt := 172) dX12_meanings_162 (by decide) (by first | omega | exact bI_R _ | exact cmp_R _ _ | assumption) (fun c162 => ?_) (fun c162 => ?_)
            · refine Wp.lconst0 dX12_meanings_172 ?_
              refine Wp.lor dX12_meanings_173 ?_
              refine Wp.lastore dX12_meanings_174 (by first | rfl | exact kd_b0 _ | exact kd_b1 _ | exact kd_b2 _ | exact kd_b3 _ | exact kd_b4 _ | exact kd_b5 _ | exact kd_b6 _) (by omega) (by omega) (by omega) ?_
              rw [up_up]
              refine Wp.iinc (ls' := [_, _, _, _, _, _, _, _, _, _, _, _, _, _, _]) rfl dX12_meanings_175 (by decide) rfl ?_
              refine Wp.goto (tgt := 110) dX12_meanings_178 (by decide) ?_
              first | exact ih (k + 1) _ _ _ (by omega) (by omega) (nrN_t ((b_s1 (by omega)).mp c126) c142) | exact ih (k + 1) _ _ _ (by omega) (by omega) (nrN_f (fun q => q.2 c142)) | exact ih (k + 1) _ _ _ (by omega) (by omega) (nrN_f (fun q => c126 ((b_s1 (by omega)).mpr q.1))) | (exfalso; omega)
            · refine Wp.lconst1 dX12_meanings_165 ?_
              refine Wp.iload rfl dX12_meanings_166 ?_
              refine Wp.lshl (by omega) (by omega) dX12_meanings_168 ?_
              refine Wp.goto (tgt := 173) dX12_meanings_169 (by decide) ?_
              refine Wp.lor dX12_meanings_173 ?_
              refine Wp.lastore dX12_meanings_174 (by first | rfl | exact kd_b0 _ | exact kd_b1 _ | exact kd_b2 _ | exact kd_b3 _ | exact kd_b4 _ | exact kd_b5 _ | exact kd_b6 _) (by omega) (by omega) (by omega) ?_
              rw [up_up]
              refine Wp.iinc (ls' := [_, _, _, _, _, _, _, _, _, _, _, _, _, _, _]) rfl dX12_meanings_175 (by decide) rfl ?_
              refine Wp.goto (tgt := 110) dX12_meanings_178 (by decide) ?_
              first | exact ih (k + 1) _ _ _ (by omega) (by omega) (nrN_t ((b_s1 (by omega)).mp c126) c142) | exact ih (k + 1) _ _ _ (by omega) (by omega) (nrN_f (fun q => q.2 c142)) | exact ih (k + 1) _ _ _ (by omega) (by omega) (nrN_f (fun q => c126 ((b_s1 (by omega)).mpr q.1))) | (exfalso; omega)
          · refine Wp.lload rfl dX12_meanings_129 ?_
            refine Wp.aload_n rfl dX12_meanings_131 ?_
            refine Wp.iload_n rfl dX12_meanings_132 ?_
            refine Wp.iload rfl dX12_meanings_133 ?_
            refine Wp.iload_n rfl dX12_meanings_135 ?_
            refine Wp.callV (As := [_, _, _]) (ls0 := [_, _, _, _, _, _, _, _]) (bd := (0, 0)) (bd' := (0, 0)) dX12_meanings_136 kmX12_giving lkX12_191 (by decide) (by decide) (Nat.le_of_ble_eq_true rfl) (by first | rfl | exact kd_b0 _ | exact kd_b1 _ | exact kd_b2 _ | exact kd_b3 _ | exact kd_b4 _ | exact kd_b5 _ | exact kd_b6 _) (by omega) rfl rfl (Nat.le_of_ble_eq_true rfl) rfl ?_
            refine ct_X12_giving hn hFx hW (by omega) (by omega) (by omega) (by omega) ?_
            show Wp _ _ _ (_ :: _) _ _ _
            refine Wp.land dX12_meanings_139 ?_
            refine Wp.lconst0 dX12_meanings_140 ?_
            refine Wp.lcmp dX12_meanings_141 ?_
            refine Wp.if_eqC (tgt := 149) dX12_meanings_142 (by decide) (fun c142 => ?_) (fun c142 => ?_)
            · refine Wp.iconst dX12_meanings_149 ?_
              refine Wp.istore (ls' := [_, _, _, _, _, _, _, _, _, _, _, _, _, _, _]) dX12_meanings_150 (by decide) rfl ?_
              refine Wp.aload_n rfl dX12_meanings_152 ?_
              refine Wp.gr (kz := 18) rfl dX12_meanings_153 fkX12_52 (by first | rfl | exact kd_b0 _ | exact kd_b1 _ | exact kd_b2 _ | exact kd_b3 _ | exact kd_b4 _ | exact kd_b5 _ | exact kd_b6 _) (by omega) (by first | exact hFx _ 18 _ rfl | assumption | exact hBk.1 | exact hBk.2.1 | exact hBk.2.2.1 | exact hBk.2.2.2.1 | exact hBk.2.2.2.2.1 | exact hBk.2.2.2.2.2) ?_
              refine Wp.iload rfl dX12_meanings_156 ?_
              first | refine Wp.dup2IR dX12_meanings_158 ?_ | refine Wp.dup2II dX12_meanings_158 ?_
              refine Wp.laload dX12_meanings_159 (by first | rfl | exact kd_b0 _ | exact kd_b1 _ | exact kd_b2 _ | exact kd_b3 _ | exact kd_b4 _ | exact kd_b5 _ | exact kd_b6 _) (by omega) (by omega) (by omega) ?_
              rw [up_same]
              refine Wp.iload rfl dX12_meanings_160 ?_
              refine Wp.if_eq (tgt := 172) dX12_meanings_162 (by decide) (by first | omega | exact bI_R _ | exact cmp_R _ _ | assumption) (fun c162 => ?_) (fun c162 => ?_)
              · refine Wp.lconst0 dX12_meanings_172 ?_
                refine Wp.lor dX12_meanings_173 ?_
                refine Wp.lastore dX12_meanings_174 (by first | rfl | exact kd_b0 _ | exact kd_b1 _ | exact kd_b2 _ | exact kd_b3 _ | exact kd_b4 _ | exact kd_b5 _ | exact kd_b6 _) (by omega) (by omega) (by omega) ?_
                rw [up_up]
                refine Wp.iinc (ls' := [_, _, _, _, _, _, _, _, _, _, _, _, _, _, _]) rfl dX12_meanings_175 (by decide) rfl ?_
                refine Wp.goto (tgt := 110) dX12_meanings_178 (by decide) ?_
                first | exact ih (k + 1) _ _ _ (by omega) (by omega) (nrN_t ((b_s1 (by omega)).mp c126) c142) | exact ih (k + 1) _ _ _ (by omega) (by omega) (nrN_f (fun q => q.2 c142)) | exact ih (k + 1) _ _ _ (by omega) (by omega) (nrN_f (fun q => c126 ((b_s1 (by omega)).mpr q.1))) | (exfalso; omega)
              · refine Wp.lconst1 dX12_meanings_165 ?_
                refine Wp.iload rfl dX12_meanings_166 ?_
                refine Wp.lshl (by omega) (by omega) dX12_meanings_168 ?_
                refine Wp.goto (tgt := 173) dX12_meanings_169 (by decide) ?_
                refine Wp.lor dX12_meanings_173 ?_
                refine Wp.lastore dX12_meanings_174 (by first | rfl | exact kd_b0 _ | exact kd_b1 _ | exact kd_b2 _ | exact kd_b3 _ | exact kd_b4 _ | exact kd_b5 _ | exact kd_b6 _) (by omega) (by omega) (by omega) ?_
                rw [up_up]
                refine Wp.iinc (ls' := [_, _, _, _, _, _, _, _, _, _, _, _, _, _, _]) rfl dX12_meanings_175 (by decide) rfl ?_
                refine Wp.goto (tgt := 110) dX12_meanings_178 (by decide) ?_
                first | exact ih (k + 1) _ _ _ (by omega) (by omega) (nrN_t ((b_s1 (by omega)).mp c126) c142) | exact ih (k + 1) _ _ _ (by omega) (by omega) (nrN_f (fun q => q.2 c142)) | exact ih (k + 1) _ _ _ (by omega) (by omega) (nrN_f (fun q => c126 ((b_s1 (by omega)).mpr q.1))) | (exfalso; omega)
            · refine Wp.iconst dX12_meanings_145 ?_
              refine Wp.goto (tgt := 150) dX12_meanings_146 (by decide) ?_
              refine Wp.istore (ls' := [_, _, _, _, _, _, _, _, _, _, _, _, _, _, _]) dX12_meanings_150 (by decide) rfl ?_
              refine Wp.aload_n rfl dX12_meanings_152 ?_
              refine Wp.gr (kz := 18) rfl dX12_meanings_153 fkX12_52 (by first | rfl | exact kd_b0 _ | exact kd_b1 _ | exact kd_b2 _ | exact kd_b3 _ | exact kd_b4 _ | exact kd_b5 _ | exact kd_b6 _) (by omega) (by first | exact hFx _ 18 _ rfl | assumption | exact hBk.1 | exact hBk.2.1 | exact hBk.2.2.1 | exact hBk.2.2.2.1 | exact hBk.2.2.2.2.1 | exact hBk.2.2.2.2.2) ?_
              refine Wp.iload rfl dX12_meanings_156 ?_
              first | refine Wp.dup2IR dX12_meanings_158 ?_ | refine Wp.dup2II dX12_meanings_158 ?_
              refine Wp.laload dX12_meanings_159 (by first | rfl | exact kd_b0 _ | exact kd_b1 _ | exact kd_b2 _ | exact kd_b3 _ | exact kd_b4 _ | exact kd_b5 _ | exact kd_b6 _) (by omega) (by omega) (by omega) ?_
              rw [up_same]
              refine Wp.iload rfl dX12_meanings_160 ?_
              refine Wp.if_eq (tgt := 172) dX12_meanings_162 (by decide) (by first | omega | exact bI_R _ | exact cmp_R _ _ | assumption) (fun c162 => ?_) (fun c162 => ?_)
              · refine Wp.lconst0 dX12_meanings_172 ?_
                refine Wp.lor dX12_meanings_173 ?_
                refine Wp.lastore dX12_meanings_174 (by first | rfl | exact kd_b0 _ | exact kd_b1 _ | exact kd_b2 _ | exact kd_b3 _ | exact kd_b4 _ | exact kd_b5 _ | exact kd_b6 _) (by omega) (by omega) (by omega) ?_
                rw [up_up]
                refine Wp.iinc (ls' := [_, _, _, _, _, _, _, _, _, _, _, _, _, _, _]) rfl dX12_meanings_175 (by decide) rfl ?_
                refine Wp.goto (tgt := 110) dX12_meanings_178 (by decide) ?_
                first | exact ih (k + 1) _ _ _ (by omega) (by omega) (nrN_t ((b_s1 (by omega)).mp c126) c142) | exact ih (k + 1) _ _ _ (by omega) (by omega) (nrN_f (fun q => q.2 c142)) | exact ih (k + 1) _ _ _ (by omega) (by omega) (nrN_f (fun q => c126 ((b_s1 (by omega)).mpr q.1))) | (exfalso; omega)
              · refine Wp.lconst1 dX12_meanings_165 ?_
                refine Wp.iload rfl dX12_meanings_166 ?_
                refine Wp.lshl (by omega) (by omega) dX12_meanings_168 ?_
                refine Wp.goto (tgt := 173) dX12_meanings_169 (by decide) ?_
                refine Wp.lor dX12_meanings_173 ?_
                refine Wp.lastore dX12_meanings_174 (by first | rfl | exact kd_b0 _ | exact kd_b1 _ | exact kd_b2 _ | exact kd_b3 _ | exact kd_b4 _ | exact kd_b5 _ | exact kd_b6 _) (by omega) (by omega) (by omega) ?_
                rw [up_up]
                refine Wp.iinc (ls' := [_, _, _, _, _, _, _, _, _, _, _, _, _, _, _]) rfl dX12_meanings_175 (by decide) rfl ?_
                refine Wp.goto (tgt := 110) dX12_meanings_178 (by decide) ?_
                first | exact ih (k + 1) _ _ _ (by omega) (by omega) (nrN_t ((b_s1 (by omega)).mp c126) c142) | exact ih (k + 1) _ _ _ (by omega) (by omega) (nrN_f (fun q => q.2 c142)) | exact ih (k + 1) _ _ _ (by omega) (by omega) (nrN_f (fun q => c126 ((b_s1 (by omega)).mpr q.1))) | (exfalso; omega)
    have ls : ∀ (K : Nat → Int → BitVec 64) (x : Nat) (mi : BitVec 64) (hx : x < 60) (hc' : ∀ (x10 x11 : Option AV), Wp mX12_meanings 251 [some (vr (some 32)), some (vi a), some (vi w), some (vi b), some (vl (gv I (I 32 11) a w b)), none, some (vi (ent I (I 32 11) a w b)), some (vi x), some (vl mi), none, x10, x11, none, none, none] [] (I, up K 42 x (nbr I (I 32 11) a w b x), R, n) (0, 0) Q) , ∀ (tt k : Nat) (z : Int) (v : BitVec 64) (x11 : Option AV), k + tt = (cntE I (ent I (I 32 11) a w b)) → z = 3 * ent I (I 32 11) a w b + k → v = nsN I (I 32 11) a w b x k → Wp mX12_meanings 187 [some (vr (some 32)), some (vi a), some (vi w), some (vi b), some (vl (gv I (I 32 11) a w b)), none, some (vi (ent I (I 32 11) a w b)), some (vi x), some (vl mi), none, some (vi z), x11, none, none, none] [] (I, up K 42 x v, R, n) (0, 0) Q := by
      intro K x mi hx hc'
      intro tt
      induction tt with
      | zero =>
        intro k z v x11 hkt hz e0
        obtain rfl : k = (cntE I (ent I (I 32 11) a w b)) := by omega
        refine Wp.iload rfl dX12_meanings_187 ?_
        refine Wp.if_lt (tgt := 251) dX12_meanings_189 (by decide) (by first | omega | exact bI_R _ | exact cmp_R _ _ | assumption) (fun c189 => ?_) (fun c189 => ?_)
        · subst e0; exact hc' _ _
        · refine Wp.iload rfl dX12_meanings_192 ?_
          refine Wp.iconst dX12_meanings_194 ?_
          refine Wp.iload rfl dX12_meanings_195 ?_
          refine Wp.imul dX12_meanings_197 ?_
          refine Wp.aload_n rfl dX12_meanings_198 ?_
          refine Wp.gr (kz := 4) rfl dX12_meanings_199 fkX12_19 (by first | rfl | exact kd_b0 _ | exact kd_b1 _ | exact kd_b2 _ | exact kd_b3 _ | exact kd_b4 _ | exact kd_b5 _ | exact kd_b6 _) (by omega) (by first | exact hFx _ 4 _ rfl | assumption | exact hBk.1 | exact hBk.2.1 | exact hBk.2.2.1 | exact hBk.2.2.2.1 | exact hBk.2.2.2.2.1 | exact hBk.2.2.2.2.2) ?_
          refine Wp.iload rfl dX12_meanings_202 ?_
          refine Wp.iaload dX12_meanings_204 (by first | rfl | exact kd_b0 _ | exact kd_b1 _ | exact kd_b2 _ | exact kd_b3 _ | exact kd_b4 _ | exact kd_b5 _ | exact kd_b6 _) (by omega) (by omega) (by omega) ?_
          refine Wp.iadd dX12_meanings_205 ?_
          refine Wp.icmp_ge (tgt := 251) dX12_meanings_206 (by decide) (by first | omega | exact bI_R _ | exact cmp_R _ _ | assumption) (by first | omega | exact bI_R _ | exact cmp_R _ _ | assumption) (fun c206 => ?_) (fun c206 => ?_)
          · subst e0; exact hc' _ _
          · exfalso; omega
      | succ tt ih =>
        intro k z v x11 hkt hz e0
        subst hz
        subst e0
        obtain ⟨hE, ho0, hk1, hcn⟩ := cntE_le hE0 hkt
        have hE1 := hE.1
        refine Wp.iload rfl dX12_meanings_187 ?_
        refine Wp.if_lt (tgt := 251) dX12_meanings_189 (by decide) (by first | omega | exact bI_R _ | exact cmp_R _ _ | assumption) (fun c189 => ?_) (fun c189 => ?_)
        · exfalso; omega
        · refine Wp.iload rfl dX12_meanings_192 ?_
          refine Wp.iconst dX12_meanings_194 ?_
          refine Wp.iload rfl dX12_meanings_195 ?_
          refine Wp.imul dX12_meanings_197 ?_
          refine Wp.aload_n rfl dX12_meanings_198 ?_
          refine Wp.gr (kz := 4) rfl dX12_meanings_199 fkX12_19 (by first | rfl | exact kd_b0 _ | exact kd_b1 _ | exact kd_b2 _ | exact kd_b3 _ | exact kd_b4 _ | exact kd_b5 _ | exact kd_b6 _) (by omega) (by first | exact hFx _ 4 _ rfl | assumption | exact hBk.1 | exact hBk.2.1 | exact hBk.2.2.1 | exact hBk.2.2.2.1 | exact hBk.2.2.2.2.1 | exact hBk.2.2.2.2.2) ?_
          refine Wp.iload rfl dX12_meanings_202 ?_
          refine Wp.iaload dX12_meanings_204 (by first | rfl | exact kd_b0 _ | exact kd_b1 _ | exact kd_b2 _ | exact kd_b3 _ | exact kd_b4 _ | exact kd_b5 _ | exact kd_b6 _) (by omega) (by omega) (by omega) ?_
          refine Wp.iadd dX12_meanings_205 ?_
          refine Wp.icmp_ge (tgt := 251) dX12_meanings_206 (by decide) (by first | omega | exact bI_R _ | exact cmp_R _ _ | assumption) (by first | omega | exact bI_R _ | exact cmp_R _ _ | assumption) (fun c206 => ?_) (fun c206 => ?_)
          · exfalso; omega
          · refine Wp.aload_n rfl dX12_meanings_209 ?_
            refine Wp.gr (kz := 18) rfl dX12_meanings_210 fkX12_52 (by first | rfl | exact kd_b0 _ | exact kd_b1 _ | exact kd_b2 _ | exact kd_b3 _ | exact kd_b4 _ | exact kd_b5 _ | exact kd_b6 _) (by omega) (by first | exact hFx _ 18 _ rfl | assumption | exact hBk.1 | exact hBk.2.1 | exact hBk.2.2.1 | exact hBk.2.2.2.1 | exact hBk.2.2.2.2.1 | exact hBk.2.2.2.2.2) ?_
            refine Wp.iload rfl dX12_meanings_213 ?_
            first | refine Wp.dup2IR dX12_meanings_215 ?_ | refine Wp.dup2II dX12_meanings_215 ?_
            refine Wp.laload dX12_meanings_216 (by first | rfl | exact kd_b0 _ | exact kd_b1 _ | exact kd_b2 _ | exact kd_b3 _ | exact kd_b4 _ | exact kd_b5 _ | exact kd_b6 _) (by omega) (by omega) (by omega) ?_
            rw [up_same]
            refine Wp.aload_n rfl dX12_meanings_217 ?_
            refine Wp.iload rfl dX12_meanings_218 ?_
            refine Wp.callV (As := [_]) (ls0 := [_, _, _, _, _]) (bd := (0, 0)) (bd' := (0, 0)) dX12_meanings_220 kmX12_senseSet lkX12_178 (by decide) (by decide) (Nat.le_of_ble_eq_true rfl) (by first | rfl | exact kd_b0 _ | exact kd_b1 _ | exact kd_b2 _ | exact kd_b3 _ | exact kd_b4 _ | exact kd_b5 _ | exact kd_b6 _) (by omega) rfl rfl (Nat.le_of_ble_eq_true rfl) rfl ?_
            refine ct_X12_senseSet hn hFx (hE.2 k (by omega) hk1) hA ?_
            show Wp _ _ _ (_ :: _) _ _ _
            refine Wp.iload rfl dX12_meanings_223 ?_
            refine Wp.lshr (by omega) (by omega) dX12_meanings_225 ?_
            refine Wp.lconst1 dX12_meanings_226 ?_
            refine Wp.land dX12_meanings_227 ?_
            refine Wp.lconst1 dX12_meanings_228 ?_
            refine Wp.lcmp dX12_meanings_229 ?_
            refine Wp.if_neC (tgt := 242) dX12_meanings_230 (by decide) (fun c230 => ?_) (fun c230 => ?_)
            · refine Wp.lconst0 dX12_meanings_242 ?_
              refine Wp.lor dX12_meanings_243 ?_
              refine Wp.lastore dX12_meanings_244 (by first | rfl | exact kd_b0 _ | exact kd_b1 _ | exact kd_b2 _ | exact kd_b3 _ | exact kd_b4 _ | exact kd_b5 _ | exact kd_b6 _) (by omega) (by omega) (by omega) ?_
              rw [up_up]
              refine Wp.iinc (ls' := [_, _, _, _, _, _, _, _, _, _, _, _, _, _, _]) rfl dX12_meanings_245 (by decide) rfl ?_
              refine Wp.goto (tgt := 187) dX12_meanings_248 (by decide) ?_
              first | exact ih (k + 1) _ _ _ (by omega) (by omega) (nsN_t ((b_s1 (by omega)).mp c230)) | exact ih (k + 1) _ _ _ (by omega) (by omega) (nsN_f (fun q => c230 ((b_s1 (by omega)).mpr q))) | (exfalso; omega)
            · refine Wp.aload_n rfl dX12_meanings_233 ?_
              refine Wp.iload rfl dX12_meanings_234 ?_
              refine Wp.callV (As := [_]) (ls0 := [_, _, _, _, _]) (bd := (0, 0)) (bd' := (0, 0)) dX12_meanings_236 kmX12_senseSet lkX12_178 (by decide) (by decide) (Nat.le_of_ble_eq_true rfl) (by first | rfl | exact kd_b0 _ | exact kd_b1 _ | exact kd_b2 _ | exact kd_b3 _ | exact kd_b4 _ | exact kd_b5 _ | exact kd_b6 _) (by omega) rfl rfl (Nat.le_of_ble_eq_true rfl) rfl ?_
              refine ct_X12_senseSet hn hFx (hE.2 k (by omega) hk1) hA ?_
              show Wp _ _ _ (_ :: _) _ _ _
              refine Wp.goto (tgt := 243) dX12_meanings_239 (by decide) ?_
              refine Wp.lor dX12_meanings_243 ?_
              refine Wp.lastore dX12_meanings_244 (by first | rfl | exact kd_b0 _ | exact kd_b1 _ | exact kd_b2 _ | exact kd_b3 _ | exact kd_b4 _ | exact kd_b5 _ | exact kd_b6 _) (by omega) (by omega) (by omega) ?_
              rw [up_up]
              refine Wp.iinc (ls' := [_, _, _, _, _, _, _, _, _, _, _, _, _, _, _]) rfl dX12_meanings_245 (by decide) rfl ?_
              refine Wp.goto (tgt := 187) dX12_meanings_248 (by decide) ?_
              first | exact ih (k + 1) _ _ _ (by omega) (by omega) (nsN_t ((b_s1 (by omega)).mp c230)) | exact ih (k + 1) _ _ _ (by omega) (by omega) (nsN_f (fun q => c230 ((b_s1 (by omega)).mpr q))) | (exfalso; omega)
    have lf : ∀ (K : Nat → Int → BitVec 64) (left : BitVec 64) (gr : Int) (had : BitVec 64) (hK : ∀ q : Nat, q < 60 → K 42 q = nbr I (I 32 11) a w b q) (hc' : ∀ (x14 : Option AV), Wp mX12_meanings 338 [some (vr (some 32)), some (vi a), some (vi w), some (vi b), some (vl (gv I (I 32 11) a w b)), none, some (vi (ent I (I 32 11) a w b)), some (vl left), none, some (vi gr), some (vl (exN (nbr I (I 32 11) a w b) had had 60)), none, some (vl had), none, x14] [] (I, K, R, n) (0, 0) Q) , ∀ (tt k : Nat) (z : Int) (g : BitVec 64), k + tt = 60 → z = k → g = exN (nbr I (I 32 11) a w b) had had k → Wp mX12_meanings 297 [some (vr (some 32)), some (vi a), some (vi w), some (vi b), some (vl (gv I (I 32 11) a w b)), none, some (vi (ent I (I 32 11) a w b)), some (vl left), none, some (vi gr), some (vl g), none, some (vl had), none, some (vi z)] [] (I, K, R, n) (0, 0) Q := by
      intro K left gr had hK hc'
      intro tt
      induction tt with
      | zero =>
        intro k z g hkt hz e0
        obtain rfl : k = 60 := by omega
        refine Wp.iload rfl dX12_meanings_297 ?_
        refine Wp.bipush rfl dX12_meanings_299 ?_
        refine Wp.icmp_ge (tgt := 338) dX12_meanings_301 (by decide) (by first | omega | exact bI_R _ | exact cmp_R _ _ | assumption) (by first | omega | exact bI_R _ | exact cmp_R _ _ | assumption) (fun c301 => ?_) (fun c301 => ?_)
        · subst e0; exact hc' _
        · exfalso; omega
      | succ tt ih =>
        intro k z g hkt hz e0
        subst hz
        subst e0
        refine Wp.iload rfl dX12_meanings_297 ?_
        refine Wp.bipush rfl dX12_meanings_299 ?_
        refine Wp.icmp_ge (tgt := 338) dX12_meanings_301 (by decide) (by first | omega | exact bI_R _ | exact cmp_R _ _ | assumption) (by first | omega | exact bI_R _ | exact cmp_R _ _ | assumption) (fun c301 => ?_) (fun c301 => ?_)
        · exfalso; omega
        · refine Wp.lload rfl dX12_meanings_304 ?_
          refine Wp.lload rfl dX12_meanings_306 ?_
          refine Wp.iload rfl dX12_meanings_308 ?_
          refine Wp.lshr (by omega) (by omega) dX12_meanings_310 ?_
          refine Wp.lconst1 dX12_meanings_311 ?_
          refine Wp.land dX12_meanings_312 ?_
          refine Wp.lconst1 dX12_meanings_313 ?_
          refine Wp.lcmp dX12_meanings_314 ?_
          refine Wp.if_neC (tgt := 328) dX12_meanings_315 (by decide) (fun c315 => ?_) (fun c315 => ?_)
          · refine Wp.lconst0 dX12_meanings_328 ?_
            refine Wp.lor dX12_meanings_329 ?_
            refine Wp.lstore (ls' := [_, _, _, _, _, _, _, _, _, _, _, _, _, _, _]) dX12_meanings_330 (by decide) rfl ?_
            refine Wp.iinc (ls' := [_, _, _, _, _, _, _, _, _, _, _, _, _, _, _]) rfl dX12_meanings_332 (by decide) rfl ?_
            refine Wp.goto (tgt := 297) dX12_meanings_335 (by decide) ?_
            first | exact ih (k + 1) _ _ (by omega) (by omega) (exN_t ((b_s1 (by omega)).mp c315) (hK k (by omega))) | exact ih (k + 1) _ _ (by omega) (by omega) (exN_f (fun q => c315 ((b_s1 (by omega)).mpr q))) | (exfalso; omega)
          · refine Wp.aload_n rfl dX12_meanings_318 ?_
            refine Wp.gr (kz := 18) rfl dX12_meanings_319 fkX12_52 (by first | rfl | exact kd_b0 _ | exact kd_b1 _ | exact kd_b2 _ | exact kd_b3 _ | exact kd_b4 _ | exact kd_b5 _ | exact kd_b6 _) (by omega) (by first | exact hFx _ 18 _ rfl | assumption | exact hBk.1 | exact hBk.2.1 | exact hBk.2.2.1 | exact hBk.2.2.2.1 | exact hBk.2.2.2.2.1 | exact hBk.2.2.2.2.2) ?_
            refine Wp.iload rfl dX12_meanings_322 ?_
            refine Wp.laload dX12_meanings_324 (by first | rfl | exact kd_b0 _ | exact kd_b1 _ | exact kd_b2 _ | exact kd_b3 _ | exact kd_b4 _ | exact kd_b5 _ | exact kd_b6 _) (by omega) (by omega) (by omega) ?_
            refine Wp.goto (tgt := 329) dX12_meanings_325 (by decide) ?_
            refine Wp.lor dX12_meanings_329 ?_
            refine Wp.lstore (ls' := [_, _, _, _, _, _, _, _, _, _, _, _, _, _, _]) dX12_meanings_330 (by decide) rfl ?_
            refine Wp.iinc (ls' := [_, _, _, _, _, _, _, _, _, _, _, _, _, _, _]) rfl dX12_meanings_332 (by decide) rfl ?_
            refine Wp.goto (tgt := 297) dX12_meanings_335 (by decide) ?_
            first | exact ih (k + 1) _ _ (by omega) (by omega) (exN_t ((b_s1 (by omega)).mp c315) (hK k (by omega))) | exact ih (k + 1) _ _ (by omega) (by omega) (exN_f (fun q => c315 ((b_s1 (by omega)).mpr q))) | (exfalso; omega)
    have wi : ∀ (tt : Nat) (K : Nat → Int → BitVec 64) (left : BitVec 64) (gr : Int) (t : Nat) (g had : BitVec 64) (x14 : Option AV), (∀ q : Nat, q < 60 → K 42 q = nbr I (I 32 11) a w b q) → grw (nbr I (I 32 11) a w b) t g → (had = 0#64 ∨ g = exN (nbr I (I 32 11) a w b) had had 60) → 60 - pcN g 60 < tt → (∀ (g had : BitVec 64) (x14 : Option AV), grw (nbr I (I 32 11) a w b) t g → exN (nbr I (I 32 11) a w b) g g 60 = g → Wp mX12_meanings 341 [some (vr (some 32)), some (vi a), some (vi w), some (vi b), some (vl (gv I (I 32 11) a w b)), none, some (vi (ent I (I 32 11) a w b)), some (vl left), none, some (vi gr), some (vl g), none, some (vl had), none, x14] [] (I, K, R, n) (0, 0) Q) → Wp mX12_meanings 282 [some (vr (some 32)), some (vi a), some (vi w), some (vi b), some (vl (gv I (I 32 11) a w b)), none, some (vi (ent I (I 32 11) a w b)), some (vl left), none, some (vi gr), some (vl g), none, some (vl had), none, x14] [] (I, K, R, n) (0, 0) Q := by
      intro tt
      induction tt with
      | zero =>
        intro K left gr t g had x14 hK hg hh hm hc'
        have hB := pcN_B g 60
        omega
      | succ tt ih =>
        intro K left gr t g had x14 hK hg hh hm hc'
        have hB := pcN_B g 60
        have hne : ¬ g = 0#64 := bv_ne0' hg.1
        have h338 : ¬ g = had → ∀ (x14 : Option AV), Wp mX12_meanings 338 [some (vr (some 32)), some (vi a), some (vi w), some (vi b), some (vl (gv I (I 32 11) a w b)), none, some (vi (ent I (I 32 11) a w b)), some (vl left), none, some (vi gr), some (vl (exN (nbr I (I 32 11) a w b) g g 60)), none, some (vl g), none, x14] [] (I, K, R, n) (0, 0) Q := by
          intro hgh x14
          refine Wp.goto (tgt := 282) dX12_meanings_338 (by decide) ?_
          by_cases heq : exN (nbr I (I 32 11) a w b) g g 60 = g
          · rw [heq]
            have hcc := hc' g g x14 hg heq
            exact Wp.lload rfl dX12_meanings_282 (Wp.lload rfl dX12_meanings_284 (Wp.lcmp dX12_meanings_286 (Wp.if_eqC (tgt := 341) dX12_meanings_287 (by decide) (fun _ => hcc) (fun h => absurd rfl h))))
          · refine ih K left gr t _ g x14 hK (grw_ex hn60 hg) (Or.inr rfl) ?_ hc'
            have hsub : ∀ i : Nat, i < 60 → g.getLsbD i = true → (exN (nbr I (I 32 11) a w b) g g 60).getLsbD i = true := fun i _ hb => (exN_bit _ g g i 60).mpr (Or.inl hb)
            obtain ⟨j, hj, hd⟩ := bv_diff heq
            have hj60 : j < 60 := Classical.byContradiction (fun h => hd (by rw [hg.2.1 j (by omega), (grw_ex hn60 hg).2.1 j (by omega)]))
            have hj0 : g.getLsbD j = false := by
              cases hc : g.getLsbD j with
              | false => rfl
              | true => exact absurd ((hsub j hj60 hc).trans hc.symm) hd
            have hj1 : (exN (nbr I (I 32 11) a w b) g g 60).getLsbD j = true := by
              cases hc : (exN (nbr I (I 32 11) a w b) g g 60).getLsbD j with
              | true => rfl
              | false => exact absurd (hc.trans hj0.symm) hd
            have := pcN_strict hsub hj0 hj1 60 (by omega) hj60
            omega
        refine Wp.lload rfl dX12_meanings_282 ?_
        refine Wp.lload rfl dX12_meanings_284 ?_
        refine Wp.lcmp dX12_meanings_286 ?_
        refine Wp.if_eqC (tgt := 341) dX12_meanings_287 (by decide) (fun c287 => ?_) (fun c287 => ?_)
        · exact hc' _ _ _ hg (by subst c287; rcases hh with h | h; exact absurd h hne; exact h.symm)
        · refine Wp.lload rfl dX12_meanings_290 ?_
          refine Wp.lstore (ls' := [_, _, _, _, _, _, _, _, _, _, _, _, _, _, _]) dX12_meanings_292 (by decide) rfl ?_
          refine Wp.iconst dX12_meanings_294 ?_
          refine Wp.istore (ls' := [_, _, _, _, _, _, _, _, _, _, _, _, _, _, _]) dX12_meanings_295 (by decide) rfl ?_
          exact lf K left gr g hK (h338 c287) 60 0 _ _ (by omega) (by omega) rfl
    have wo : ∀ (tt : Nat) (K : Nat → Int → BitVec 64) (left : BitVec 64) (gr : Int) (t : Nat) (x10 x11 x12 x13 x14 : Option AV), EqvL L K → (∀ q : Nat, q < 60 → K 42 q = nbr I (I 32 11) a w b q) → t ≤ 60 → 60 - t < tt → (∀ i : Nat, left.getLsbD i = (mnF (nbr I (I 32 11) a w b) (gv I (I 32 11) a w b) t).1 i) → (∀ i : Nat, 60 ≤ i → left.getLsbD i = false) → gr = (mnF (nbr I (I 32 11) a w b) (gv I (I 32 11) a w b) t).2 → (∀ i : Nat, i < t → left.getLsbD i = false) → Wp mX12_meanings 264 [some (vr (some 32)), some (vi a), some (vi w), some (vi b), some (vl (gv I (I 32 11) a w b)), none, some (vi (ent I (I 32 11) a w b)), some (vl left), none, some (vi gr), x10, x11, x12, x13, x14] [] (I, K, R, n) (0, 0) Q := by
      intro tt
      induction tt with
      | zero => intro K left gr t x10 x11 x12 x13 x14 hL hK ht hm; omega
      | succ tt ih =>
        intro K left gr t x10 x11 x12 x13 x14 hL hK ht hm hbits h60 hgr hlow
        have hexit : left = 0#64 → gr = (mnF (nbr I (I 32 11) a w b) (gv I (I 32 11) a w b) 60).2 := fun h0 => by
          have := mnF_skip (nb := nbr I (I 32 11) a w b) (g := gv I (I 32 11) a w b) (t := t) (60 - t) (fun i h1 h2 => by rw [← hbits i, h0]; simp)
          rw [show t + (60 - t) = 60 by omega] at this
          rw [this]; exact hgr
        have hgo : ¬ left = 0#64 → ∃ t', t ≤ t' ∧ t' < 60 ∧ left &&& -left = 1#64 <<< t' ∧ grw (nbr I (I 32 11) a w b) t' (1#64 <<< t') ∧ ∀ (g had : BitVec 64) (x14 : Option AV), grw (nbr I (I 32 11) a w b) t' g → exN (nbr I (I 32 11) a w b) g g 60 = g → Wp mX12_meanings 341 [some (vr (some 32)), some (vi a), some (vi w), some (vi b), some (vl (gv I (I 32 11) a w b)), none, some (vi (ent I (I 32 11) a w b)), some (vl left), none, some (vi gr), some (vl g), none, some (vl had), none, x14] [] (I, K, R, n) (0, 0) Q := by
          intro h0
          obtain ⟨t', ht1, ht2, ht3, ht4⟩ := low_bit h0
          have htt : t ≤ t' := Classical.byContradiction (fun h => by rw [hlow t' (by omega)] at ht2; cases ht2)
          have ht60 : t' < 60 := Classical.byContradiction (fun h => by rw [h60 t' (by omega)] at ht2; cases ht2)
          refine ⟨t', htt, ht60, ht4, ⟨by rw [shl1_bit t' t' ht1]; simp, shl60 ht60, fun i hi hb => ?_⟩, fun g had x14 hg hfix => ?_⟩
          · rw [shl1_bit t' i ht1] at hb
            have : i = t' := by simpa using hb
            subst this; exact fun S hS h => h
          · have hdone := grw_done hg hfix
            have hsk := mnF_skip (nb := nbr I (I 32 11) a w b) (g := gv I (I 32 11) a w b) (t := t) (t' - t) (fun i h1 h2 => by rw [← hbits i]; exact ht3 i (by omega))
            rw [show t + (t' - t) = t' by omega] at hsk
            have hstep : mnF (nbr I (I 32 11) a w b) (gv I (I 32 11) a w b) (t' + 1) = (fun i => left.getLsbD i && !cloB (nbr I (I 32 11) a w b) t' i, gr + 1) := by
              simp only [mnF]
              rw [hsk, if_pos (by rw [← hbits t']; exact ht2), ← hgr]
              congr 1
              funext i
              rw [hbits i]
            have hall : ∀ i : Nat, (left &&& (g ^^^ 18446744073709551615#64)).getLsbD i = (left.getLsbD i && !cloB (nbr I (I 32 11) a w b) t' i) := by
              intro i
              rw [BitVec.getLsbD_and, BitVec.getLsbD_xor]
              by_cases hi : i < 60
              · have key : ∀ i : Fin 64, (18446744073709551615#64 : BitVec 64).getLsbD (i : Nat) = true := by decide +kernel
                rw [key ⟨i, by omega⟩, hdone i hi]; simp
              · rw [h60 i (by omega)]; rfl
            refine Wp.lload rfl dX12_meanings_341 ?_
            refine Wp.lload rfl dX12_meanings_343 ?_
            refine Wp.ldc2_w (b := 18446744073709551615#64) ckX12_206 rfl dX12_meanings_345 ?_
            refine Wp.lxor dX12_meanings_348 ?_
            refine Wp.land dX12_meanings_349 ?_
            refine Wp.lstore (ls' := [_, _, _, _, _, _, _, _, _, _, _, _, _, _, _]) dX12_meanings_350 (by decide) rfl ?_
            refine Wp.iinc (ls' := [_, _, _, _, _, _, _, _, _, _, _, _, _, _, _]) rfl dX12_meanings_352 (by decide) rfl ?_
            refine Wp.goto (tgt := 264) dX12_meanings_355 (by decide) ?_
            refine ih K _ _ (t' + 1) _ _ _ _ _ hL hK (by omega) (by omega) (fun i => by rw [hstep]; exact hall i) (fun i hi => by rw [hall i, h60 i hi]; rfl) (by rw [hstep]) (fun i hi => ?_)
            rw [hall i]
            rcases (show i < t' ∨ i = t' by omega) with h | h
            · rw [ht3 i h]; rfl
            · subst h; rw [cloB_iff.mpr (fun S hS h => h)]; simp
        refine Wp.lload rfl dX12_meanings_264 ?_
        refine Wp.lconst0 dX12_meanings_266 ?_
        refine Wp.lcmp dX12_meanings_267 ?_
        refine Wp.if_eqC (tgt := 358) dX12_meanings_268 (by decide) (fun c268 => ?_) (fun c268 => ?_)
        · refine Wp.iload rfl dX12_meanings_358 ?_
          refine Wp.ireturn dX12_meanings_360 rfl ?_
          first | (exfalso; omega) | (exact hq2 K _ hL (hexit c268))
        · refine Wp.lload rfl dX12_meanings_271 ?_
          refine Wp.lload rfl dX12_meanings_273 ?_
          refine Wp.lneg dX12_meanings_275 ?_
          refine Wp.land dX12_meanings_276 ?_
          refine Wp.lstore (ls' := [_, _, _, _, _, _, _, _, _, _, _, _, _, _, _]) dX12_meanings_277 (by decide) rfl ?_
          refine Wp.lconst0 dX12_meanings_279 ?_
          refine Wp.lstore (ls' := [_, _, _, _, _, _, _, _, _, _, _, _, _, _, _]) dX12_meanings_280 (by decide) rfl ?_
          obtain ⟨t', ht1, ht2, ht3, ht4, ht5⟩ := hgo c268
          rw [ht3]
          exact wi 61 K left gr t' _ _ _ hK ht4 (Or.inl rfl) (by have := pcN_B (1#64 <<< t') 60; omega) ht5
    have lx : ∀ (tt k : Nat) (z : Int) (K : Nat → Int → BitVec 64) (x8 : Option AV) (x9 : Option AV) (x10 : Option AV) (x11 : Option AV), k + tt = 60 → z = k → EqvL L K → (∀ q : Nat, q < k → K 42 q = nbr I (I 32 11) a w b q) → Wp mX12_meanings 55 [some (vr (some 32)), some (vi a), some (vi w), some (vi b), some (vl (gv I (I 32 11) a w b)), none, some (vi (ent I (I 32 11) a w b)), some (vi z), x8, x9, x10, x11, none, none, none] [] (I, K, R, n) (0, 0) Q := by
      intro tt
      induction tt with
      | zero =>
        intro k z K x8 x9 x10 x11 hkt hz e0 e1
        obtain rfl : k = 60 := by omega
        refine Wp.iload rfl dX12_meanings_55 ?_
        refine Wp.bipush rfl dX12_meanings_57 ?_
        refine Wp.icmp_ge (tgt := 257) dX12_meanings_59 (by decide) (by first | omega | exact bI_R _ | exact cmp_R _ _ | assumption) (by first | omega | exact bI_R _ | exact cmp_R _ _ | assumption) (fun c59 => ?_) (fun c59 => ?_)
        · refine Wp.lload rfl dX12_meanings_257 ?_
          refine Wp.lstore (ls' := [_, _, _, _, _, _, _, _, _, _, _, _, _, _, _]) dX12_meanings_259 (by decide) rfl ?_
          refine Wp.iconst dX12_meanings_261 ?_
          refine Wp.istore (ls' := [_, _, _, _, _, _, _, _, _, _, _, _, _, _, _]) dX12_meanings_262 (by decide) rfl ?_
          exact wo 61 K _ _ 0 _ _ _ _ _ e0 e1 (by omega) (by omega) (fun i => rfl) hg60 rfl (fun i hi => by omega)
        · exfalso; omega
      | succ tt ih =>
        intro k z K x8 x9 x10 x11 hkt hz e0 e1
        subst hz
        have h251 : ∀ (x8 x9 x10 x11 : Option AV), Wp mX12_meanings 251 [some (vr (some 32)), some (vi a), some (vi w), some (vi b), some (vl (gv I (I 32 11) a w b)), none, some (vi (ent I (I 32 11) a w b)), some (vi k), x8, x9, x10, x11, none, none, none] [] (I, up K 42 k (nbr I (I 32 11) a w b k), R, n) (0, 0) Q := by
          intro x8 x9 x10 x11
          refine Wp.iinc (ls' := [_, _, _, _, _, _, _, _, _, _, _, _, _, _, _]) rfl dX12_meanings_251 (by decide) rfl ?_
          refine Wp.goto (tgt := 55) dX12_meanings_254 (by decide) ?_
          refine ih (k + 1) _ _ _ _ _ _ (by omega) (by omega) (e0.wr (by omega)) (fun q hq => ?_)
          unfold up
          by_cases hqk : q = k
          · subst hqk; rw [if_pos ⟨rfl, rfl⟩]
          · rw [if_neg (fun z => hqk (by omega))]; exact e1 q (by omega)
        have h181 : ∀ (x10 x11 : Option AV), Wp mX12_meanings 181 [some (vr (some 32)), some (vi a), some (vi w), some (vi b), some (vl (gv I (I 32 11) a w b)), none, some (vi (ent I (I 32 11) a w b)), some (vi k), some (vl (miX I (I 32 11) a w b k)), none, some (vi 60), x11, none, none, none] [] (I, up K 42 k (nrN I (I 32 11) a w b k 60), R, n) (0, 0) Q := by
          intro x10 x11
          refine Wp.iconst dX12_meanings_181 ?_
          refine Wp.iload rfl dX12_meanings_182 ?_
          refine Wp.imul dX12_meanings_184 ?_
          refine Wp.istore (ls' := [_, _, _, _, _, _, _, _, _, _, _, _, _, _, _]) dX12_meanings_185 (by decide) rfl ?_
          exact ls K k _ (by omega) (fun x10 x11 => h251 _ _ _ _) (cntE I (ent I (I 32 11) a w b)) 0 _ _ _ (by omega) (by omega) rfl
        refine Wp.iload rfl dX12_meanings_55 ?_
        refine Wp.bipush rfl dX12_meanings_57 ?_
        refine Wp.icmp_ge (tgt := 257) dX12_meanings_59 (by decide) (by first | omega | exact bI_R _ | exact cmp_R _ _ | assumption) (by first | omega | exact bI_R _ | exact cmp_R _ _ | assumption) (fun c59 => ?_) (fun c59 => ?_)
        · exfalso; omega
        · refine Wp.aload_n rfl dX12_meanings_62 ?_
          refine Wp.gr (kz := 18) rfl dX12_meanings_63 fkX12_52 (by first | rfl | exact kd_b0 _ | exact kd_b1 _ | exact kd_b2 _ | exact kd_b3 _ | exact kd_b4 _ | exact kd_b5 _ | exact kd_b6 _) (by omega) (by first | exact hFx _ 18 _ rfl | assumption | exact hBk.1 | exact hBk.2.1 | exact hBk.2.2.1 | exact hBk.2.2.2.1 | exact hBk.2.2.2.2.1 | exact hBk.2.2.2.2.2) ?_
          refine Wp.iload rfl dX12_meanings_66 ?_
          refine Wp.lconst1 dX12_meanings_68 ?_
          refine Wp.iload rfl dX12_meanings_69 ?_
          refine Wp.lshl (by omega) (by omega) dX12_meanings_71 ?_
          refine Wp.lastore dX12_meanings_72 (by first | rfl | exact kd_b0 _ | exact kd_b1 _ | exact kd_b2 _ | exact kd_b3 _ | exact kd_b4 _ | exact kd_b5 _ | exact kd_b6 _) (by omega) (by omega) (by omega) ?_
          refine Wp.lload rfl dX12_meanings_73 ?_
          refine Wp.iload rfl dX12_meanings_75 ?_
          refine Wp.lshr (by omega) (by omega) dX12_meanings_77 ?_
          refine Wp.lconst1 dX12_meanings_78 ?_
          refine Wp.land dX12_meanings_79 ?_
          refine Wp.lconst1 dX12_meanings_80 ?_
          refine Wp.lcmp dX12_meanings_81 ?_
          refine Wp.if_neC (tgt := 104) dX12_meanings_82 (by decide) (fun c82 => ?_) (fun c82 => ?_)
          · refine Wp.lconst0 dX12_meanings_104 ?_
            refine Wp.lstore (ls' := [_, _, _, _, _, _, _, _, _, _, _, _, _, _, _]) dX12_meanings_105 (by decide) rfl ?_
            refine Wp.iconst dX12_meanings_107 ?_
            refine Wp.istore (ls' := [_, _, _, _, _, _, _, _, _, _, _, _, _, _, _]) dX12_meanings_108 (by decide) rfl ?_
            first | exact ly K k (by omega) _ (if_pos ((b_s1 (by omega)).mp c82)).symm h181 60 0 _ _ _ (by omega) (by omega) rfl | exact ly K k (by omega) _ (if_neg (fun q => c82 ((b_s1 (by omega)).mpr q))).symm h181 60 0 _ _ _ (by omega) (by omega) rfl
          · refine Wp.aload_n rfl dX12_meanings_85 ?_
            refine Wp.iload_n rfl dX12_meanings_86 ?_
            refine Wp.iload rfl dX12_meanings_87 ?_
            refine Wp.iload_n rfl dX12_meanings_89 ?_
            refine Wp.callV (As := [_, _, _]) (ls0 := [_, _, _, _, _, _, _, _]) (bd := (0, 0)) (bd' := (0, 0)) dX12_meanings_90 kmX12_giving lkX12_191 (by decide) (by decide) (Nat.le_of_ble_eq_true rfl) (by first | rfl | exact kd_b0 _ | exact kd_b1 _ | exact kd_b2 _ | exact kd_b3 _ | exact kd_b4 _ | exact kd_b5 _ | exact kd_b6 _) (by omega) rfl rfl (Nat.le_of_ble_eq_true rfl) rfl ?_
            refine ct_X12_giving hn hFx hW (by omega) (by omega) (by omega) (by omega) ?_
            show Wp _ _ _ (_ :: _) _ _ _
            refine Wp.lconst1 dX12_meanings_93 ?_
            refine Wp.iload_n rfl dX12_meanings_94 ?_
            refine Wp.lshl (by omega) (by omega) dX12_meanings_95 ?_
            refine Wp.ldc2_w (b := 18446744073709551615#64) ckX12_206 rfl dX12_meanings_96 ?_
            refine Wp.lxor dX12_meanings_99 ?_
            refine Wp.land dX12_meanings_100 ?_
            refine Wp.goto (tgt := 105) dX12_meanings_101 (by decide) ?_
            refine Wp.lstore (ls' := [_, _, _, _, _, _, _, _, _, _, _, _, _, _, _]) dX12_meanings_105 (by decide) rfl ?_
            refine Wp.iconst dX12_meanings_107 ?_
            refine Wp.istore (ls' := [_, _, _, _, _, _, _, _, _, _, _, _, _, _, _]) dX12_meanings_108 (by decide) rfl ?_
            first | exact ly K k (by omega) _ (if_pos ((b_s1 (by omega)).mp c82)).symm h181 60 0 _ _ _ (by omega) (by omega) rfl | exact ly K k (by omega) _ (if_neg (fun q => c82 ((b_s1 (by omega)).mpr q))).symm h181 60 0 _ _ _ (by omega) (by omega) rfl
    refine Wp.iload_n rfl dX12_meanings_0 ?_
    refine Wp.callS (As := [_]) (ls0 := [_]) (bd := (0, 0)) (bd' := (0, 0)) dX12_meanings_1 kmX12_isTongue lkX12_147 (by decide) (by decide) (Nat.le_of_ble_eq_true rfl) rfl rfl (Nat.le_of_ble_eq_true rfl) rfl ?_
    refine ct_X12_isTongue (by omega) ?_
    show Wp _ _ _ (_ :: _) _ _ _
    refine Wp.if_eqB (tgt := 21) dX12_meanings_4 (by decide) (fun c4 => ?_) (fun c4 => ?_)
    · refine Wp.sipush rfl dX12_meanings_21 ?_
      refine Wp.ireturn dX12_meanings_24 rfl ?_
      first | (exfalso; omega) | (exact qI (hq _ (EqvL.rf L)) (by unfold aMean; (repeat' split) <;> first | (exfalso; omega) | rfl))
    · refine Wp.iload_n rfl dX12_meanings_7 ?_
      refine Wp.callS (As := [_]) (ls0 := [_]) (bd := (0, 0)) (bd' := (0, 0)) dX12_meanings_8 kmX12_isWord lkX12_182 (by decide) (by decide) (Nat.le_of_ble_eq_true rfl) rfl rfl (Nat.le_of_ble_eq_true rfl) rfl ?_
      refine ct_X12_isWord (by omega) ?_
      show Wp _ _ _ (_ :: _) _ _ _
      refine Wp.if_eqB (tgt := 21) dX12_meanings_11 (by decide) (fun c11 => ?_) (fun c11 => ?_)
      · refine Wp.sipush rfl dX12_meanings_21 ?_
        refine Wp.ireturn dX12_meanings_24 rfl ?_
        first | (exfalso; omega) | (exact qI (hq _ (EqvL.rf L)) (by unfold aMean; (repeat' split) <;> first | (exfalso; omega) | rfl))
      · refine Wp.iload_n rfl dX12_meanings_14 ?_
        refine Wp.callS (As := [_]) (ls0 := [_]) (bd := (0, 0)) (bd' := (0, 0)) dX12_meanings_15 kmX12_isTongue lkX12_147 (by decide) (by decide) (Nat.le_of_ble_eq_true rfl) rfl rfl (Nat.le_of_ble_eq_true rfl) rfl ?_
        refine ct_X12_isTongue (by omega) ?_
        show Wp _ _ _ (_ :: _) _ _ _
        refine Wp.if_neB (tgt := 25) dX12_meanings_18 (by decide) (fun c18 => ?_) (fun c18 => ?_)
        · refine Wp.iload_n rfl dX12_meanings_25 ?_
          refine Wp.iload_n rfl dX12_meanings_26 ?_
          refine Wp.icmp_ne (tgt := 34) dX12_meanings_27 (by decide) (by first | omega | exact bI_R _ | exact cmp_R _ _ | assumption) (by first | omega | exact bI_R _ | exact cmp_R _ _ | assumption) (fun c27 => ?_) (fun c27 => ?_)
          · refine Wp.aload_n rfl dX12_meanings_34 ?_
            refine Wp.iload_n rfl dX12_meanings_35 ?_
            refine Wp.iload_n rfl dX12_meanings_36 ?_
            refine Wp.iload_n rfl dX12_meanings_37 ?_
            refine Wp.callV (As := [_, _, _]) (ls0 := [_, _, _, _, _, _, _, _]) (bd := (0, 0)) (bd' := (0, 0)) dX12_meanings_38 kmX12_giving lkX12_191 (by decide) (by decide) (Nat.le_of_ble_eq_true rfl) (by first | rfl | exact kd_b0 _ | exact kd_b1 _ | exact kd_b2 _ | exact kd_b3 _ | exact kd_b4 _ | exact kd_b5 _ | exact kd_b6 _) (by omega) rfl rfl (Nat.le_of_ble_eq_true rfl) rfl ?_
            refine ct_X12_giving hn hFx hW (by omega) (by omega) (by omega) (by omega) ?_
            show Wp _ _ _ (_ :: _) _ _ _
            refine Wp.lstore (ls' := [_, _, _, _, _, _, _, _, _, _, _, _, _, _, _]) dX12_meanings_41 (by decide) rfl ?_
            refine Wp.aload_n rfl dX12_meanings_43 ?_
            refine Wp.iload_n rfl dX12_meanings_44 ?_
            refine Wp.iload_n rfl dX12_meanings_45 ?_
            refine Wp.iload_n rfl dX12_meanings_46 ?_
            refine Wp.callV (As := [_, _, _]) (ls0 := [_, _, _, _, _, _, _]) (bd := (0, 0)) (bd' := (0, 0)) dX12_meanings_47 kmX12_entryOf lkX12_174 (by decide) (by decide) (Nat.le_of_ble_eq_true rfl) (by first | rfl | exact kd_b0 _ | exact kd_b1 _ | exact kd_b2 _ | exact kd_b3 _ | exact kd_b4 _ | exact kd_b5 _ | exact kd_b6 _) (by omega) rfl rfl (Nat.le_of_ble_eq_true rfl) rfl ?_
            refine ct_X12_entryOf hn hFx hW (by omega) (by omega) (by omega) (by omega) ?_
            show Wp _ _ _ (_ :: _) _ _ _
            refine Wp.istore (ls' := [_, _, _, _, _, _, _, _, _, _, _, _, _, _, _]) dX12_meanings_50 (by decide) rfl ?_
            refine Wp.iconst dX12_meanings_52 ?_
            refine Wp.istore (ls' := [_, _, _, _, _, _, _, _, _, _, _, _, _, _, _]) dX12_meanings_53 (by decide) rfl ?_
            exact lx 60 0 _ _ _ _ _ _ (by omega) (by omega) (EqvL.rf L) (fun q hq => by omega)
          · refine Wp.sipush rfl dX12_meanings_30 ?_
            refine Wp.ireturn dX12_meanings_33 rfl ?_
            first | (exfalso; omega) | (exact qI (hq _ (EqvL.rf L)) (by unfold aMean; (repeat' split) <;> first | (exfalso; omega) | rfl))
        · refine Wp.sipush rfl dX12_meanings_21 ?_
          refine Wp.ireturn dX12_meanings_24 rfl ?_
          first | (exfalso; omega) | (exact qI (hq _ (EqvL.rf L)) (by unfold aMean; (repeat' split) <;> first | (exfalso; omega) | rfl))
  · skip
    refine Wp.iload_n rfl dX12_meanings_0 ?_
    refine Wp.callS (As := [_]) (ls0 := [_]) (bd := (0, 0)) (bd' := (0, 0)) dX12_meanings_1 kmX12_isTongue lkX12_147 (by decide) (by decide) (Nat.le_of_ble_eq_true rfl) rfl rfl (Nat.le_of_ble_eq_true rfl) rfl ?_
    refine ct_X12_isTongue (by omega) ?_
    show Wp _ _ _ (_ :: _) _ _ _
    refine Wp.if_eqB (tgt := 21) dX12_meanings_4 (by decide) (fun c4 => ?_) (fun c4 => ?_)
    · refine Wp.sipush rfl dX12_meanings_21 ?_
      refine Wp.ireturn dX12_meanings_24 rfl ?_
      first | (exfalso; omega) | (exact qI (hq _ (EqvL.rf L)) (by unfold aMean; (repeat' split) <;> first | (exfalso; omega) | rfl))
    · refine Wp.iload_n rfl dX12_meanings_7 ?_
      refine Wp.callS (As := [_]) (ls0 := [_]) (bd := (0, 0)) (bd' := (0, 0)) dX12_meanings_8 kmX12_isWord lkX12_182 (by decide) (by decide) (Nat.le_of_ble_eq_true rfl) rfl rfl (Nat.le_of_ble_eq_true rfl) rfl ?_
      refine ct_X12_isWord (by omega) ?_
      show Wp _ _ _ (_ :: _) _ _ _
      refine Wp.if_eqB (tgt := 21) dX12_meanings_11 (by decide) (fun c11 => ?_) (fun c11 => ?_)
      · refine Wp.sipush rfl dX12_meanings_21 ?_
        refine Wp.ireturn dX12_meanings_24 rfl ?_
        first | (exfalso; omega) | (exact qI (hq _ (EqvL.rf L)) (by unfold aMean; (repeat' split) <;> first | (exfalso; omega) | rfl))
      · refine Wp.iload_n rfl dX12_meanings_14 ?_
        refine Wp.callS (As := [_]) (ls0 := [_]) (bd := (0, 0)) (bd' := (0, 0)) dX12_meanings_15 kmX12_isTongue lkX12_147 (by decide) (by decide) (Nat.le_of_ble_eq_true rfl) rfl rfl (Nat.le_of_ble_eq_true rfl) rfl ?_
        refine ct_X12_isTongue (by omega) ?_
        show Wp _ _ _ (_ :: _) _ _ _
        refine Wp.if_neB (tgt := 25) dX12_meanings_18 (by decide) (fun c18 => ?_) (fun c18 => ?_)
        · refine Wp.iload_n rfl dX12_meanings_25 ?_
          refine Wp.iload_n rfl dX12_meanings_26 ?_
          refine Wp.icmp_ne (tgt := 34) dX12_meanings_27 (by decide) (by first | omega | exact bI_R _ | exact cmp_R _ _ | assumption) (by first | omega | exact bI_R _ | exact cmp_R _ _ | assumption) (fun c27 => ?_) (fun c27 => ?_)
          · exfalso; omega
          · refine Wp.sipush rfl dX12_meanings_30 ?_
            refine Wp.ireturn dX12_meanings_33 rfl ?_
            first | (exfalso; omega) | (exact qI (hq _ (EqvL.rf L)) (by unfold aMean; (repeat' split) <;> first | (exfalso; omega) | rfl))
        · refine Wp.sipush rfl dX12_meanings_21 ?_
          refine Wp.ireturn dX12_meanings_24 rfl ?_
          first | (exfalso; omega) | (exact qI (hq _ (EqvL.rf L)) (by unfold aMean; (repeat' split) <;> first | (exfalso; omega) | rfl))
end

