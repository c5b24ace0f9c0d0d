/-! ===== the class's draft: what each step makes of it ===== -/
theorem smK_d {f g : Nat → Int} {v : Nat} {c : Int} (hv : g v = f v + c) (h : ∀ i, i ≠ v → g i = f i) : ∀ j : Nat, smK g j = smK f j + (if v < j then c else 0)
  | 0 => by simp [smK]
  | j + 1 => by
    simp only [smK]
    rw [smK_d hv h j]
    by_cases hvj : v = j
    · subst hvj
      rw [if_neg (by omega), if_pos (by omega), hv]; omega
    · rw [h j (fun q => hvj q.symm)]
      by_cases h1 : v < j
      · rw [if_pos h1, if_pos (by omega)]; omega
      · rw [if_neg h1, if_neg (by omega)]; omega
section
variable {D D' : Dr}
theorem sn_sm : ∀ k : Nat, snN D 0 k = smK (fun j => D 36 j) k
  | 0 => rfl
  | k + 1 => by simp only [snN, smK]; rw [sn_sm k, show (60 * 0 + (k : Int)) = k by omega]
theorem wa_sm (e : Int) : ∀ k : Nat, waN D e k = smK (fun j => D 38 (3 * e + j)) k
  | 0 => rfl
  | k + 1 => by simp only [waN, smK]; rw [wa_sm e k]
theorem ag_sm (s : Int) : ∀ k : Nat, agN D s k = smK (fun j => if D 40 (6 * s + j) = 0 then 0 else 1) k
  | 0 => rfl
  | k + 1 => by simp only [agN, smK]; rw [ag_sm s k]
theorem ae_sm (e : Int) : ∀ k : Nat, aeN D e k = smK (fun j => agN D (3 * e + j) (D 38 (3 * e + j)).toNat) k
  | 0 => rfl
  | k + 1 => by simp only [aeN, smK]; rw [ae_sm e k]
theorem wo_sm : ∀ k : Nat, woN D 0 k = smK (fun j => waN D j (D 36 j).toNat) k
  | 0 => rfl
  | k + 1 => by simp only [woN, smK]; rw [wo_sm k, show (60 * 0 + (k : Int)) = k by omega]
theorem ao_sm : ∀ k : Nat, aoN D 0 k = smK (fun j => aeN D j (D 36 j).toNat) k
  | 0 => rfl
  | k + 1 => by simp only [aoN, smK]; rw [ao_sm k, show (60 * 0 + (k : Int)) = k by omega]
theorem ag_cg {s : Int} {k : Nat} (h : ∀ p : Nat, p < k → D' 40 (6 * s + p) = D 40 (6 * s + p)) : agN D' s k = agN D s k := by
  rw [ag_sm, ag_sm]; exact smK_cg k (fun p hp => by rw [h p hp])
theorem ss_cg2 {ag s : Int} : ∀ k : Nat, (∀ p : Nat, p < k → D' 40 (6 * s + p) = D 40 (6 * s + p) ∧ D' 39 (6 * s + p) = D 39 (6 * s + p)) → ssN D' ag s k = ssN D ag s k
  | 0, _ => rfl
  | k + 1, h => by
    simp only [ssN]
    rw [ss_cg2 k (fun p hp => h p (by omega)), (h k (by omega)).1, (h k (by omega)).2]
end
/-- a sum over all words, where one word's part has grown by c -/
theorem sm60 {f g : Nat → Int} {h c : Int} (h0 : 0 ≤ h) (h1 : h < 60) (hv : g h.toNat = f h.toNat + c) (hh : ∀ w : Nat, w < 60 → (w : Int) ≠ h → g w = f w) : smK g 60 = smK f 60 + c := by
  have e : smK g 60 = smK (fun i => if i < 60 then g i else f i) 60 := smK_cg 60 (fun i hi => by rw [if_pos hi])
  rw [e, smK_d (f := f) (v := h.toNat) (c := c) (by rw [if_pos (by omega)]; exact hv) (fun i hi => by
    show (if i < 60 then g i else f i) = f i
    split
    · rename_i h2; exact hh i h2 (by omega)
    · rfl) 60, if_pos (by omega)]
section
variable {D : Dr} {nx hd v : Int}
theorem sn_S (hM : MI nx hd D) (h0 : 0 ≤ hd) (h1 : hd < 60) : snN (addS D hd) 0 60 = snN D 0 60 + 1 := by
  rw [sn_sm, sn_sm]
  refine sm60 h0 h1 ?_ (fun w _ hw => addS_36 hw)
  show addS D hd 36 ((hd.toNat : Nat) : Int) = D 36 ((hd.toNat : Nat) : Int) + 1
  rw [show ((hd.toNat : Nat) : Int) = hd by omega, addS_36h]
theorem waS {w : Int} (h3 : D 36 hd < 3) (h30 : 0 ≤ D 36 hd) (j : Nat) (hj : (j : Int) ≤ D 36 w) (hw3 : D 36 w ≤ 3) : waN (addS D hd) w j = waN D w j := by
  rw [wa_sm, wa_sm]
  refine smK_cg j (fun i hi => addS_38 ?_)
  by_cases hwh : w = hd
  · subst hwh; omega
  · omega
theorem aeS {w : Int} (h3 : D 36 hd < 3) (h30 : 0 ≤ D 36 hd) (j : Nat) (hj : (j : Int) ≤ D 36 w) (hw3 : D 36 w ≤ 3) : aeN (addS D hd) w j = aeN D w j := by
  rw [ae_sm, ae_sm]
  refine smK_cg j (fun i hi => ?_)
  have e : addS D hd 38 (3 * w + i) = D 38 (3 * w + i) := addS_38 (by by_cases hwh : w = hd; (subst hwh; omega); omega)
  rw [e]
  exact ag_cg (fun p _ => addS_o (by decide) (by decide) (by decide))
theorem wo_S (hM : MI nx hd D) (h0 : 0 ≤ hd) (h1 : hd < 60) (h3 : D 36 hd < 3) : woN (addS D hd) 0 60 = woN D 0 60 := by
  have h30 := (hM.w h0 h1).1
  rw [wo_sm, wo_sm]
  refine smK_cg 60 (fun w hw => ?_)
  have hw3 := hM.w (w := w) (by omega) (by omega)
  by_cases hwh : (w : Int) = hd
  · rw [hwh, addS_36h, show (D 36 hd + 1).toNat = (D 36 hd).toNat + 1 by omega]
    simp only [waN]
    rw [waS h3 h30 _ (by omega) (by omega), show (((D 36 hd).toNat : Nat) : Int) = D 36 hd by omega, addS_38h]; omega
  · rw [addS_36 hwh, waS h3 h30 _ (by omega) hw3.2.1]
theorem ao_S (hM : MI nx hd D) (h0 : 0 ≤ hd) (h1 : hd < 60) (h3 : D 36 hd < 3) : aoN (addS D hd) 0 60 = aoN D 0 60 := by
  have h30 := (hM.w h0 h1).1
  rw [ao_sm, ao_sm]
  refine smK_cg 60 (fun w hw => ?_)
  have hw3 := hM.w (w := w) (by omega) (by omega)
  by_cases hwh : (w : Int) = hd
  · rw [hwh, addS_36h, show (D 36 hd + 1).toNat = (D 36 hd).toNat + 1 by omega]
    simp only [aeN]
    rw [aeS h3 h30 _ (by omega) (by omega), show (((D 36 hd).toNat : Nat) : Int) = D 36 hd by omega, addS_38h]
    show _ + agN _ _ 0 = _
    simp [agN]
  · rw [addS_36 hwh, aeS h3 h30 _ (by omega) hw3.2.1]
theorem sn_o {D' : Dr} (h : ∀ w : Int, D' 36 w = D 36 w) : snN D' 0 60 = snN D 0 60 := by
  rw [sn_sm, sn_sm]; exact smK_cg 60 (fun w _ => h w)
theorem wo_o {D' : Dr} (h : ∀ w : Int, D' 36 w = D 36 w) (h2 : ∀ w : Int, D' 38 w = D 38 w) : woN D' 0 60 = woN D 0 60 := by
  rw [wo_sm, wo_sm]; refine smK_cg 60 (fun w _ => ?_)
  rw [h, wa_sm, wa_sm]; exact smK_cg _ (fun i _ => h2 _)
theorem ao_o {D' : Dr} (h : ∀ w : Int, D' 36 w = D 36 w) (h2 : ∀ w : Int, D' 38 w = D 38 w) (h3 : ∀ w : Int, D' 40 w = D 40 w) : aoN D' 0 60 = aoN D 0 60 := by
  rw [ao_sm, ao_sm]; refine smK_cg 60 (fun w _ => ?_)
  rw [h, ae_sm, ae_sm]; refine smK_cg _ (fun i _ => ?_)
  rw [h2]; exact ag_cg (fun p _ => h3 _)
/-- the sense at work is the last one of hd -/
theorem cur_lt (hM : MI nx hd D) (hn : 2 ≤ nx) : (((D 36 hd).toNat - 1 : Nat) : Int) = D 36 hd - 1 ∧ 1 ≤ D 36 hd ∧ D 36 hd ≤ 3 ∧ 0 ≤ hd ∧ hd < 60 := by
  have := hM.hd hn; omega
theorem wo_W (hM : MI nx hd D) (hn : 2 ≤ nx) : woN (addW D (cur D hd) v) 0 60 = woN D 0 60 + 1 := by
  have hc := cur_lt hM hn
  have e36 : ∀ w, addW D (cur D hd) v 36 w = D 36 w := fun w => addW_o (by decide) (by decide) (by decide)
  rw [wo_sm, wo_sm]
  refine sm60 hc.2.2.2.1 hc.2.2.2.2 ?_ (fun w hw hwh => ?_)
  · show waN _ ((hd.toNat : Nat) : Int) (addW D (cur D hd) v 36 ((hd.toNat : Nat) : Int)).toNat = waN D ((hd.toNat : Nat) : Int) (D 36 ((hd.toNat : Nat) : Int)).toNat + 1
    rw [show ((hd.toNat : Nat) : Int) = hd by omega, e36, wa_sm, wa_sm, smK_d (f := fun j => D 38 (3 * hd + j)) (v := (D 36 hd).toNat - 1) (c := 1) ?_ ?_ (D 36 hd).toNat, if_pos (by omega)]
    · show addW D (cur D hd) v 38 (3 * hd + (((D 36 hd).toNat - 1 : Nat) : Int)) = _
      rw [hc.1, addW_38h]
    · intro i hi
      exact addW_38 (by unfold cur; omega)
  · have hw3 := hM.w (w := w) (by omega) (by omega)
    show waN _ (w : Int) (addW D (cur D hd) v 36 w).toNat = waN D (w : Int) (D 36 w).toNat
    rw [e36, wa_sm, wa_sm]
    exact smK_cg _ (fun i hi => addW_38 (by unfold cur; omega))
theorem agW {s : Int} (hs : s ≠ cur D hd) (h6 : D 38 (cur D hd) < 6) (h60 : 0 ≤ D 38 (cur D hd)) (k : Nat) (hk : k ≤ 6) : agN (addW D (cur D hd) v) s k = agN D s k :=
  ag_cg (fun p hp => addW_40 (by omega))
theorem ao_W (hM : MI nx hd D) (hn : 2 ≤ nx) (h6 : D 38 (cur D hd) < 6) : aoN (addW D (cur D hd) v) 0 60 = aoN D 0 60 := by
  have hc := cur_lt hM hn
  have hcs := (hM.cs hn).1
  have e36 : ∀ w, addW D (cur D hd) v 36 w = D 36 w := fun w => addW_o (by decide) (by decide) (by decide)
  rw [ao_sm, ao_sm]
  refine smK_cg 60 (fun w hw => ?_)
  have hw3 := hM.w (w := w) (by omega) (by omega)
  rw [e36, ae_sm, ae_sm]
  refine smK_cg _ (fun i hi => ?_)
  by_cases hcu : 3 * (w : Int) + i = cur D hd
  · rw [hcu, addW_38h, show (D 38 (cur D hd) + 1).toNat = (D 38 (cur D hd)).toNat + 1 by omega]
    simp only [agN]
    rw [show (((D 38 (cur D hd)).toNat : Nat) : Int) = D 38 (cur D hd) by omega, addW_40h, if_pos rfl, Int.add_zero]
    exact ag_cg (fun p hp => addW_40 (by omega))
  · have hsi := (hM.s (w := w) (s := i) (by omega) (by omega) (by omega) (by omega)).1
    rw [addW_38 hcu, agW hcu h6 hcs.2.2.1 _ (by omega)]
theorem ao_A (hM : MI 6 hd D) (ha : D 40 (6 * cur D hd + (D 38 (cur D hd) - 1)) = 0) : aoN (up D 40 (6 * cur D hd + (D 38 (cur D hd) - 1)) 1) 0 60 = aoN D 0 60 + 1 := by
  have hc := cur_lt hM (by omega)
  have hcs := (hM.cs (by omega)).1
  have h1 := hM.2.2.2.2.1 (by omega)
  have e : ∀ (o : Nat) (k : Int), o ≠ 40 → up D 40 (6 * cur D hd + (D 38 (cur D hd) - 1)) 1 o k = D o k := fun o k ho => up_o _ _ _ _ ho
  have hag : ∀ (s : Int) (k : Nat), s ≠ cur D hd → k ≤ 6 → agN (up D 40 (6 * cur D hd + (D 38 (cur D hd) - 1)) 1) s k = agN D s k := fun s k hs hk => ag_cg (fun p hp => up_k _ _ _ _ (by omega))
  rw [ao_sm, ao_sm]
  refine sm60 hc.2.2.2.1 hc.2.2.2.2 ?_ (fun w hw hwh => ?_)
  · show aeN _ ((hd.toNat : Nat) : Int) (up D 40 _ 1 36 ((hd.toNat : Nat) : Int)).toNat = aeN D ((hd.toNat : Nat) : Int) (D 36 ((hd.toNat : Nat) : Int)).toNat + 1
    rw [show ((hd.toNat : Nat) : Int) = hd by omega, e 36 _ (by decide), ae_sm, ae_sm, smK_d (f := fun j => agN D (3 * hd + j) (D 38 (3 * hd + j)).toNat) (v := (D 36 hd).toNat - 1) (c := 1) ?_ ?_ (D 36 hd).toNat, if_pos (by omega)]
    · show agN _ (3 * hd + (((D 36 hd).toNat - 1 : Nat) : Int)) (up D 40 _ 1 38 (3 * hd + (((D 36 hd).toNat - 1 : Nat) : Int))).toNat = agN D (3 * hd + (((D 36 hd).toNat - 1 : Nat) : Int)) (D 38 (3 * hd + (((D 36 hd).toNat - 1 : Nat) : Int))).toNat + 1
      rw [hc.1, e 38 _ (by decide)]
      show agN _ (cur D hd) (D 38 (cur D hd)).toNat = agN D (cur D hd) (D 38 (cur D hd)).toNat + 1
      rw [show (D 38 (cur D hd)).toNat = (D 38 (cur D hd) - 1).toNat + 1 by omega]
      simp only [agN]
      rw [show (((D 38 (cur D hd) - 1).toNat : Nat) : Int) = D 38 (cur D hd) - 1 by omega, up_same, if_neg (by decide), ha, if_pos rfl, Int.add_zero]
      congr 1
      exact ag_cg (fun p hp => up_k _ _ _ _ (by omega))
    · intro i hi
      show agN _ (3 * hd + i) (up D 40 _ 1 38 (3 * hd + i)).toNat = _
      rw [e 38 _ (by decide)]
      by_cases hi3 : (i : Int) < D 36 hd
      · have hsi := (hM.s (w := hd) (s := i) (by omega) (by omega) (by omega) hi3).1
        exact hag _ _ (by unfold cur; omega) (by omega)
      · exact ag_cg (fun p hp => up_k _ _ _ _ (by have hcd : cur D hd = 3 * hd + (D 36 hd - 1) := rfl; omega))
  · have hw3 := hM.w (w := w) (by omega) (by omega)
    show aeN _ (w : Int) (up D 40 _ 1 36 w).toNat = aeN D (w : Int) (D 36 w).toNat
    rw [e 36 _ (by decide), ae_sm, ae_sm]
    refine smK_cg _ (fun i hi => ?_)
    rw [e 38 _ (by decide)]
    have hsi := (hM.s (w := w) (s := i) (by omega) (by omega) (by omega) (by omega)).1
    exact hag _ _ (by unfold cur; omega) (by omega)
end

