/-! ===== the heap by ordinals ===== -/
theorem wGt_mem {w : Cond} (h : w ∈ lw_tbl) (hg : goodWord w = true) : w ∈ wGt := List.mem_filter.mpr ⟨h, hg⟩
theorem wNw_mem {w : Cond} (h : w ∈ lw_tbl) (hg : wIsNest w = true) : w ∈ wNw := List.mem_filter.mpr ⟨h, hg⟩
theorem wGt_good {w : Cond} (h : w ∈ wGt) : (w.onTables && w.keeps) = true ∨ ∃ ty, w = .arrayClass ty := good_of_word (List.mem_filter.mp h).2
theorem wNw_same {u U : State} (e : u.vm = U.vm) (h : ∀ w ∈ wNw, va_Nw w u) : ∀ w ∈ wNw, va_Nw w U := by
  intro w hw
  have h1 := h w hw
  have h2 := (List.mem_filter.mp hw).2
  cases w with
  | methodLinkNest => exact va_Nw.same rfl e h1
  | fieldLinkNest => exact va_Nw.same rfl e h1
  | arrayOver t =>
    cases t with
    | object n => exact va_AO.moved (u := u) (U := U) (by rw [e]; exact Vm.Alike.refl _) h1
    | _ => simp [wIsNest] at h2
  | _ => simp [wIsNest] at h2
theorem wNw_warm {s U : State} (hW : s.WarmedH U.vm) (h : ∀ w ∈ wNw, va_Nw w s) : ∀ w ∈ wNw, va_Nw w U := by
  intro w hw
  have h1 := h w hw
  have h2 := (List.mem_filter.mp hw).2
  cases w with
  | methodLinkNest => exact va_Nw.warmM hW h1
  | fieldLinkNest => exact va_Nw.warmF hW h1
  | arrayOver t =>
    cases t with
    | object n => exact va_AO.moved (u := s) (U := U) hW.alike h1
    | _ => simp [wIsNest] at h2
  | _ => simp [wIsNest] at h2
theorem wNw_of {A : Array Value} {U : State} (h : ∀ w ∈ lw_tbl, w.before A U = true) : ∀ w ∈ wNw, va_Nw w U := by
  intro w hw
  obtain ⟨h0, h2⟩ := List.mem_filter.mp hw
  have h1 := h w h0
  cases w with
  | methodLinkNest => exact va_Nw.of rfl h1
  | fieldLinkNest => exact va_Nw.of rfl h1
  | arrayOver t =>
    cases t with
    | object n => exact va_AO.of h1
    | _ => simp [wIsNest] at h2
  | _ => simp [wIsNest] at h2
set_option maxRecDepth 100000 in
theorem wLay_all : ((List.range 13).all (fun c => (u_ws (fCC c) (fTT c) (fNN c)).all (fun w => decide (w ∈ lw_tbl) && goodWord w))) = true := by decide +kernel
theorem wLay {c : Nat} (hc : c < 13) : ∀ w ∈ u_ws (fCC c) (fTT c) (fNN c), w ∈ wGt := by
  intro w hw
  have h1 := List.all_eq_true.mp wLay_all c (List.mem_range.mpr hc)
  have h2 := List.all_eq_true.mp h1 w hw
  simp only [Bool.and_eq_true, decide_eq_true_eq] at h2
  exact wGt_mem h2.1 h2.2
theorem wTyp : ∀ c, c < 13 → ∀ k, k < fNN c → parseFieldDescriptor (fTT c k).2.2.1 = some (fTy c k) := by decide +kernel
theorem wNam : ∀ c, c < 13 → ∀ a, a < fNN c → ∀ b, b < fNN c → a ≠ b → (fTT c a).2.1 ≠ (fTT c b).2.1 := by decide +kernel
theorem wDecl : ∀ c, c < 13 → ∀ k, k < fNN c → (fTT c k).1 = fCC c := by decide +kernel
theorem cE_i {cA : Nat → ClassId} {ad : Nat → Nat} {m : Mm} {o N : Nat} (h : kd o = (100, N)) : cE cA ad m o = .inl (cA 0, N, .inl (fun k => Int32.ofInt (m.1 o k))) := by
  unfold cE; rw [h]; rfl
theorem cE_l {cA : Nat → ClassId} {ad : Nat → Nat} {m : Mm} {o N : Nat} (h : kd o = (101, N)) : cE cA ad m o = .inl (cA 1, N, .inr (.inl (fun k => Int64.ofBitVec (m.2.1 o k)))) := by
  unfold cE; rw [h]; rfl
theorem cE_z {cA : Nat → ClassId} {ad : Nat → Nat} {m : Mm} {o N : Nat} (h : kd o = (102, N)) : cE cA ad m o = .inl (cA 2, N, .inl (fun k => Int32.ofInt (m.1 o k))) := by
  unfold cE; rw [h]; rfl
theorem cE_r {cA : Nat → ClassId} {ad : Nat → Nat} {m : Mm} {o N : Nat} (h : kd o = (103, N)) : cE cA ad m o = .inl (cA 3, N, .inr (.inr (.inr (.inr (fun k => (m.2.2.1 o k).map ad))))) := by
  unfold cE; rw [h]; rfl
abbrev cFs (ad : Nat → Nat) (m : Mm) (c o N : Nat) : List Value := (List.range N).map (fun k => fv ad m (fTy c k) o k)
theorem cE_o {cA : Nat → ClassId} {ad : Nat → Nat} {m : Mm} {o c N : Nat} (h : kd o = (c, N)) (hc : c < 13) : cE cA ad m o = .inr (c, cFs ad m c o N) := by
  unfold cE; rw [h]
  dsimp only
  split <;> first | omega | rfl
theorem cE_congr {cA : Nat → ClassId} {ad : Nat → Nat} {m m' : Mm} {o : Nat} (h1 : ∀ k, m'.1 o k = m.1 o k) (h2 : ∀ k, m'.2.1 o k = m.2.1 o k) (h3 : ∀ k, m'.2.2.1 o k = m.2.2.1 o k) : cE cA ad m' o = cE cA ad m o := by
  simp only [cE, fv, h1, h2, h3]
theorem Hp.set {D : va_G} {cA : Nat → ClassId} {ad : Nat → Nat} {base : Nat} {m m' : Mm} {H H1 : Heap} {o : Nat} (h : Hp D cA ad base m H) (hn : m'.2.2.2 = m.2.2.2)
    (heq : ∀ o', o' ≠ o → (∀ k, m'.1 o' k = m.1 o' k) ∧ (∀ k, m'.2.1 o' k = m.2.1 o' k) ∧ ∀ k, m'.2.2.1 o' k = m.2.2.1 o' k) (z : H1.size = H.size) (oq : ∀ q, q ≠ base + o → H1[q]? = H[q]?) (e : va_at D wCl (base + o, cE cA ad m' o) H1) : Hp D cA ad base m' H1 := by
  refine ⟨by rw [z, hn]; exact h.1, by rw [hn]; exact h.2.1, fun o' ho' => ?_⟩
  by_cases hq : o' = o
  · subst hq; exact e
  · obtain ⟨a1, a2, a3⟩ := heq o' hq
    rw [cE_congr a1 a2 a3]
    exact (h.2.2 o' (by rw [← hn]; exact ho')).kept (oq _ (by show base + o' ≠ base + o; omega))
theorem up_same {α : Type} (f : Nat → Int → α) (o : Nat) (k : Int) (v : α) : up f o k v o k = v := by simp [up]
theorem up_o {α : Type} (f : Nat → Int → α) {o o' : Nat} (k k' : Int) (v : α) (h : o' ≠ o) : up f o k v o' k' = f o' k' := by simp [up, h]
theorem up_k {α : Type} (f : Nat → Int → α) (o o' : Nat) {k k' : Int} (v : α) (h : k' ≠ k) : up f o k v o' k' = f o' k' := by simp [up, h]
/-! what a link says of a field -/
def wFl (own : String) (idx c k : Nat) : Prop := Cond.fieldLink own idx (fCC c) (fTT c k).2.1 (fTT c k).2.2.1 ∈ wGt ∨ Cond.fieldLinkNest own idx (fCC c) (fTT c k).2.1 (fTT c k).2.2.1 RX11 ∈ wNw
def wFI (own : String) (idx c k : Nat) : Prop := wFl own idx c k ∧ c < 13 ∧ k < fNN c ∧ (fTy c k = .int ∨ fTy c k = .boolean)
def wFL (own : String) (idx c k : Nat) : Prop := wFl own idx c k ∧ c < 13 ∧ k < fNN c ∧ fTy c k = .long
def isR : FieldType → Bool
  | .object _ => true
  | .array _ => true
  | _ => false
def wFR (own : String) (idx c k : Nat) : Prop := wFl own idx c k ∧ c < 13 ∧ k < fNN c ∧ isR (fTy c k) = true
theorem fv_i {ad : Nat → Nat} {m : Mm} {ty : FieldType} {o k : Nat} (h : ty = .int ∨ ty = .boolean) : fv ad m ty o k = .int (Int32.ofInt (m.1 o k)) := by
  rcases h with rfl | rfl <;> rfl
theorem fv_r {ad : Nat → Nat} {m : Mm} {ty : FieldType} {o k : Nat} (h : isR ty = true) : fv ad m ty o k = va_rf ((m.2.2.1 o k).map ad) := by
  cases ty <;> first | rfl | (simp [isR] at h)
variable {M : MD} {pc : Nat} {ls : List (Option AV)} {st : List AV} {I : Nat → Int → Int} {L : Nat → Int → BitVec 64} {R : Nat → Int → Option Nat} {n : Nat} {bd : Nat × Nat} {Q : Option AV → Mm → Prop}
theorem w_getf {p : Program} {l : Launch} {e : Env} {RR : Room} {s : State} {mid : MethodId} {args : Array Value} {below : List Frame} {meth : Method} {cc : Code} {H : Heap} {locs : List Loc} {cells slots : Nat} {D : va_G} {cA : Nat → ClassId} {ad : Nat → Nat} {base : Nat} {lsC : Array Slot} {Qf : State → Prop} {m : Mm} {o c k idx : Nat} {rest : List Value}
    (hC : wCx M p RR s mid args meth cc D cA ad base) (hH : Hp D cA ad base m H) (hd : decode (mdC M) pc = .ok (.getfield idx, 3)) (hf : wFl (mdY M).cls idx c k) (hc : c < 13) (hk : k < fNN c) (hkd : kd o = (c, fNN c)) (ho : o < m.2.2.2)
    (kk : W p l e RR s mid args below meth cc H locs cells slots Qf (F0 mid (pc + 3) lsC (fv ad m (fTy c k) o k :: rest))) : W p l e RR s mid args below meth cc H locs cells slots Qf (F0 mid pc lsC (.ref (ad o) :: rest)) := by
  obtain ⟨hx, hb, hml, hown, hts, hnw, hK, -, -, -, -, -, -, had, -⟩ := hC
  have hat := hH.2.2 o ho
  rw [cE_o hkd hc] at hat
  rw [had o (by have := hH.2.1; omega)]
  have hP : va_P D wCl [(base + o, .inr (c, cFs ad m c o (fNN c)))] H := fun j q hq => by
    cases j with
    | zero => cases hq; exact hat
    | succ j => simp at hq
  have hv : (cFs ad m c o (fNN c))[k]? = some (fv ad m (fTy c k) o k) := by simp [cFs, hk]
  have hsame : ∀ x, s.fieldFound? (fTT c k).1 (fTT c k).2.1 (fTT c k).2.2.1 = some x → s.fieldFound? (fCC c) (fTT c k).2.1 (fTT c k).2.2.1 = some x := fun x h => by rw [← wDecl c hc k hk]; exact h
  rcases hf with hf | hf
  · exact va_get hx hb hts (wLay hc) hown hK hP 0 rfl (wCl_get hc) k hk (hts _ hf) hsame hv hd kk
  · exact va_getN hx hb hts (wLay hc) hown hK hP 0 rfl (wCl_get hc) k hk (va_Nw.use rfl (hnw _ hf)) hsame hv hd kk
theorem Wp.geti {o idx c k : Nat} (hd : decode (mdC M) pc = .ok (.getfield idx, 3)) (hf : wFI (mdY M).cls idx c k) (hkd : kd o = (c, fNN c)) (ho : o < n) (kk : Wp M (pc + 3) ls (vi (I o k) :: st) (I, L, R, n) bd Q) : Wp M pc ls (vr (some o) :: st) (I, L, R, n) bd Q := by
  intro p l e RR s mid args below meth c' H locs cells slots D cA ad base lsC Qf hC hH hS h1 h2 hl hF
  refine w_getf hC hH hd hf.1 hf.2.1 hf.2.2.1 hkd ho ?_
  rw [fv_i hf.2.2.2]
  exact kk p l e RR s mid args below meth c' H locs cells slots D cA ad base lsC Qf hC hH hS h1 h2 hl hF
theorem Wp.getl {o idx c k : Nat} (hd : decode (mdC M) pc = .ok (.getfield idx, 3)) (hf : wFL (mdY M).cls idx c k) (hkd : kd o = (c, fNN c)) (ho : o < n) (kk : Wp M (pc + 3) ls (vl (L o k) :: st) (I, L, R, n) bd Q) : Wp M pc ls (vr (some o) :: st) (I, L, R, n) bd Q := by
  intro p l e RR s mid args below meth c' H locs cells slots D cA ad base lsC Qf hC hH hS h1 h2 hl hF
  refine w_getf hC hH hd hf.1 hf.2.1 hf.2.2.1 hkd ho ?_
  rw [hf.2.2.2]
  exact kk p l e RR s mid args below meth c' H locs cells slots D cA ad base lsC Qf hC hH hS h1 h2 hl hF
theorem Wp.getr {o idx c k : Nat} {r : Option Nat} (hd : decode (mdC M) pc = .ok (.getfield idx, 3)) (hf : wFR (mdY M).cls idx c k) (hkd : kd o = (c, fNN c)) (ho : o < n) (hr : R o k = r) (kk : Wp M (pc + 3) ls (vr r :: st) (I, L, R, n) bd Q) : Wp M pc ls (vr (some o) :: st) (I, L, R, n) bd Q := by
  intro p l e RR s mid args below meth c' H locs cells slots D cA ad base lsC Qf hC hH hS h1 h2 hl hF
  refine w_getf hC hH hd hf.1 hf.2.1 hf.2.2.1 hkd ho ?_
  rw [fv_r hf.2.2.2]
  show W p l e RR s mid args below meth c' H locs cells slots Qf (F0 mid (pc + 3) lsC (va_rf ((R o k).map ad) :: _))
  rw [hr]
  exact kk p l e RR s mid args below meth c' H locs cells slots D cA ad base lsC Qf hC hH hS h1 h2 hl hF
/-- a field is written: the new memory m' differs at o, k alone -/
theorem w_putf {p : Program} {l : Launch} {e : Env} {RR : Room} {s : State} {mid : MethodId} {args : Array Value} {below : List Frame} {meth : Method} {cc : Code} {H : Heap} {locs : List Loc} {cells slots : Nat} {D : va_G} {cA : Nat → ClassId} {ad : Nat → Nat} {base : Nat} {lsC : Array Slot} {Qf : State → Prop} {m m' : Mm} {o c k idx : Nat} {rest : List Value} {v : Value}
    (hC : wCx M p RR s mid args meth cc D cA ad base) (hH : Hp D cA ad base m H) (hS : va_S (fun q => base ≤ q) s.heap H locs) (hd : decode (mdC M) pc = .ok (.putfield idx, 3)) (hf : wFl (mdY M).cls idx c k) (hc : c < 13) (hk : k < fNN c) (hkd : kd o = (c, fNN c)) (ho : o < m.2.2.2)
    (hfin : (fTT c k).2.2.2 = false ∨ ((fTT c k).2.2.2 = true ∧ (mdY M).name = "<init>" ∧ (mdY M).cls = fCC c ∧ Cond.fieldLink (mdY M).cls idx (fCC c) (fTT c k).2.1 (fTT c k).2.2.1 ∈ wGt))
    (hn : narrow (fTy c k) v = v) (hfit : fits (fTy c k) v = true) (hn' : m'.2.2.2 = m.2.2.2)
    (heq : ∀ o', o' ≠ o → (∀ k, m'.1 o' k = m.1 o' k) ∧ (∀ k, m'.2.1 o' k = m.2.1 o' k) ∧ ∀ k, m'.2.2.1 o' k = m.2.2.1 o' k)
    (hval : ∀ j, j < fNN c → fv ad m' (fTy c j) o j = if j = k then v else fv ad m (fTy c j) o j)
    (kk : ∀ (H1 : Heap) (locs1 : List Loc), Hp D cA ad base m' H1 → va_S (fun q => base ≤ q) s.heap H1 locs1 → W p l e RR s mid args below meth cc H1 locs1 cells slots Qf (F0 mid (pc + 3) lsC rest)) : W p l e RR s mid args below meth cc H locs cells slots Qf (F0 mid pc lsC (v :: .ref (ad o) :: rest)) := by
  obtain ⟨hx, hb, hml, hown, hts, hnw, hK, -, -, hnm, -, -, -, had, -⟩ := hC
  have hat := hH.2.2 o ho
  rw [cE_o hkd hc] at hat
  rw [had o (by have := hH.2.1; omega)]
  obtain ⟨r, g1, cell, q1, q2, q3, q4⟩ := hat
  have hr : r = (fCC c, fTT c, fNN c) := Option.some.inj (g1.symm.trans (wCl_get hc))
  subst hr
  have hap := va_apart (own := (mdY M).cls) hts (wLay hc) (fTy c) (wTyp c hc) (wNam c hc) hK (wCl_get hc)
  obtain ⟨hSl, hfc, kC, hkC, hkind⟩ := hK.1 c _ (wCl_get hc)
  obtain ⟨cf, kf, fi, f, hi, hsl⟩ := hSl k hk
  have hi' : s.fieldFound? (fCC c) (fTT c k).2.1 (fTT c k).2.2.1 = some (cf, kf, fi, f) := by rw [← wDecl c hc k hk]; exact hi
  have hst := (u_facts hfc hkC (u_lays hts (wLay hc) hk) hi).1
  have hlay := hts _ (wLay hc _ (u_in_lay hk))
  have fin : ∀ (H1 : Heap) (locs1 : List Loc), H1[base + o]? = some (cell.setSlot f.slot v) → H1.size = H.size → (∀ q, q ≠ base + o → H1[q]? = H[q]?) → W p l e RR s mid args below meth cc H1 (locs ++ [⟨base + o, f.slot⟩]) cells slots Qf (F0 mid (pc + 3) lsC rest) := by
    intro H1 _ e1 e2 e3
    rw [hsl] at e1
    refine kk H1 _ (hH.set hn' heq e2 e3 ?_) (hS.put e2 e3 (Nat.le_add_right _ _))
    rw [cE_o hkd hc]
    refine ⟨_, wCl_get hc, t_OB.to (V := updV (vp_V (cFs ad m c o (fNN c))) k v) ⟨_, e1, q2, q3, t_set q4 hap hk v⟩ (fun j hj => ?_)⟩
    have e4 : ∀ mm : Mm, vp_V (cFs ad mm c o (fNN c)) j = fv ad mm (fTy c j) o j := fun mm => by simp only [vp_V, cFs, List.getD_eq_getElem?_getD, List.getElem?_map, List.getElem?_range hj]; rfl
    rw [e4 m', hval j hj]
    by_cases hjk : j = k
    · subst hjk; simp [updV]
    · simp only [updV, if_neg hjk]; exact e4 m
  rcases hfin with hfin | ⟨hfin, hini, hcls, hlk⟩
  · unfold u_lay at hlay
    rw [if_neg (by rw [hfin]; decide)] at hlay
    have h6 := u_store hfc hkC hkind hlay hi (wTyp c hc k hk) hn hfit
    rcases hf with hf | hf
    · exact W.putK hx hb (f := f) ⟨hown, hts _ hf, ⟨_, _, _, hi'⟩, hst⟩ (by rw [q2]; exact h6) q1 q3 (by rw [hsl]; exact k2_hasslot (q4 k hk)) rfl rfl hd (fun H1 e1 e2 e3 => fin H1 [] e1 e2 e3)
    · exact va_WputK hx hb (f := f) hown (va_Nw.use rfl (hnw _ hf)) hi' hst (by rw [q2]; exact h6) q1 q3 (by rw [hsl]; exact k2_hasslot (q4 k hk)) rfl rfl hd (fun H1 e1 e2 e3 => fin H1 [] e1 e2 e3)
  · unfold u_lay at hlay
    rw [if_pos hfin] at hlay
    have hcf : mid.cls = cf := by
      obtain ⟨_, _, c', _, _, _, -, -, hf', -, -, -, hown2, -⟩ := Cond.laysFinal_spec hlay
      have e1 : c' = cf := by have := hi.symm.trans hf'; simp at this; exact this.1.symm
      rw [wDecl c hc k hk, ← hcls] at hown2
      rw [← e1]; exact Option.some.inj (hown.symm.trans hown2)
    have h6 := u_fits hfc hkC hkind (Or.inr hlay) hi (wTyp c hc k hk) hn hfit
    exact W.putFinK hx hb hown (hts _ hlk) hi' hst hcf (hnm hini) (by rw [q2]; exact h6) q1 q3 (by rw [hsl]; exact k2_hasslot (q4 k hk)) rfl rfl hd (fun H1 e1 e2 e3 => fin H1 [] e1 e2 e3)
def wFn (own name : String) (idx c k : Nat) : Prop := (fTT c k).2.2.2 = false ∨ ((fTT c k).2.2.2 = true ∧ name = "<init>" ∧ own = fCC c ∧ Cond.fieldLink own idx (fCC c) (fTT c k).2.1 (fTT c k).2.2.1 ∈ wGt)
theorem Wp.puti {o idx c k : Nat} {z : Int} (hd : decode (mdC M) pc = .ok (.putfield idx, 3)) (hf : wFI (mdY M).cls idx c k) (hfin : wFn (mdY M).cls (mdY M).name idx c k) (hz : fTy c k = .int ∨ z = 0 ∨ z = 1) (hkd : kd o = (c, fNN c)) (ho : o < n) (kk : Wp M (pc + 3) ls st (up I o k z, L, R, n) bd Q) : Wp M pc ls (vi z :: vr (some o) :: st) (I, L, R, n) bd Q := by
  intro p l e RR s mid args below meth c' H locs cells slots D cA ad base lsC Qf hC hH hS h1 h2 hl hF
  obtain ⟨hf1, hc, hk, hty⟩ := hf
  refine w_putf (m' := (up I o k z, L, R, n)) hC hH hS hd hf1 hc hk hkd ho hfin ?_ ?_ rfl (fun o' h => ⟨fun k' => up_o I _ _ _ h, fun _ => rfl, fun _ => rfl⟩) ?_ (fun H1 locs1 hH1 hS1 => kk p l e RR s mid args below meth c' H1 locs1 cells slots D cA ad base lsC Qf hC hH1 hS1 h1 h2 hl hF)
  · rcases hty with h | h
    · rw [h]; rfl
    · rcases hz with h3 | rfl | rfl
      · rw [h] at h3; cases h3
      · rw [h]; rfl
      · rw [h]; rfl
  · rcases hty with h | h
    · rw [h]; rfl
    · rcases hz with h3 | rfl | rfl
      · rw [h] at h3; cases h3
      · rw [h]; rfl
      · rw [h]; rfl
  · intro j hj
    by_cases hjk : j = k
    · subst hjk
      rw [if_pos rfl, fv_i hty]
      show Value.int (Int32.ofInt (up I o j z o j)) = _
      rw [up_same]; rfl
    · rw [if_neg hjk]
      have e : ∀ q : Int, q = j → up I o k z o q = I o q := fun q hq => up_k I o o z (by omega)
      simp only [fv]
      split <;> simp_all
theorem Wp.putl {o idx c k : Nat} {b : BitVec 64} (hd : decode (mdC M) pc = .ok (.putfield idx, 3)) (hf : wFL (mdY M).cls idx c k) (hfin : wFn (mdY M).cls (mdY M).name idx c k) (hkd : kd o = (c, fNN c)) (ho : o < n) (kk : Wp M (pc + 3) ls st (I, up L o k b, R, n) bd Q) : Wp M pc ls (vl b :: vr (some o) :: st) (I, L, R, n) bd Q := by
  intro p l e RR s mid args below meth c' H locs cells slots D cA ad base lsC Qf hC hH hS h1 h2 hl hF
  obtain ⟨hf1, hc, hk, hty⟩ := hf
  refine w_putf (m' := (I, up L o k b, R, n)) hC hH hS hd hf1 hc hk hkd ho hfin (by rw [hty]; rfl) (by rw [hty]; rfl) rfl (fun o' h => ⟨fun _ => rfl, fun k' => up_o L _ _ _ h, fun _ => rfl⟩) ?_ (fun H1 locs1 hH1 hS1 => kk p l e RR s mid args below meth c' H1 locs1 cells slots D cA ad base lsC Qf hC hH1 hS1 h1 h2 hl hF)
  intro j hj
  by_cases hjk : j = k
  · subst hjk
    rw [if_pos rfl, hty]
    show Value.long (Int64.ofBitVec (up L o j b o j)) = _
    rw [up_same]; rfl
  · rw [if_neg hjk]
    have e : ∀ q : Int, q = j → up L o k b o q = L o q := fun q hq => up_k L o o b (by omega)
    simp only [fv]
    split <;> simp_all
theorem Wp.putr {o idx c k : Nat} {r : Option Nat} (hd : decode (mdC M) pc = .ok (.putfield idx, 3)) (hf : wFR (mdY M).cls idx c k) (hfin : wFn (mdY M).cls (mdY M).name idx c k) (hkd : kd o = (c, fNN c)) (ho : o < n) (kk : Wp M (pc + 3) ls st (I, L, up R o k r, n) bd Q) : Wp M pc ls (vr r :: vr (some o) :: st) (I, L, R, n) bd Q := by
  intro p l e RR s mid args below meth c' H locs cells slots D cA ad base lsC Qf hC hH hS h1 h2 hl hF
  obtain ⟨hf1, hc, hk, hty⟩ := hf
  have hnf : narrow (fTy c k) (va_rf (r.map ad)) = va_rf (r.map ad) ∧ fits (fTy c k) (va_rf (r.map ad)) = true := by
    generalize fTy c k = ty at hty
    cases ty <;> first | (simp [isR] at hty; done) | (cases r <;> exact ⟨rfl, rfl⟩)
  refine w_putf (m' := (I, L, up R o k r, n)) hC hH hS hd hf1 hc hk hkd ho hfin hnf.1 hnf.2 rfl (fun o' h => ⟨fun _ => rfl, fun _ => rfl, fun k' => up_o R _ _ _ h⟩) ?_ (fun H1 locs1 hH1 hS1 => kk p l e RR s mid args below meth c' H1 locs1 cells slots D cA ad base lsC Qf hC hH1 hS1 h1 h2 hl hF)
  intro j hj
  by_cases hjk : j = k
  · subst hjk
    rw [if_pos rfl, fv_r hty]
    show va_rf ((up R o j r o j).map ad) = _
    rw [up_same]; rfl
  · rw [if_neg hjk]
    have e : ∀ q : Int, q = j → up R o k r o q = R o q := fun q hq => up_k R o o r (by omega)
    simp only [fv]
    split <;> simp_all
