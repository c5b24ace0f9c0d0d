/-! ===== calls ===== -/
def lin : List AV → List (Option AV)
  | [] => []
  | .inr (.inl b) :: l => some (vl b) :: none :: lin l
  | v :: l => some v :: lin l
def lent (n : Nat) (As : List AV) : List (Option AV) := lin As ++ List.replicate (n - (lin As).length) none
theorem lin_l (b : BitVec 64) (l : List AV) : lin (vl b :: l) = some (vl b) :: none :: lin l := rfl
theorem lget_rep : ∀ (k j : Nat), lget (List.replicate k none) j = none
  | 0, _ => rfl
  | k + 1, 0 => rfl
  | k + 1, j + 1 => by
    show lget (List.replicate k none) j = none
    exact lget_rep k j
theorem lin_mem {ad : Nat → Nat} {j : Nat} : ∀ (As : List AV) (i k : Nat) (v : AV), lget (lin As ++ List.replicate j none) k = some v → (i + k, cv ad v) ∈ lv_args i (As.map (cv ad))
  | [], i, k, v, h => by
    have : lget (List.replicate j none) k = some v := h
    rw [lget_rep] at this
    cases this
  | .inl z :: l, i, 0, v, h => by
    have h' : some (vi z) = some v := h
    cases h'
    exact List.mem_cons_self
  | .inl z :: l, i, k + 1, v, h => by
    have h' : lget (lin l ++ List.replicate j none) k = some v := h
    have h1 := lin_mem (ad := ad) l (i + 1) k v h'
    rw [show i + (k + 1) = i + 1 + k by omega]
    exact List.mem_cons_of_mem _ h1
  | .inr (.inl b) :: l, i, 0, v, h => by
    have h' : some (vl b) = some v := h
    cases h'
    exact List.mem_cons_self
  | .inr (.inl b) :: l, i, 1, v, h => by
    have h' : (none : Option AV) = some v := h
    cases h'
  | .inr (.inl b) :: l, i, k + 2, v, h => by
    have h' : lget (lin l ++ List.replicate j none) k = some v := h
    have h1 := lin_mem (ad := ad) l (i + 2) k v h'
    rw [show i + (k + 2) = i + 2 + k by omega]
    exact List.mem_cons_of_mem _ h1
  | .inr (.inr r) :: l, i, 0, v, h => by
    have h' : some (vr r) = some v := h
    cases h'
    exact List.mem_cons_self
  | .inr (.inr r) :: l, i, k + 1, v, h => by
    have h' : lget (lin l ++ List.replicate j none) k = some v := h
    have h1 := lin_mem (ad := ad) l (i + 1) k v h'
    have hc : (cv ad (.inr (.inr r))).category = 1 := by cases r <;> rfl
    rw [show i + (k + 1) = i + 1 + k by omega]
    show _ ∈ (i, cv ad (.inr (.inr r))) :: lv_args (if (cv ad (.inr (.inr r))).category = 2 then i + 2 else i + 1) (l.map (cv ad))
    rw [hc]
    exact List.mem_cons_of_mem _ h1
theorem lin_len {ad : Nat → Nat} : ∀ (As : List AV), (lg_sl (As.map (cv ad))).length = (lin As).length
  | [] => rfl
  | .inl z :: l => by
    have h := lin_len (ad := ad) l
    show (lg_sl (Value.int _ :: l.map (cv ad))).length = (lin l).length + 1
    simp only [lg_sl, List.flatMap_cons, List.length_append, Value.category] at h ⊢
    simp at h ⊢
    omega
  | .inr (.inl b) :: l => by
    have h := lin_len (ad := ad) l
    show (lg_sl (Value.long _ :: l.map (cv ad))).length = (lin l).length + 1 + 1
    simp only [lg_sl, List.flatMap_cons, List.length_append, Value.category] at h ⊢
    simp at h ⊢
    omega
  | .inr (.inr r) :: l => by
    have h := lin_len (ad := ad) l
    have hc : (cv ad (.inr (.inr r))).category = 1 := by cases r <;> rfl
    show (lg_sl (cv ad (.inr (.inr r)) :: l.map (cv ad))).length = (lin l).length + 1
    simp only [lg_sl, List.flatMap_cons, List.length_append, hc] at h ⊢
    simp at h ⊢
    omega
/-- what is known of a method that is called -/
def wMk (M' : MD) (k : Nat) : Prop := Cond.code (mdY M') (mdC M') (mdL M') (mdR M') ∈ wGt ∧ Cond.initialized (mdY M').cls ∈ wGt ∧ ((mdY M').cls ≠ "java/lang/invoke/MethodHandle" ∧ (mdY M').cls ≠ "java/lang/invoke/VarHandle") ∧ (parseMethodDescriptor (mdY M').desc).map (fun d => d.parameters.length) = some k ∧ plainName (mdY M').cls = true ∧ mdX M' = none
def wMv (M' : MD) (k c : Nat) : Prop := wMk M' k ∧ c < 13 ∧ fCC c = (mdY M').cls ∧ Cond.instanceMethod (mdY M') ∈ wGt ∧ Cond.selects (mdY M').cls (mdY M') (mdY M') ∈ wGt
def wMs (M' : MD) (k : Nat) : Prop := wMk M' k ∧ Cond.static (mdY M') ∈ wGt
def wMi (M' : MD) (k : Nat) : Prop := wMk M' k ∧ (mdY M').name = "<init>" ∧ mdR M' = none ∧ Cond.instanceMethod (mdY M') ∈ wGt
def wLk (own : String) (idx : Nat) (y : MethodName) : Prop := Cond.methodLink own idx y ∈ wGt ∨ Cond.methodLinkNest own idx y RX11 ∈ wNw
variable {M M' : MD} {pc idx : Nat} {ls ls0 : List (Option AV)} {st : List AV} {m : Mm} {bd bd' : Nat × Nat} {Q Q' : Option AV → Mm → Prop}
abbrev wPB (D : va_G) (cA : Nat → ClassId) (ad : Nat → Nat) (base : Nat) (m : Mm) (U : State) : Prop := Hp D cA ad base m U.heap ∧ va_K D wCl (wTys cA) U ∧ (∀ w ∈ wNw, va_Nw w U) ∧ base ≤ U.heap.size
def wQc (D : va_G) (cA : Nat → ClassId) (ad : Nat → Nat) (base : Nat) (Q' : Option AV → Mm → Prop) : Array Value → State → Outcome → State → Prop := fun _ s0 oc t => (∃ r m', oc = .returned (r.map (cv ad)) ∧ Q' r m' ∧ Hp D cA ad base m' t.heap) ∧ va_F (fun q => base ≤ q) s0 t
theorem w_boolN {z : Int} (hz : z = 0 ∨ z = 1) : narrow .boolean (.int (Int32.ofInt z)) = .int (Int32.ofInt z) := by rcases hz with rfl | rfl <;> rfl
theorem Wp.met {l : Launch} {D : va_G} {cA : Nat → ClassId} {ad : Nat → Nat} {base k : Nat} {As : List AV} (hM : wMk M' k) (had : ∀ o, o < 1000000 → ad o = base + o) (hle : lent (mdL M') As = ls0) (hlen : (lin As).length ≤ mdL M') (hk : Wp M' 0 ls0 [] m bd' Q') :
    Met l (mdY M') (Cond.code (mdY M') (mdC M') (mdL M') (mdR M') :: wGt) { frames := mdF M', cells := bd'.1, slots := bd'.2, locals := mdO M' } (va_Pc (As.map (cv ad)) (wPB D cA ad base m)) (wQc D cA ad base Q') bd'.1 bd'.2 (fun q => base ≤ q) := by
  obtain ⟨w1, w2, w3, w4, w5, w6⟩ := hM
  refine Met.ofW (cc := mdC M') (maxL := mdL M') (ret := mdR M') w5 rfl ?_
  intro p e s mid args below meth c s₁ B hml hv
  obtain ⟨rfl, hH, hK, hN, hb⟩ := hv
  have hts0 := atoms_spec (ws := Cond.code (mdY M') (mdC M') (mdL M') (mdR M') :: wGt) B.pre
  have hts : ∀ w ∈ wGt, w.before (As.map (cv ad)).toArray s = true := fun w hw => hts0 w (List.mem_cons_of_mem _ hw)
  have hnm : meth.name = (mdY M').name := (name_of_methodNamed B.named B.method).1
  have hlk := B.notSynchronized
  have hr := B.returns
  have hx := B.exec
  have hbb := B.bytes
  have hC : wCx M' p (headSpec (Cond.code (mdY M') (mdC M') (mdL M') (mdR M') :: wGt) { frames := mdF M', cells := bd'.1, slots := bd'.2, locals := mdO M' }).room s mid (As.map (cv ad)).toArray meth c D cA ad base :=
    ⟨hx, hbb, hml, findClass_of_methodNamed B.named, hts, hN, hK, hr, hlk, fun h => hnm.trans h, Nat.le_refl _, Nat.le_refl _, hb, had, by rw [w6]; trivial⟩
  rw [lg_entry_eq]
  have hent := lv_entry (As.map (cv ad)) (n := mdL M') (by rw [lin_len]; exact hlen)
  refine hk p l e _ s mid _ below meth c s.heap [] 0 0 D cA ad base _ _ hC hH va_S.rf (by show 0 + bd'.1 ≤ bd'.1; omega) (by show 0 + bd'.2 ≤ bd'.2; omega) ⟨hent.1, hent.2.1, fun k v hv => ?_⟩ ?_
  · rw [← hle] at hv
    exact hent.2.2 (k, cv ad v) (by simpa using lin_mem (ad := ad) As 0 k v hv)
  · intro r m' H' locs' pc' lsC' hQ hH' hS' hret
    rw [Nat.zero_add, Nat.zero_add]
    match r, hQ, hret with
    | none, hQ, hret =>
      exact W.vret hx hbb (hr.trans hret.1) (fun t ht hW => ⟨⟨none, m', rfl, hQ, by rw [ht]; exact hH'⟩, hS'.F ht⟩) hS'.2.2 hret.2
    | some (.inl z), hQ, hret =>
      rcases hret.2 with h | ⟨h, hz⟩
      · exact W.iret hx hbb (hr.trans h) (fun t ht hW => ⟨⟨some (vi z), m', rfl, hQ, by rw [ht]; exact hH'⟩, hS'.F ht⟩) hS'.2.2 hret.1
      · exact W.zret hx hbb (hr.trans h) (w_boolN hz) (fun t ht hW => ⟨⟨some (vi z), m', rfl, hQ, by rw [ht]; exact hH'⟩, hS'.F ht⟩) hS'.2.2 hret.1
    | some (.inr (.inl b)), hQ, hret =>
      exact W.lret hx hbb (hr.trans hret.1) (fun t ht hW => ⟨⟨some (vl b), m', rfl, hQ, by rw [ht]; exact hH'⟩, hS'.F ht⟩) hS'.2.2 hret.2
    | some (.inr (.inr a)), hQ, hret =>
      obtain ⟨n, hn⟩ := hret.1
      exact W.aret (v := va_rf (a.map ad)) hx hbb (hr.trans hn) (Or.inl ⟨n, rfl⟩) (va_rf_or _) (fun t ht hW => ⟨⟨some (vr a), m', rfl, hQ, by rw [ht]; exact hH'⟩, hS'.F ht⟩) hS'.2.2 hret.2
theorem w_blind {D : va_G} {cA : Nat → ClassId} {ad : Nat → Nat} {base : Nat} {As : List AV} : FrameBlind (va_Pc (As.map (cv ad)) (wPB D cA ad base m)) := by
  intro a U g mk q
  obtain ⟨q0, q1, q2, q3, q4⟩ := q
  exact ⟨q0, q1, va_K.moved (u := U) (U := U.calling g mk a) (Vm.Alike.refl U.vm) q2, wNw_same (u := U) (U := U.calling g mk a) rfl q3, q4⟩
theorem w_pay {s : State} {args : Array Value} {c0 : Cond} (hts : ∀ w ∈ wGt, w.before args s = true) (hc : c0 ∈ wGt) : ∀ w ∈ c0 :: wGt, ∀ (a' : Array Value) (U : State), s.WarmedH U.vm → w.before a' U = true := by
  intro w hw a' U hW
  have hm : w ∈ wGt := by
    rcases List.mem_cons.mp hw with rfl | h
    · exact hc
    · exact h
  exact word_at hW (wGt_good hm) (hts w hm)
def pushR : Option AV → List AV → List AV
  | none, st => st
  | some v, st => v :: st
/-- behind a call -/
theorem w_after {p : Program} {l : Launch} {e : Env} {RR : Room} {s : State} {mid : MethodId} {args : Array Value} {below : List Frame} {meth : Method} {cc : Code} {H : Heap} {locs : List Loc} {cells slots : Nat} {D : va_G} {cA : Nat → ClassId} {ad : Nat → Nat} {base : Nat} {lsC : Array Slot} {Qf : State → Prop} {bd0 : Nat × Nat} {st0 : List Value} {a : Array Value}
    (hC : wCx M p RR s mid args meth cc D cA ad base) (hS : va_S (fun q => base ≤ q) s.heap H locs) (e0 : bd0 = (bd.1 + bd'.1, bd.2 + bd'.2)) (h1 : cells + bd0.1 ≤ RR.cells) (h2 : slots + bd0.2 ≤ RR.slots) (hl : wLs ad (mdL M) ls lsC)
    (hF : ∀ (r : Option AV) (m' : Mm) (H' : Heap) (locs' : List Loc) (pc' : Nat) (lsC' : Array Slot), Q r m' → Hp D cA ad base m' H' → va_S (fun q => base ≤ q) s.heap H' locs' → wRet M pc' r →
      W p l e RR s mid args below meth cc H' locs' (cells + bd0.1) (slots + bd0.2) Qf (F0 mid pc' lsC' (r.toList.map (cv ad))))
    (hr : va_Run p l e RR s mid args below meth cc H locs cells slots bd'.1 bd'.2 (F0 mid pc lsC st0) (st.map (cv ad)) (wQc D cA ad base (fun r m' => Wp M (pc + 3) ls (pushR r st) m' bd Q) a) (fun q => base ≤ q)) :
    W p l e RR s mid args below meth cc H locs cells slots Qf (F0 mid pc lsC st0) := by
  intro T hT X
  obtain ⟨v, st₀, t, T', L, h0, X', hL, e1, e2, ⟨⟨r, m', hv, hQ, hH'⟩, hz, hk⟩, stp⟩ := hr T hT X
  cases hv
  rw [h0] at hz hk
  subst e0
  dsimp only at h1 h2
  have hS' : va_S (fun q => base ≤ q) s.heap T'.heap (locs ++ L) := ⟨Nat.le_trans hS.1 (by rw [e1]; exact hz), fun q q1 q2 => by rw [e1, hk q (Nat.lt_of_lt_of_le q1 hS.1) q2]; exact hS.2.1 q q1 q2, fun q hq => by
      rcases List.mem_append.mp hq with h | h
      · exact hS.2.2 q h
      · exact hL q h⟩
  have w := hQ p l e RR s mid args below meth cc T'.heap (locs ++ L) (cells + bd'.1) (slots + bd'.2) D cA ad base lsC Qf hC (by rw [e1]; exact hH') hS' (by omega) (by omega) hl (w_hF rfl hF)
  obtain ⟨t2, a1, b1⟩ := w T' rfl X'
  refine ⟨t2, stp t2 ?_, b1⟩
  have e3 : (r.map (cv ad)).toList ++ st.map (cv ad) = (pushR r st).map (cv ad) := by cases r <;> rfl
  show Steps p.tables e below (T'.setTop (F0 mid (pc + 3) lsC ((r.map (cv ad)).toList ++ st.map (cv ad)))) t2
  rw [e3]
  exact a1
def avc : AV → Nat
  | .inr (.inl _) => 2
  | _ => 1
theorem avc_eq {ad : Nat → Nat} (v : AV) : (cv ad v).category = avc v := by
  rcases v with z | b | r
  · rfl
  · rfl
  · cases r <;> rfl
theorem w_cats {ad : Nat → Nat} (st : List AV) : ((st.map (cv ad)).map fun v => v.category).sum = (st.map avc).sum := by
  rw [List.map_map]
  congr 1
  apply List.map_congr_left
  intro v _
  exact avc_eq v
theorem w_npar {y : MethodName} {k : Nat} (h : (parseMethodDescriptor y.desc).map (fun d => d.parameters.length) = some k) : ∀ sig, parseMethodDescriptor y.desc = some sig → k = sig.parameters.length := by
  intro sig hs
  rw [hs] at h
  exact (Option.some.inj h).symm
theorem w_room {mid : MethodId} {lsC : Array Slot} {ad : Nat → Nat} {s0 : List Value} (hst : (st.map avc).sum ≤ 8) : 2 * (F0 mid pc lsC s0).monitorRoom + ((st.map (cv ad)).map fun v => v.category).sum ≤ 8 := by
  refine lv_room ?_
  rw [w_cats]
  exact hst
theorem Wp.callV {As : List AV} {o k c n : Nat} {I : Nat → Int → Int} {L : Nat → Int → BitVec 64} {R : Nat → Int → Option Nat} {bd0 : Nat × Nat} (hd : decode (mdC M) pc = .ok (.invokevirtual idx, 3)) (hM : wMv M' k c) (hL : wLk (mdY M).cls idx (mdY M')) (hfr : mdF M' + 1 ≤ mdF M) (hlo : 19 + mdL M' + mdO M' ≤ mdO M) (hst : (st.map avc).sum ≤ 8) (hkd : kd o = (c, fNN c)) (ho : o < n)
    (hn : As.length = k) (hle : lent (mdL M') (vr (some o) :: As) = ls0) (hlen : (lin (vr (some o) :: As)).length ≤ mdL M') (e0 : bd0 = (bd.1 + bd'.1, bd.2 + bd'.2)) (kk : Wp M' 0 ls0 [] (I, L, R, n) bd' (fun r m' => Wp M (pc + 3) ls (pushR r st) m' bd Q)) : Wp M pc ls (As.reverse ++ vr (some o) :: st) (I, L, R, n) bd0 Q := by
  intro p l e RR s mid args below meth cc H locs cells slots D cA ad base lsC Qf hC hH hS h1 h2 hl hF
  obtain ⟨hx, hb, hml, hown, hts, hnw, hK, hrt, hlk, hnm, hFr, hLo, hbs, had, hsc⟩ := id hC
  obtain ⟨hMk, hc13, hcls, hwi, hws⟩ := hM
  have hmet := Wp.met (l := l) (D := D) (cA := cA) (As := vr (some o) :: As) hMk had hle hlen kk
  obtain ⟨w1, w2, w3, w4, w5, w6⟩ := hMk
  refine w_after (st := st) hC hS e0 h1 h2 hl hF ?_ (a := (Value.ref (ad o) :: As.map (cv ad)).toArray)
  have hado : ad o = base + o := had o (Nat.lt_of_lt_of_le ho hH.2.1)
  have hat := hH.2.2 o ho
  rw [cE_o hkd hc13] at hat
  have hrecv : ∃ cellB : Cell, H[ad o]? = some cellB ∧ cellB.vm.isStatics = false ∧ s.vm.findClass (mdY M').cls = some cellB.cls := by
    rw [hado, ← hcls]
    exact va_recv hK (w_one hat) (q0 := 0) (wCl_get hc13) rfl
  have hpv : PreV s H (mdY M').cls (ad o) (va_Pc ((vr (some o) :: As).map (cv ad)) (wPB D cA ad base (I, L, R, n))) (As.map (cv ad)) :=
    ⟨w_blind, hrecv, fun U hU hW => ⟨rfl, by rw [hU]; exact hH, va_K.moved hW.alike hK, wNw_warm hW hnw, by rw [hU]; exact Nat.le_trans hbs hS.1⟩⟩
  have hstk : (F0 mid pc lsC ((As.reverse ++ vr (some o) :: st).map (cv ad))).stack = (As.map (cv ad)).reverse ++ Value.ref (ad o) :: st.map (cv ad) := by
    show (As.reverse ++ vr (some o) :: st).map (cv ad) = _
    rw [List.map_append, List.map_reverse]; rfl
  subst e0
  dsimp only at h1 h2
  have hroom : 8 + (mdL M' + 11) + mdO M' ≤ RR.locals := by omega
  have hfr2 : mdF M' + 1 ≤ RR.frames := by omega
  rcases hL with hL | hL
  · exact va_runV (As := As.map (cv ad)) (rest := st.map (cv ad)) ⟨hx, hb, hml, hown, hts⟩ hmet ⟨⟨rfl, rfl, hfr2, hroom, w_pay hts w1, List.mem_cons_self, hts _ w1, hts _ w2, w3, w_npar w4, hts _ hL⟩, hts _ hwi, hts _ hws⟩ hpv rfl (by rw [List.length_map]; exact hn) hl.1 hstk (w_room hst) hd ⟨by omega, by omega⟩
  · exact va_runVN (As := As.map (cv ad)) (rest := st.map (cv ad)) ⟨hx, hb, hml, hown, hts⟩ hmet ⟨⟨⟨rfl, rfl, hfr2, hroom, w_pay hts w1, List.mem_cons_self⟩, hts _ w1, hts _ w2, w3, w_npar w4, va_Nw.use rfl (hnw _ hL)⟩, hts _ hwi, hts _ hws⟩ hpv rfl (by rw [List.length_map]; exact hn) hl.1 hstk (w_room hst) hd ⟨by omega, by omega⟩
theorem Wp.callS {As : List AV} {k : Nat} {bd0 : Nat × Nat} (hd : decode (mdC M) pc = .ok (.invokestatic idx, 3)) (hM : wMs M' k) (hL : wLk (mdY M).cls idx (mdY M')) (hfr : mdF M' + 1 ≤ mdF M) (hlo : 19 + mdL M' + mdO M' ≤ mdO M) (hst : (st.map avc).sum ≤ 8)
    (hn : As.length = k) (hle : lent (mdL M') As = ls0) (hlen : (lin As).length ≤ mdL M') (e0 : bd0 = (bd.1 + bd'.1, bd.2 + bd'.2)) (kk : Wp M' 0 ls0 [] m bd' (fun r m' => Wp M (pc + 3) ls (pushR r st) m' bd Q)) : Wp M pc ls (As.reverse ++ st) m bd0 Q := by
  intro p l e RR s mid args below meth cc H locs cells slots D cA ad base lsC Qf hC hH hS h1 h2 hl hF
  obtain ⟨hx, hb, hml, hown, hts, hnw, hK, hrt, hlk, hnm, hFr, hLo, hbs, had, hsc⟩ := id hC
  obtain ⟨hMk, hws⟩ := hM
  have hmet := Wp.met (l := l) (D := D) (cA := cA) (As := As) hMk had hle hlen kk
  obtain ⟨w1, w2, w3, w4, w5, w6⟩ := hMk
  refine w_after (st := st) hC hS e0 h1 h2 hl hF ?_ (a := (As.map (cv ad)).toArray)
  have hpv : PreS s H (va_Pc (As.map (cv ad)) (wPB D cA ad base m)) (As.map (cv ad)) :=
    ⟨w_blind, fun U hU hW => ⟨rfl, by rw [hU]; exact hH, va_K.moved hW.alike hK, wNw_warm hW hnw, by rw [hU]; exact Nat.le_trans hbs hS.1⟩⟩
  have hstk : (F0 mid pc lsC ((As.reverse ++ st).map (cv ad))).stack = (As.map (cv ad)).reverse ++ st.map (cv ad) := by
    show (As.reverse ++ st).map (cv ad) = _
    rw [List.map_append, List.map_reverse]
  subst e0
  dsimp only at h1 h2
  have hroom : 8 + (mdL M' + 11) + mdO M' ≤ RR.locals := by omega
  have hfr2 : mdF M' + 1 ≤ RR.frames := by omega
  rcases hL with hL | hL
  · exact va_runS (As := As.map (cv ad)) (rest := st.map (cv ad)) ⟨hx, hb, hml, hown, hts⟩ hmet ⟨⟨rfl, rfl, hfr2, hroom, w_pay hts w1, List.mem_cons_self, hts _ w1, hts _ w2, w3, w_npar w4, hts _ hL⟩, hts _ hws⟩ hpv rfl (by rw [List.length_map]; exact hn) hl.1 hstk (w_room hst) hd ⟨by omega, by omega⟩
  · exact va_runSN (As := As.map (cv ad)) (rest := st.map (cv ad)) ⟨hx, hb, hml, hown, hts⟩ hmet ⟨⟨⟨rfl, rfl, hfr2, hroom, w_pay hts w1, List.mem_cons_self⟩, hts _ w1, hts _ w2, w3, w_npar w4, va_Nw.use rfl (hnw _ hL)⟩, hts _ hws, trivial⟩ hpv rfl (by rw [List.length_map]; exact hn) hl.1 hstk (w_room hst) hd ⟨by omega, by omega⟩
theorem Wp.callI {As : List AV} {o k n : Nat} {I : Nat → Int → Int} {L : Nat → Int → BitVec 64} {R : Nat → Int → Option Nat} {bd0 : Nat × Nat} (hd : decode (mdC M) pc = .ok (.invokespecial idx, 3)) (hM : wMi M' k) (hL : wLk (mdY M).cls idx (mdY M')) (hfr : mdF M' + 1 ≤ mdF M) (hlo : 19 + mdL M' + mdO M' ≤ mdO M) (hst : (st.map avc).sum ≤ 8) (ho : o < n)
    (hn : As.length = k) (hle : lent (mdL M') (vr (some o) :: As) = ls0) (hlen : (lin (vr (some o) :: As)).length ≤ mdL M') (e0 : bd0 = (bd.1 + bd'.1, bd.2 + bd'.2)) (kk : Wp M' 0 ls0 [] (I, L, R, n) bd' (fun r m' => Wp M (pc + 3) ls (pushR r st) m' bd Q)) : Wp M pc ls (As.reverse ++ vr (some o) :: st) (I, L, R, n) bd0 Q := by
  intro p l e RR s mid args below meth cc H locs cells slots D cA ad base lsC Qf hC hH hS h1 h2 hl hF
  obtain ⟨hx, hb, hml, hown, hts, hnw, hK, hrt, hlk, hnm, hFr, hLo, hbs, had, hsc⟩ := id hC
  obtain ⟨hMk, hini, hret, hwi⟩ := hM
  have hmet := Wp.met (l := l) (D := D) (cA := cA) (As := vr (some o) :: As) hMk had hle hlen kk
  obtain ⟨w1, w2, w3, w4, w5, w6⟩ := hMk
  refine w_after (st := st) hC hS e0 h1 h2 hl hF ?_ (a := (Value.ref (ad o) :: As.map (cv ad)).toArray)
  have hpv : PreS s H (va_Pc ((vr (some o) :: As).map (cv ad)) (wPB D cA ad base (I, L, R, n))) (Value.ref (ad o) :: As.map (cv ad)) :=
    ⟨w_blind, fun U hU hW => ⟨rfl, by rw [hU]; exact hH, va_K.moved hW.alike hK, wNw_warm hW hnw, by rw [hU]; exact Nat.le_trans hbs hS.1⟩⟩
  have hstk : (F0 mid pc lsC ((As.reverse ++ vr (some o) :: st).map (cv ad))).stack = (As.map (cv ad)).reverse ++ Value.ref (ad o) :: st.map (cv ad) := by
    show (As.reverse ++ vr (some o) :: st).map (cv ad) = _
    rw [List.map_append, List.map_reverse]; rfl
  subst e0
  dsimp only at h1 h2
  have hroom : 8 + (mdL M' + 11) + mdO M' ≤ RR.locals := by omega
  have hfr2 : mdF M' + 1 ≤ RR.frames := by omega
  rw [hret] at hmet w1
  rcases hL with hL | hL
  · exact va_runI (As := As.map (cv ad)) (rest := st.map (cv ad)) ⟨hx, hb, hml, hown, hts⟩ hmet ⟨⟨rfl, rfl, hfr2, hroom, w_pay hts w1, List.mem_cons_self, hts _ w1, hts _ w2, w3, w_npar w4, hts _ hL⟩, hini, hts _ hwi⟩ hpv rfl (by rw [List.length_map]; exact hn) hl.1 hstk (w_room hst) hd ⟨by omega, by omega⟩
  · exact va_runIN (As := As.map (cv ad)) (rest := st.map (cv ad)) ⟨hx, hb, hml, hown, hts⟩ hmet ⟨⟨⟨rfl, rfl, hfr2, hroom, w_pay hts w1, List.mem_cons_self⟩, hts _ w1, hts _ w2, w3, w_npar w4, va_Nw.use rfl (hnw _ hL)⟩, hini, hts _ hwi⟩ hpv rfl (by rw [List.length_map]; exact hn) hl.1 hstk (w_room hst) hd ⟨by omega, by omega⟩
theorem Wp.objInit {o : Nat} (hd : decode (mdC M) pc = .ok (.invokespecial idx, 3)) (hL : Cond.methodLink (mdY M).cls idx objectInit ∈ wGt) (hw : Cond.instanceMethod objectInit ∈ wGt) (hw2 : Cond.code objectInit ⟨#[0xb1]⟩ 1 none ∈ wGt) (hfr : 1 ≤ mdF M) (hlo : 12 ≤ mdO M) (kk : Wp M (pc + 3) ls [] m bd Q) : Wp M pc ls [vr (some o)] m bd Q := by
  intro p l e RR s mid args below meth cc H locs cells slots D cA ad base lsC Qf hC hH hS h1 h2 hl hF
  obtain ⟨hx, hb, hml, hown, hts, hnw, hK, hrt, hlk, hnm, hFr, hLo, hbs, had, hsc⟩ := id hC
  refine W.objInit (rest := []) hx hb hown (hts _ hL) (hts _ hw) (hts _ hw2) rfl (by rw [hml]; exact hl.1) rfl hd (by omega) (by show 2 * 0 + 0 + 12 ≤ _; omega) ?_
  exact kk p l e RR s mid args below meth cc H locs cells slots D cA ad base lsC Qf hC hH hS h1 h2 hl hF
theorem Wp.mM {x y : Int} (mx : Bool) (hd : decode (mdC M) pc = .ok (.invokestatic idx, 3)) (hL : Cond.methodLink (mdY M).cls idx (if mx then Lib.Math.max.name else Lib.Math.min.name) ∈ wGt) (hw : (Cond.static Lib.Math.max.name ∈ wGt ∧ Cond.code Lib.Math.max.name Lib.Math.max.code 2 (some .int) ∈ wGt) ∧ (Cond.static Lib.Math.min.name ∈ wGt ∧ Cond.code Lib.Math.min.name Lib.Math.min.code 2 (some .int) ∈ wGt) ∧ Cond.initialized "java/lang/Math" ∈ wGt) (hfr : 1 ≤ mdF M) (hlo : (st.map avc).sum + 13 ≤ mdO M) (hx : inR x) (hy : inR y)
    (k : Wp M (pc + 3) ls (vi (if mx then max x y else min x y) :: st) m bd Q) : Wp M pc ls (vi y :: vi x :: st) m bd Q := by
  intro p l e RR s mid args below meth cc H locs cells slots D cA ad base lsC Qf hC hH hS h1 h2 hl hF
  have hk := k p l e RR s mid args below meth cc H locs cells slots D cA ad base lsC Qf hC hH hS h1 h2 hl hF
  obtain ⟨hx', hb, hml, hown, hts, hnw, hK, hrt, hlk, hnm, hFr, hLo, hbs, had, hsc⟩ := id hC
  have hcat : ((st.map (cv ad)).map fun v => v.category).sum + 13 ≤ RR.locals := by rw [w_cats]; omega
  cases mx with
  | true =>
    refine va_mmax hx' hb (by rw [hml]; exact hl.1.symm) hown (hts _ hL) (hts _ hw.1.1) (hts _ hw.2.2) (hts _ hw.1.2) (by omega) hcat (by omega) (by omega) hd ?_
    have e1 : (if Int32.ofInt x < Int32.ofInt y then Int32.ofInt y else Int32.ofInt x) = Int32.ofInt (max x y) := by
      by_cases h : x < y
      · rw [if_pos ((w_lt hx hy).mpr h), show max x y = y by omega]
      · rw [if_neg (fun q => h ((w_lt hx hy).mp q)), show max x y = x by omega]
    rw [e1]
    exact hk
  | false =>
    refine va_mmin hx' hb (by rw [hml]; exact hl.1.symm) hown (hts _ hL) (hts _ hw.2.1.1) (hts _ hw.2.2) (hts _ hw.2.1.2) (by omega) hcat (by omega) (by omega) hd ?_
    have e1 : (if Int32.ofInt y < Int32.ofInt x then Int32.ofInt y else Int32.ofInt x) = Int32.ofInt (min x y) := by
      by_cases h : y < x
      · rw [if_pos ((w_lt hy hx).mpr h), show min x y = y by omega]
      · rw [if_neg (fun q => h ((w_lt hy hx).mp q)), show min x y = x by omega]
    first | (rw [e1]; exact hk) | exact hk
