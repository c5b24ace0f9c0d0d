def R_law : String := "WordBridgesLaw"
def lw_P (b : Addr) (xs : List Int32) (args : Array Value) (s : State) : Prop := args = #[.ref b] ∧ s.IntsAt b xs ∧ xs.length ≤ 3584 ∧ (Jvm.Cond.and given_1 narrow_1).before args s = true
def lw_Q (_ : Array Value) (s : State) (o : Outcome) (t : State) : Prop := o = .returned (some (.int 1)) ∧ Framed s o t [] 112897 8763558
def lw_Z (below : List Frame) (a : Array Value) (s : State) : State → Prop := fun t => ∃ o, t.status = .running ∧ Ended t below o ∧ lw_Q a s o t
/-- the law's own end, with 1 on the stack, nothing written that was there before, its room as the claim has it -/
theorem lw_ret {p : Program} {l : Launch} {e : Env} {s : State} {m : MethodId} {below : List Frame} {meth : Method} {c : Code} {b : Nat} (hx : p.tables.exec = Jvm.exec) (hb : c.code = code) (hr : meth.sig.returnType = ret) (hlocks : meth.locks = false) {pc : Nat} {H : Heap} {ls : Array Slot} (hdg : decode code pc = .ok (.ireturn, 1)) : W p l e room_1 s m #[Value.ref b] below meth c H [] 112897 8763558 (lw_Z below #[Value.ref b] s) (F0 m pc ls [.int 1]) := by
  intro T hT X
  obtain ⟨fs, hret, hrun, hended, hW, hframe⟩ := X.leave (v := some (.int 1)) (hlocks := hlocks) (fun h => by rw [hr] at h; cases h)
  have hmeth' : T.vm.method? m = some meth := X.method'
  refine ⟨T.setFrames fs, ?_, .returned (some (.int 1)), hrun, hended, rfl, ⟨_, rfl⟩, hW, hframe⟩
  jvm_step X.here [X.here.top, hx, hb, hdg, hmeth', hr, ret, narrow_b1]
  (try refine ⟨rfl, ?_⟩); (try refine ⟨rfl, ?_⟩)
  first | (intro acts; rw [hret _ acts rfl rfl rfl]) | rw [hret _ _ rfl rfl rfl]
  exact Steps.refl _
/-- what holds at the law's entry: the machine, the code, the tables' words (any of lw_tbl by 'hts w (by decide +kernel)'), the script of L ints xs at the cell b, what the Statement gives of the start (any of its parts by flat_of_before) -/
def lw_At (p : Program) (s : State) (m : MethodId) (meth : Method) (c : Code) (b L : Nat) (xs : Nat → Int32) : Prop :=
  p.tables.exec = Jvm.exec ∧ c.code = code ∧ meth.sig.returnType = ret ∧ c.maxLocals = 4 ∧ s.vm.findClass R_law = some m.cls ∧ (∀ w ∈ lw_tbl, w.before #[Value.ref b] s = true) ∧ va_X b L xs s s.heap ∧ b < s.heap.size ∧ meth.locks = false ∧ (Jvm.Cond.and given_1 narrow_1).before #[Value.ref b] s = true
/-! ===== the claim out of a walk of the law on the plain machine ===== -/
theorem w_known {s : State} {args : Array Value} (hts : ∀ w ∈ wGt, w.before args s = true) (hin : ∀ c, c < 13 → Cond.instantiable (fCC c) (fNN c) ∈ wGt) : ∃ D : va_G, ∀ (c : Nat) (q : vw_C), wCl[c]? = some q → u_Kn s q.1 q.2.1 q.2.2 (D.1 c) (D.2 c) := by
  have h : ∀ c, ∃ (cC : ClassId) (iS : Nat → Nat), c < 13 → u_Kn s (fCC c) (fTT c) (fNN c) cC iS := by
    intro c
    by_cases hc : c < 13
    · obtain ⟨cC, iS, h⟩ := u_known (C := fCC c) (T := fTT c) (N := fNN c) (n := fNN c) hts (wLay hc) (hts _ (hin c hc))
      exact ⟨cC, iS, fun _ => h⟩
    · exact ⟨0, fun _ => 0, fun q => absurd q hc⟩
  refine ⟨(fun c => Classical.choose (h c), fun c => Classical.choose (Classical.choose_spec (h c))), fun c q hq => ?_⟩
  have hc : c < 13 := by
    have := (List.getElem?_eq_some_iff.mp hq).1
    simpa [wCl] using this
  rw [wCl_get hc] at hq
  cases hq
  exact Classical.choose_spec (Classical.choose_spec (h c)) hc
theorem w_arr {s : State} {args : Array Value} {ty : FieldType} (h : (Cond.arrayClass ty).before args s = true) (hr : ∀ cB, va_RA s cB ty = (s.vm.findClass ("[" ++ ty.toString) = some cB)) : ∃ cB, ArrOfT s cB ty ∧ va_RA s cB ty := by
  obtain ⟨c, k, comp, h1, h2, h3⟩ := Cond.arrayClass_spec h
  exact ⟨c, fun n z => ⟨fun k h => (by cases h), k, h2, comp, h3⟩, by rw [hr]; exact h1⟩
theorem w_arrO {s : State} {n : String} (h : va_Nw (.arrayOver (.object n)) s) : ∃ cB, ArrOfT s cB (.object n) ∧ va_RA s cB (.object n) := by
  obtain ⟨comp, c, k, h1, h2, h3, h4, h5⟩ := Cond.arrayOver_spec h
  exact ⟨c, fun N z => ⟨(fun k h => by cases h), k, h3, comp, h4⟩, k, comp, h3, h4, h1, h5⟩
theorem whole_of {p : Program} {e : Env} {s : State} {m : MethodId} {below : List Frame} {meth : Method} {c : Code} (l : Launch) {b L : Nat} {xs : Nat → Int32} (C0 : lw_At p s m meth c b L xs) (hin : ∀ c, c < 13 → Cond.instantiable (fCC c) (fNN c) ∈ wGt)
    (k : Wp (mL_law L xs) 0 [some (vr (some 1000000)), none, none, none] [] (fun _ _ => 0, fun _ _ => 0#64, fun _ _ => none, 0) (112897, 8763558) (fun r _ => r = some (vi 1))) :
    W p l e room_1 s m #[Value.ref b] below meth c s.heap [] 0 0 (lw_Z below #[Value.ref b] s) (entryFrame m ([Value.ref b] : List Value).toArray 4) := by
  obtain ⟨hx, hb, hr, hml, hown, hts, hX, hbl, hlocks, hgv⟩ := id C0
  have htg : ∀ w ∈ wGt, w.before #[Value.ref b] s = true := fun w hw => hts w (List.mem_filter.mp hw).1
  have hnw := wNw_of hts
  obtain ⟨D, hD⟩ := w_known htg hin
  obtain ⟨c0, k0⟩ := w_arr (ty := .int) (htg _ ka_int) (fun _ => rfl)
  obtain ⟨c1, k1⟩ := w_arr (ty := .long) (htg _ ka_long) (fun _ => rfl)
  obtain ⟨c2, k2⟩ := w_arr (ty := .boolean) (htg _ ka_boolean) (fun _ => rfl)
  obtain ⟨c3, k3⟩ := w_arrO (hnw _ ka_over)
  have hK : va_K D wCl (wTys (fun i => if i = 0 then c0 else if i = 1 then c1 else if i = 2 then c2 else c3)) s := by
    refine ⟨hD, fun k q h => ?_⟩
    match k, h with
    | 0, h => cases h; exact k0
    | 1, h => cases h; exact k1
    | 2, h => cases h; exact k2
    | 3, h => cases h; exact k3
    | k + 4, h => simp at h
  have hC : wCx (mL_law L xs) p room_1 s m #[Value.ref b] meth c D (fun i => if i = 0 then c0 else if i = 1 then c1 else if i = 2 then c2 else c3) (fun o => if o = 1000000 then b else s.heap.size + o) s.heap.size :=
    ⟨hx, hb, hml, hown, htg, hnw, hK, hr, hlocks, fun h => absurd (show ("law" : String) = "<init>" from h) (by decide), (show (7 : Nat) ≤ 9 by decide), (show (186 : Nat) ≤ 380 by decide), Nat.le_refl _, fun o ho => if_neg (by omega), by
      show va_X (if (1000000 : Nat) = 1000000 then b else s.heap.size + 1000000) L xs s s.heap ∧ (if (1000000 : Nat) = 1000000 then b else s.heap.size + 1000000) < s.heap.size
      rw [if_pos rfl]
      exact ⟨hX, hbl⟩⟩
  rw [lg_entry_eq]
  have hent := lv_entry ([Value.ref b]) (n := 4) (Nat.le_of_ble_eq_true rfl)
  refine k p l e room_1 s m _ below meth c s.heap [] 0 0 D _ _ s.heap.size _ _ hC ⟨rfl, Nat.zero_le _, fun o ho => absurd ho (Nat.not_lt_zero o)⟩ va_S.rf (by decide) (by decide) ⟨hent.1, hent.2.1, fun j v hv => ?_⟩ ?_
  · match j, hv with
    | 0, hv =>
      cases hv
      exact hent.2.2 (0, Value.ref b) List.mem_cons_self
    | 1, hv => cases hv
    | 2, hv => cases hv
    | 3, hv => cases hv
    | j + 4, hv => cases hv
  · intro r m' H' locs' pc' lsC' hQ hH' hS' hret
    subst hQ
    refine va_forget (fun q hq => hS'.2.2 q hq) ?_
    exact lw_ret hx hb hr hlocks hret.1
