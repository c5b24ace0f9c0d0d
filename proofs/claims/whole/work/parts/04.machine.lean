/-! ===== the plain machine: numbers, sets and cells by ordinals; a judgement Wp over the kit's W ===== -/
/-- values: a whole number; a long's bits; a reference by the ordinal of its cell -/
abbrev AV : Type := Int ⊕ (BitVec 64 ⊕ Option Nat)
abbrev vi (z : Int) : AV := .inl z
abbrev vl (b : BitVec 64) : AV := .inr (.inl b)
abbrev vr (r : Option Nat) : AV := .inr (.inr r)
/-- ints, longs, references by cell and place; how many cells there are -/
abbrev Mm : Type := (Nat → Int → Int) × (Nat → Int → BitVec 64) × (Nat → Int → Option Nat) × Nat
def up {α : Type} (f : Nat → Int → α) (o : Nat) (k : Int) (v : α) : Nat → Int → α := fun o' k' => if o' = o ∧ k' = k then v else f o' k'
def zr {α : Type} (f : Nat → Int → α) (o : Nat) (v : α) : Nat → Int → α := fun o' k' => if o' = o then v else f o' k'
def cv (ad : Nat → Nat) : AV → Value
  | .inl z => .int (Int32.ofInt z)
  | .inr (.inl b) => .long (Int64.ofBitVec b)
  | .inr (.inr r) => va_rf (r.map ad)
abbrev inR (z : Int) : Prop := -2147483648 ≤ z ∧ z < 2147483648
/-- a method: name, code, locals, answer, frames and locals' words below it, the law's script -/
abbrev MD : Type := MethodName × ByteArray × Nat × Option FieldType × Nat × Nat × Option (Nat × (Nat → Int32))
abbrev mdY (M : MD) : MethodName := M.1
abbrev mdC (M : MD) : ByteArray := M.2.1
abbrev mdL (M : MD) : Nat := M.2.2.1
abbrev mdR (M : MD) : Option FieldType := M.2.2.2.1
abbrev mdF (M : MD) : Nat := M.2.2.2.2.1
abbrev mdO (M : MD) : Nat := M.2.2.2.2.2.1
abbrev mdX (M : MD) : Option (Nat × (Nat → Int32)) := M.2.2.2.2.2.2
/-- the words that keep, and the nest's -/
def wGt : List Cond := lw_tbl.filter goodWord
def wIsNest : Cond → Bool
  | .methodLinkNest .. => true
  | .fieldLinkNest .. => true
  | .arrayOver (.object _) => true
  | _ => false
def wNw : List Cond := lw_tbl.filter wIsNest
/-- the classes by number -/
def fCC : Nat → String
  | 0 => RX0 | 1 => RX1 | 2 => RX2 | 3 => RX3 | 4 => RX4 | 5 => RX5 | 6 => RX6 | 7 => RX7 | 8 => RX8 | 9 => RX9 | 10 => RX10 | 11 => RX11 | _ => RX12
def fTT : Nat → u_T
  | 0 => TX0 | 1 => TX1 | 2 => TX2 | 3 => TX3 | 4 => TX4 | 5 => TX5 | 6 => TX6 | 7 => TX7 | 8 => TX8 | 9 => TX9 | 10 => TX10 | 11 => TX11 | _ => TX12
def fNN : Nat → Nat
  | 0 => 13 | 1 => 2 | 2 => 5 | 3 => 8 | 4 => 5 | 5 => 4 | 6 => 3 | 7 => 3 | 8 => 5 | 9 => 2 | 10 => 7 | 11 => 11 | _ => 44
def fTy : Nat → Nat → FieldType
  | 0 => tyX0 | 1 => tyX1 | 2 => tyX2 | 3 => tyX3 | 4 => tyX4 | 5 => tyX5 | 6 => tyX6 | 7 => tyX7 | 8 => tyX8 | 9 => tyX9 | 10 => tyX10 | 11 => tyX11 | _ => tyX12
def wCl : List vw_C := (List.range 13).map (fun c => (fCC c, fTT c, fNN c))
theorem wCl_get {c : Nat} (h : c < 13) : wCl[c]? = some (fCC c, fTT c, fNN c) := by
  simp [wCl, h]
/-- the cells by ordinal: 0 .. 12 an object of that class, 100 int[], 101 long[], 102 boolean[], 103 Book[]; and how long -/
def kdT : List (Nat × Nat) := [(11, 11), (9, 2), (100, 240), (5, 4), (8, 5), (103, 8), (10, 7), (2, 5), (100, 30), (100, 30), (100, 30), (100, 30), (4, 5), (100, 40), (100, 40), (100, 40), (100, 40), (7, 3), (100, 10), (3, 8), (100, 180), (100, 180), (100, 180), (100, 10), (100, 10), (100, 60), (6, 3), (100, 4), (100, 4), (1, 2), (101, 8), (101, 4), (12, 44), (100, 8), (100, 8), (100, 8), (100, 480), (100, 1440), (100, 1440), (100, 8640), (102, 8640), (100, 240), (101, 60), (100, 30), (100, 30), (100, 30), (100, 30), (100, 40), (100, 40), (100, 40), (100, 40), (100, 10), (100, 10), (100, 180), (100, 198), (100, 4), (101, 4)]
def kdB : Nat → Nat × Nat
  | 0 => (0, 13) | 1 => (100, 60) | 2 => (100, 180) | 3 => (100, 180) | 4 => (100, 1080) | 5 => (101, 180) | _ => (101, 180)
def kd (o : Nat) : Nat × Nat := if o < 57 then kdT.getD o (0, 0) else kdB ((o - 57) % 7)
def fv (ad : Nat → Nat) (m : Mm) (ty : FieldType) (o k : Nat) : Value := match ty with
  | .int => .int (Int32.ofInt (m.1 o k))
  | .boolean => .int (Int32.ofInt (m.1 o k))
  | .long => .long (Int64.ofBitVec (m.2.1 o k))
  | _ => va_rf ((m.2.2.1 o k).map ad)
def cE (cA : Nat → ClassId) (ad : Nat → Nat) (m : Mm) (o : Nat) : va_E := match (kd o).1 with
  | 100 => .inl (cA 0, (kd o).2, .inl (fun k => Int32.ofInt (m.1 o k)))
  | 101 => .inl (cA 1, (kd o).2, .inr (.inl (fun k => Int64.ofBitVec (m.2.1 o k))))
  | 102 => .inl (cA 2, (kd o).2, .inl (fun k => Int32.ofInt (m.1 o k)))
  | 103 => .inl (cA 3, (kd o).2, .inr (.inr (.inr (.inr (fun k => (m.2.2.1 o k).map ad)))))
  | c => .inr (c, (List.range (kd o).2).map (fun k => fv ad m (fTy c k) o k))
def Hp (D : va_G) (cA : Nat → ClassId) (ad : Nat → Nat) (base : Nat) (m : Mm) (H : Heap) : Prop :=
  H.size = base + m.2.2.2 ∧ m.2.2.2 ≤ 1000000 ∧ ∀ o, o < m.2.2.2 → va_at D wCl (base + o, cE cA ad m o) H
abbrev wTys (cA : Nat → ClassId) : List (ClassId × FieldType) := [(cA 0, .int), (cA 1, .long), (cA 2, .boolean), (cA 3, .object RX0)]
def wScr (X : Option (Nat × (Nat → Int32))) (ad : Nat → Nat) (base : Nat) (s : State) : Prop := match X with
  | none => True
  | some q => va_X (ad 1000000) q.1 q.2 s s.heap ∧ ad 1000000 < base
def wCx (M : MD) (p : Program) (R : Room) (s : State) (mid : MethodId) (args : Array Value) (meth : Method) (c : Code) (D : va_G) (cA : Nat → ClassId) (ad : Nat → Nat) (base : Nat) : Prop :=
  p.tables.exec = Jvm.exec ∧ c.code = mdC M ∧ c.maxLocals = mdL M ∧ s.vm.findClass (mdY M).cls = some mid.cls ∧ (∀ w ∈ wGt, w.before args s = true) ∧ (∀ w ∈ wNw, va_Nw w s) ∧ va_K D wCl (wTys cA) s ∧
  meth.sig.returnType = mdR M ∧ meth.locks = false ∧ ((mdY M).name = "<init>" → meth.name = "<init>") ∧ mdF M ≤ R.frames ∧ mdO M ≤ R.locals ∧ base ≤ s.heap.size ∧ (∀ o, o < 1000000 → ad o = base + o) ∧ wScr (mdX M) ad base s
/-- the locals -/
def lget : List (Option AV) → Nat → Option AV
  | [], _ => none
  | x :: _, 0 => x
  | _ :: l, k + 1 => lget l k
def wLs (ad : Nat → Nat) (n : Nat) (ls : List (Option AV)) (lsC : Array Slot) : Prop := lsC.size = n ∧ lv_wf lsC ∧ ∀ k v, lget ls k = some v → lsC[k]? = some (.val (cv ad v))
/-- the instruction by which a method leaves, with its answer -/
def wRet (M : MD) (pc : Nat) (r : Option AV) : Prop := match r with
  | none => mdR M = none ∧ decode (mdC M) pc = .ok (.return_, 1)
  | some (.inl z) => decode (mdC M) pc = .ok (.ireturn, 1) ∧ (mdR M = some .int ∨ (mdR M = some .boolean ∧ (z = 0 ∨ z = 1)))
  | some (.inr (.inl _)) => mdR M = some .long ∧ decode (mdC M) pc = .ok (.lreturn, 1)
  | some (.inr (.inr _)) => (∃ n, mdR M = some (.object n)) ∧ decode (mdC M) pc = .ok (.areturn, 1)
/-- at pc with these locals, this stack and memory the method comes to its end, with an answer and a memory that Q takes; at most bd.1 cells of bd.2 slots are made -/
def Wp (M : MD) (pc : Nat) (ls : List (Option AV)) (st : List AV) (m : Mm) (bd : Nat × Nat) (Q : Option AV → Mm → Prop) : Prop :=
  ∀ (p : Program) (l : Launch) (e : Env) (R : Room) (s : State) (mid : MethodId) (args : Array Value) (below : List Frame) (meth : Method) (c : Code) (H : Heap) (locs : List Loc) (cells slots : Nat) (D : va_G) (cA : Nat → ClassId) (ad : Nat → Nat) (base : Nat) (lsC : Array Slot) (Qf : State → Prop),
    wCx M p R s mid args meth c D cA ad base → Hp D cA ad base m H → va_S (fun q => base ≤ q) s.heap H locs → cells + bd.1 ≤ R.cells → slots + bd.2 ≤ R.slots → wLs ad (mdL M) ls lsC →
    (∀ (r : Option AV) (m' : Mm) (H' : Heap) (locs' : List Loc) (pc' : Nat) (lsC' : Array Slot), Q r m' → Hp D cA ad base m' H' → va_S (fun q => base ≤ q) s.heap H' locs' → wRet M pc' r →
      W p l e R s mid args below meth c H' locs' (cells + bd.1) (slots + bd.2) Qf (F0 mid pc' lsC' (r.toList.map (cv ad)))) →
    W p l e R s mid args below meth c H locs cells slots Qf (F0 mid pc lsC (st.map (cv ad)))
/-! numbers -/
theorem w_ofInt {z : Int} (h : inR z) : (Int32.ofInt z).toInt = z := by
  rw [Int32.toInt_ofInt]
  obtain ⟨h1, h2⟩ := h
  show z.bmod 4294967296 = z
  rw [Int.bmod_eq_of_le] <;> omega
theorem w_lt {x y : Int} (hx : inR x) (hy : inR y) : Int32.ofInt x < Int32.ofInt y ↔ x < y := by
  rw [Int32.lt_iff_toInt_lt, w_ofInt hx, w_ofInt hy]
theorem w_le {x y : Int} (hx : inR x) (hy : inR y) : Int32.ofInt x ≤ Int32.ofInt y ↔ x ≤ y := by
  rw [Int32.le_iff_toInt_le, w_ofInt hx, w_ofInt hy]
theorem w_eq {x y : Int} (hx : inR x) (hy : inR y) : Int32.ofInt x = Int32.ofInt y ↔ x = y := by
  rw [← Int32.toInt_inj, w_ofInt hx, w_ofInt hy]
theorem w_zero : Int32.ofInt 0 = 0 := rfl
theorem inR_0 : inR 0 := by omega
theorem w_toInt (x : Int32) : Int32.ofInt x.toInt = x := by
  first | exact Int32.ofInt_toInt x | simp
theorem w_rng (x : Int32) : inR x.toInt := by
  have h1 := Int32.le_toInt x
  have h2 := Int32.toInt_lt x
  omega
theorem w_clamp {z : Int} (h0 : 0 ≤ z) (h1 : z < 2147483648) : (Int32.ofInt z).toNatClampNeg = z.toNat := by
  show (Int32.ofInt z).toInt.toNat = _
  rw [w_ofInt ⟨by omega, h1⟩]
theorem w_in {z : Int} {n : Nat} (h0 : 0 ≤ z) (h1 : z < n) (hn : n < 2147483648) : vp_in (Int32.ofInt z) n := by
  rw [vp_in_iff, w_ofInt ⟨by omega, by omega⟩]
  exact ⟨h0, h1⟩
/-! locals -/
def lkill : List (Option AV) → Nat → List (Option AV)
  | [], _ => []
  | x :: l, 0 => x :: l
  | some (.inr (.inl b)) :: l, 1 => none :: l
  | x :: l, k + 1 => x :: lkill l k
def lput : List (Option AV) → Nat → Option AV → List (Option AV)
  | [], _, _ => []
  | _ :: l, 0, v => v :: l
  | x :: l, k + 1, v => x :: lput l k v
theorem lget_lput : ∀ (ls : List (Option AV)) (i k : Nat) (v w : AV), lget (lput ls i (some v)) k = some w → (k = i ∧ w = v) ∨ (k ≠ i ∧ lget ls k = some w)
  | [], _, _, _, _, h => by simp [lput, lget] at h
  | x :: l, 0, 0, v, w, h => by simp [lput, lget] at h; exact Or.inl ⟨rfl, h.symm⟩
  | x :: l, 0, k + 1, v, w, h => by simp [lput, lget] at h; exact Or.inr ⟨by omega, by simpa [lget] using h⟩
  | x :: l, i + 1, 0, v, w, h => by simp [lput, lget] at h; exact Or.inr ⟨by omega, by simpa [lget] using h⟩
  | x :: l, i + 1, k + 1, v, w, h => by
    simp only [lput, lget] at h ⊢
    rcases lget_lput l i k v w h with ⟨h1, h2⟩ | ⟨h1, h2⟩
    · exact Or.inl ⟨by omega, h2⟩
    · exact Or.inr ⟨by omega, h2⟩
theorem lget_lputN : ∀ (ls : List (Option AV)) (i k : Nat) (w : AV), lget (lput ls i none) k = some w → k ≠ i ∧ lget ls k = some w
  | [], _, _, _, h => by simp [lput, lget] at h
  | x :: l, 0, 0, w, h => by simp [lput, lget] at h
  | x :: l, 0, k + 1, w, h => by simp [lput, lget] at h; exact ⟨by omega, by simpa [lget] using h⟩
  | x :: l, i + 1, 0, w, h => by simp [lput, lget] at h; exact ⟨by omega, by simpa [lget] using h⟩
  | x :: l, i + 1, k + 1, w, h => by
    simp only [lput, lget] at h ⊢
    obtain ⟨h1, h2⟩ := lget_lputN l i k w h
    exact ⟨by omega, h2⟩
theorem lget_lkill : ∀ (ls : List (Option AV)) (i k : Nat) (w : AV), lget (lkill ls i) k = some w → lget ls k = some w ∧ ¬ (k + 1 = i ∧ ∃ b, w = .inr (.inl b))
  | [], i, k, w, h => by simp [lkill, lget] at h
  | x :: l, 0, k, w, h => by simp only [lkill] at h; exact ⟨h, by omega⟩
  | x :: l, 1, k, w, h => by
    match x, h with
    | none, h =>
      simp only [lkill] at h
      cases k with
      | zero => simp [lget] at h
      | succ k =>
        simp only [lget] at h ⊢
        cases l <;> simp only [lkill] at h <;> exact ⟨h, by omega⟩
    | some (.inl z), h =>
      simp only [lkill] at h
      cases k with
      | zero => simp only [lget] at h ⊢; refine ⟨h, fun q => ?_⟩; obtain ⟨_, b, hb⟩ := q; subst hb; simp at h
      | succ k =>
        simp only [lget] at h ⊢
        cases l <;> simp only [lkill] at h <;> exact ⟨h, by omega⟩
    | some (.inr (.inl b)), h =>
      simp only [lkill] at h
      cases k with
      | zero => simp [lget] at h
      | succ k => simp only [lget] at h ⊢; exact ⟨h, by omega⟩
    | some (.inr (.inr r)), h =>
      simp only [lkill] at h
      cases k with
      | zero => simp only [lget] at h ⊢; refine ⟨h, fun q => ?_⟩; obtain ⟨_, b, hb⟩ := q; subst hb; simp at h
      | succ k =>
        simp only [lget] at h ⊢
        cases l <;> simp only [lkill] at h <;> exact ⟨h, by omega⟩
  | x :: l, i + 2, k, w, h => by
    have e : lkill (x :: l) (i + 2) = x :: lkill l (i + 1) := by
      cases x with
      | none => rfl
      | some y => rcases y with z | b | r <;> rfl
    rw [e] at h
    cases k with
    | zero => simp only [lget] at h ⊢; exact ⟨h, by omega⟩
    | succ k =>
      simp only [lget] at h ⊢
      obtain ⟨h1, h2⟩ := lget_lkill l (i + 1) k w h
      exact ⟨h1, fun q => h2 ⟨by omega, q.2⟩⟩
abbrev lset1 (ls : List (Option AV)) (i : Nat) (v : AV) : List (Option AV) := lput (lkill ls i) i (some v)
abbrev lset2 (ls : List (Option AV)) (i : Nat) (v : AV) : List (Option AV) := lput (lput (lkill ls i) i (some v)) (i + 1) none
/-- the listed values of the locals, as the kit has them -/
def lL (ad : Nat → Nat) : Nat → List (Option AV) → List (Nat × Value)
  | _, [] => []
  | i, none :: l => lL ad (i + 1) l
  | i, some v :: l => (i, cv ad v) :: lL ad (i + 1) l
theorem lL_mem {ad : Nat → Nat} : ∀ (ls : List (Option AV)) (i k : Nat) (v : AV), lget ls k = some v → (i + k, cv ad v) ∈ lL ad i ls
  | [], _, _, _, h => by simp [lget] at h
  | none :: l, i, 0, v, h => by simp [lget] at h
  | none :: l, i, k + 1, v, h => by
    have h1 := lL_mem (ad := ad) l (i + 1) k v (by simpa [lget] using h)
    simp only [lL]
    rw [show i + (k + 1) = i + 1 + k by omega]; exact h1
  | some x :: l, i, 0, v, h => by simp [lget] at h; subst h; simp [lL]
  | some x :: l, i, k + 1, v, h => by
    have h1 := lL_mem (ad := ad) l (i + 1) k v (by simpa [lget] using h)
    simp only [lL]
    rw [show i + (k + 1) = i + 1 + k by omega]; exact List.mem_cons_of_mem _ h1
theorem lL_of {ad : Nat → Nat} : ∀ (ls : List (Option AV)) (i : Nat) (q : Nat × Value), q ∈ lL ad i ls → ∃ k v, lget ls k = some v ∧ q = (i + k, cv ad v)
  | [], _, _, h => by simp [lL] at h
  | none :: l, i, q, h => by
    obtain ⟨k, v, h1, h2⟩ := lL_of l (i + 1) q (by simpa [lL] using h)
    exact ⟨k + 1, v, by simpa [lget] using h1, by rw [h2]; congr 1; omega⟩
  | some x :: l, i, q, h => by
    simp only [lL, List.mem_cons] at h
    rcases h with h | h
    · exact ⟨0, x, rfl, by rw [h]; rfl⟩
    · obtain ⟨k, v, h1, h2⟩ := lL_of l (i + 1) q h
      exact ⟨k + 1, v, by simpa [lget] using h1, by rw [h2]; congr 1; omega⟩
theorem wLs.has {ad : Nat → Nat} {n : Nat} {ls : List (Option AV)} {lsC : Array Slot} (h : wLs ad n ls lsC) : lv_has lsC n (lL ad 0 ls) := by
  refine ⟨h.1, h.2.1, fun q hq => ?_⟩
  obtain ⟨k, v, h1, rfl⟩ := lL_of ls 0 q hq
  simpa using h.2.2 k v h1
theorem cv_cat2 {ad : Nat → Nat} {v : AV} (h : (cv ad v).category = 2) : ∃ b, v = .inr (.inl b) := by
  rcases v with z | b | r
  · simp [cv, Value.category] at h
  · exact ⟨b, rfl⟩
  · cases r <;> simp [cv, va_rf, Value.category] at h
theorem wLs.set1 {ad : Nat → Nat} {n i : Nat} {ls : List (Option AV)} {lsC : Array Slot} {v : AV} (h : lv_has lsC n ((i, cv ad v) :: (lL ad 0 ls).filter (fun q => !(q.1 == i) && !(q.1 + 1 == i && q.2.category == 2)))) : wLs ad n (lset1 ls i v) lsC := by
  refine ⟨h.1, h.2.1, fun k w hk => ?_⟩
  rcases lget_lput _ _ _ _ _ hk with ⟨rfl, rfl⟩ | ⟨h1, h2⟩
  · exact h.2.2 (k, cv ad w) List.mem_cons_self
  · obtain ⟨h3, h4⟩ := lget_lkill _ _ _ _ h2
    refine h.2.2 (k, cv ad w) (List.mem_cons_of_mem _ (List.mem_filter.mpr ⟨by simpa using lL_mem (ad := ad) ls 0 k w h3, ?_⟩))
    simp only [Bool.and_eq_true, Bool.not_eq_true', beq_eq_false_iff_ne, Bool.and_eq_false_iff, ne_eq]
    refine ⟨h1, ?_⟩
    by_cases hc : k + 1 = i
    · right
      intro hq
      exact h4 ⟨hc, cv_cat2 hq⟩
    · exact Or.inl hc
theorem wLs.set2 {ad : Nat → Nat} {n i : Nat} {ls : List (Option AV)} {lsC : Array Slot} {v : AV} (h : lv_has lsC n ((i, cv ad v) :: (lL ad 0 ls).filter (fun q => !(q.1 == i) && (!(q.1 == i + 1) && !(q.1 + 1 == i && q.2.category == 2))))) : wLs ad n (lset2 ls i v) lsC := by
  refine ⟨h.1, h.2.1, fun k w hk => ?_⟩
  obtain ⟨h0, hk⟩ := lget_lputN _ _ _ _ hk
  rcases lget_lput _ _ _ _ _ hk with ⟨rfl, rfl⟩ | ⟨h1, h2⟩
  · exact h.2.2 (k, cv ad w) List.mem_cons_self
  · obtain ⟨h3, h4⟩ := lget_lkill _ _ _ _ h2
    refine h.2.2 (k, cv ad w) (List.mem_cons_of_mem _ (List.mem_filter.mpr ⟨by simpa using lL_mem (ad := ad) ls 0 k w h3, ?_⟩))
    simp only [Bool.and_eq_true, Bool.not_eq_true', beq_eq_false_iff_ne, Bool.and_eq_false_iff, ne_eq]
    refine ⟨h1, h0, ?_⟩
    by_cases hc : k + 1 = i
    · right
      intro hq
      exact h4 ⟨hc, cv_cat2 hq⟩
    · exact Or.inl hc
