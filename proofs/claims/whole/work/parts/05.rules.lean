variable {M : MD} {pc : Nat} {ls : List (Option AV)} {st : List AV} {m : Mm} {bd : Nat × Nat} {Q : Option AV → Mm → Prop}
theorem Wp.iconst {n : Int} (hd : decode (mdC M) pc = .ok (.iconst n, 1)) (k : Wp M (pc + 1) ls (vi n :: st) m bd Q) : Wp M pc ls (st) m bd Q := by
  intro p l e R s mid args below meth c H locs cells slots D cA ad base lsC Qf hC hH hS h1 h2 hl hF
  refine lv_iconst hC.1 hC.2.1 hd rfl ?_
  exact k p l e R s mid args below meth c H locs cells slots D cA ad base lsC Qf hC hH hS h1 h2 hl hF
theorem Wp.bipush {n : Int} (hv : (Int8.ofInt n).toInt32 = Int32.ofInt n) (hd : decode (mdC M) pc = .ok (.bipush n, 2)) (k : Wp M (pc + 2) ls (vi n :: st) m bd Q) : Wp M pc ls (st) m bd Q := by
  intro p l e R s mid args below meth c H locs cells slots D cA ad base lsC Qf hC hH hS h1 h2 hl hF
  refine lv_bipush hC.1 hC.2.1 hd hv ?_
  exact k p l e R s mid args below meth c H locs cells slots D cA ad base lsC Qf hC hH hS h1 h2 hl hF
theorem Wp.sipush {n : Int} (hv : (Int16.ofInt n).toInt32 = Int32.ofInt n) (hd : decode (mdC M) pc = .ok (.sipush n, 3)) (k : Wp M (pc + 3) ls (vi n :: st) m bd Q) : Wp M pc ls (st) m bd Q := by
  intro p l e R s mid args below meth c H locs cells slots D cA ad base lsC Qf hC hH hS h1 h2 hl hF
  refine lv_sipush hC.1 hC.2.1 hd hv ?_
  exact k p l e R s mid args below meth c H locs cells slots D cA ad base lsC Qf hC hH hS h1 h2 hl hF
theorem Wp.lconst0 (hd : decode (mdC M) pc = .ok (.lconst 0, 1)) (k : Wp M (pc + 1) ls (vl 0#64 :: st) m bd Q) : Wp M pc ls (st) m bd Q := by
  intro p l e R s mid args below meth c H locs cells slots D cA ad base lsC Qf hC hH hS h1 h2 hl hF
  refine lv_lconst (v := Int64.ofBitVec 0#64) hC.1 hC.2.1 hd rfl ?_
  exact k p l e R s mid args below meth c H locs cells slots D cA ad base lsC Qf hC hH hS h1 h2 hl hF
theorem Wp.lconst1 (hd : decode (mdC M) pc = .ok (.lconst 1, 1)) (k : Wp M (pc + 1) ls (vl 1#64 :: st) m bd Q) : Wp M pc ls (st) m bd Q := by
  intro p l e R s mid args below meth c H locs cells slots D cA ad base lsC Qf hC hH hS h1 h2 hl hF
  refine lv_lconst (v := Int64.ofBitVec 1#64) hC.1 hC.2.1 hd rfl ?_
  exact k p l e R s mid args below meth c H locs cells slots D cA ad base lsC Qf hC hH hS h1 h2 hl hF
theorem Wp.aconst_null (hd : decode (mdC M) pc = .ok (.aconst_null, 1)) (k : Wp M (pc + 1) ls (vr none :: st) m bd Q) : Wp M pc ls (st) m bd Q := by
  intro p l e R s mid args below meth c H locs cells slots D cA ad base lsC Qf hC hH hS h1 h2 hl hF
  refine lv_null hC.1 hC.2.1 hd ?_
  exact k p l e R s mid args below meth c H locs cells slots D cA ad base lsC Qf hC hH hS h1 h2 hl hF
theorem Wp.ldc2_w {idx : Nat} {v : Int64} {b : BitVec 64} (hw : Cond.constantLong (mdY M).cls idx v ∈ wGt) (hv : Int64.ofBitVec b = v) (hd : decode (mdC M) pc = .ok (.ldc2_w idx, 3)) (k : Wp M (pc + 3) ls (vl b :: st) m bd Q) : Wp M pc ls (st) m bd Q := by
  intro p l e R s mid args below meth c H locs cells slots D cA ad base lsC Qf hC hH hS h1 h2 hl hF
  refine lv_ldc2 hC.1 hC.2.1 hC.2.2.2.1 (hC.2.2.2.2.1 _ hw) hd ?_
  subst hv
  exact k p l e R s mid args below meth c H locs cells slots D cA ad base lsC Qf hC hH hS h1 h2 hl hF
theorem Wp.ldc_w {idx : Nat} {v : Int32} {z : Int} (hw : Cond.constant (mdY M).cls idx v ∈ wGt) (hv : Int32.ofInt z = v) (hd : decode (mdC M) pc = .ok (.ldc_w idx, 3)) (k : Wp M (pc + 3) ls (vi z :: st) m bd Q) : Wp M pc ls (st) m bd Q := by
  intro p l e R s mid args below meth c H locs cells slots D cA ad base lsC Qf hC hH hS h1 h2 hl hF
  refine lv_ldcw hC.1 hC.2.1 hC.2.2.2.1 (hC.2.2.2.2.1 _ hw) hd ?_
  subst hv
  exact k p l e R s mid args below meth c H locs cells slots D cA ad base lsC Qf hC hH hS h1 h2 hl hF
theorem Wp.iload_n {i : Fin 4} {x : Int} (hg : lget ls i = some (vi x)) (hd : decode (mdC M) pc = .ok (.iload_n i, 1)) (k : Wp M (pc + 1) ls (vi x :: st) m bd Q) : Wp M pc ls (st) m bd Q := by
  intro p l e R s mid args below meth c H locs cells slots D cA ad base lsC Qf hC hH hS h1 h2 hl hF
  refine lv_iload_n hC.1 hC.2.1 hd rfl (hl.2.2 _ _ hg) ?_
  exact k p l e R s mid args below meth c H locs cells slots D cA ad base lsC Qf hC hH hS h1 h2 hl hF
theorem Wp.iload {i : Nat} {x : Int} (hg : lget ls i = some (vi x)) (hd : decode (mdC M) pc = .ok (.iload i, 2)) (k : Wp M (pc + 2) ls (vi x :: st) m bd Q) : Wp M pc ls (st) m bd Q := by
  intro p l e R s mid args below meth c H locs cells slots D cA ad base lsC Qf hC hH hS h1 h2 hl hF
  refine lv_iload hC.1 hC.2.1 hd (hl.2.2 _ _ hg) ?_
  exact k p l e R s mid args below meth c H locs cells slots D cA ad base lsC Qf hC hH hS h1 h2 hl hF
theorem Wp.lload_n {i : Fin 4} {x : BitVec 64} (hg : lget ls i = some (vl x)) (hd : decode (mdC M) pc = .ok (.lload_n i, 1)) (k : Wp M (pc + 1) ls (vl x :: st) m bd Q) : Wp M pc ls (st) m bd Q := by
  intro p l e R s mid args below meth c H locs cells slots D cA ad base lsC Qf hC hH hS h1 h2 hl hF
  refine lv_lload_n hC.1 hC.2.1 hd rfl (hl.2.2 _ _ hg) ?_
  exact k p l e R s mid args below meth c H locs cells slots D cA ad base lsC Qf hC hH hS h1 h2 hl hF
theorem Wp.lload {i : Nat} {x : BitVec 64} (hg : lget ls i = some (vl x)) (hd : decode (mdC M) pc = .ok (.lload i, 2)) (k : Wp M (pc + 2) ls (vl x :: st) m bd Q) : Wp M pc ls (st) m bd Q := by
  intro p l e R s mid args below meth c H locs cells slots D cA ad base lsC Qf hC hH hS h1 h2 hl hF
  refine lv_lload hC.1 hC.2.1 hd (hl.2.2 _ _ hg) ?_
  exact k p l e R s mid args below meth c H locs cells slots D cA ad base lsC Qf hC hH hS h1 h2 hl hF
theorem Wp.aload_n {i : Fin 4} {x : Option Nat} (hg : lget ls i = some (vr x)) (hd : decode (mdC M) pc = .ok (.aload_n i, 1)) (k : Wp M (pc + 1) ls (vr x :: st) m bd Q) : Wp M pc ls st m bd Q := by
  intro p l e R s mid args below meth c H locs cells slots D cA ad base lsC Qf hC hH hS h1 h2 hl hF
  have hK := k p l e R s mid args below meth c H locs cells slots D cA ad base lsC Qf hC hH hS h1 h2 hl hF
  have hv := hl.2.2 _ _ hg
  cases x with
  | none => exact lv_aload_nN hC.1 hC.2.1 hd rfl hv hK
  | some a => exact lv_aload_n hC.1 hC.2.1 hd rfl hv hK
theorem Wp.aload {i : Nat} {x : Option Nat} (hg : lget ls i = some (vr x)) (hd : decode (mdC M) pc = .ok (.aload i, 2)) (k : Wp M (pc + 2) ls (vr x :: st) m bd Q) : Wp M pc ls st m bd Q := by
  intro p l e R s mid args below meth c H locs cells slots D cA ad base lsC Qf hC hH hS h1 h2 hl hF
  have hK := k p l e R s mid args below meth c H locs cells slots D cA ad base lsC Qf hC hH hS h1 h2 hl hF
  have hv := hl.2.2 _ _ hg
  cases x with
  | none => exact lv_aloadN hC.1 hC.2.1 hd hv hK
  | some a => exact lv_aload hC.1 hC.2.1 hd hv hK
theorem Wp.istore_n {i : Fin 4} {x : Int} {ls' : List (Option AV)} (hd : decode (mdC M) pc = .ok (.istore_n i, 1)) (hi : (i : Nat) < mdL M) (he : lset1 ls i (vi x) = ls') (k : Wp M (pc + 1) ls' st m bd Q) : Wp M pc ls (vi x :: st) m bd Q := by
  intro p l e R s mid args below meth c H locs cells slots D cA ad base lsC Qf hC hH hS h1 h2 hl hF
  refine lv_istore_n hC.1 hC.2.1 hd rfl hl.has hi rfl (fun lsC' h => ?_)
  exact k p l e R s mid args below meth c H locs cells slots D cA ad base lsC' Qf hC hH hS h1 h2 (he ▸ wLs.set1 (v := vi x) h) hF
theorem Wp.istore {i : Nat} {x : Int} {ls' : List (Option AV)} (hd : decode (mdC M) pc = .ok (.istore i, 2)) (hi : (i : Nat) < mdL M) (he : lset1 ls i (vi x) = ls') (k : Wp M (pc + 2) ls' st m bd Q) : Wp M pc ls (vi x :: st) m bd Q := by
  intro p l e R s mid args below meth c H locs cells slots D cA ad base lsC Qf hC hH hS h1 h2 hl hF
  refine lv_istore hC.1 hC.2.1 hd hl.has hi rfl (fun lsC' h => ?_)
  exact k p l e R s mid args below meth c H locs cells slots D cA ad base lsC' Qf hC hH hS h1 h2 (he ▸ wLs.set1 (v := vi x) h) hF
theorem Wp.lstore_n {i : Fin 4} {x : BitVec 64} {ls' : List (Option AV)} (hd : decode (mdC M) pc = .ok (.lstore_n i, 1)) (hi : (i : Nat) + 1 < mdL M) (he : lset2 ls i (vl x) = ls') (k : Wp M (pc + 1) ls' st m bd Q) : Wp M pc ls (vl x :: st) m bd Q := by
  intro p l e R s mid args below meth c H locs cells slots D cA ad base lsC Qf hC hH hS h1 h2 hl hF
  refine lv_lstore_n hC.1 hC.2.1 hd rfl hl.has hi rfl (fun lsC' h => ?_)
  exact k p l e R s mid args below meth c H locs cells slots D cA ad base lsC' Qf hC hH hS h1 h2 (he ▸ wLs.set2 (v := vl x) h) hF
theorem Wp.lstore {i : Nat} {x : BitVec 64} {ls' : List (Option AV)} (hd : decode (mdC M) pc = .ok (.lstore i, 2)) (hi : (i : Nat) + 1 < mdL M) (he : lset2 ls i (vl x) = ls') (k : Wp M (pc + 2) ls' st m bd Q) : Wp M pc ls (vl x :: st) m bd Q := by
  intro p l e R s mid args below meth c H locs cells slots D cA ad base lsC Qf hC hH hS h1 h2 hl hF
  refine lv_lstore hC.1 hC.2.1 hd hl.has hi rfl (fun lsC' h => ?_)
  exact k p l e R s mid args below meth c H locs cells slots D cA ad base lsC' Qf hC hH hS h1 h2 (he ▸ wLs.set2 (v := vl x) h) hF
theorem Wp.astore_n {i : Fin 4} {x : Option Nat} {ls' : List (Option AV)} (hd : decode (mdC M) pc = .ok (.astore_n i, 1)) (hi : (i : Nat) < mdL M) (he : lset1 ls i (vr x) = ls') (k : Wp M (pc + 1) ls' st m bd Q) : Wp M pc ls (vr x :: st) m bd Q := by
  intro p l e R s mid args below meth c H locs cells slots D cA ad base lsC Qf hC hH hS h1 h2 hl hF
  cases x with
  | none =>
    refine lv_astore_nN hC.1 hC.2.1 hd rfl hl.has hi rfl (fun lsC' h => ?_)
    exact k p l e R s mid args below meth c H locs cells slots D cA ad base lsC' Qf hC hH hS h1 h2 (he ▸ wLs.set1 (v := vr none) h) hF
  | some a =>
    refine lv_astore_n hC.1 hC.2.1 hd rfl hl.has hi rfl (fun lsC' h => ?_)
    exact k p l e R s mid args below meth c H locs cells slots D cA ad base lsC' Qf hC hH hS h1 h2 (he ▸ wLs.set1 (v := vr (some a)) h) hF
theorem Wp.astore {i : Nat} {x : Option Nat} {ls' : List (Option AV)} (hd : decode (mdC M) pc = .ok (.astore i, 2)) (hi : (i : Nat) < mdL M) (he : lset1 ls i (vr x) = ls') (k : Wp M (pc + 2) ls' st m bd Q) : Wp M pc ls (vr x :: st) m bd Q := by
  intro p l e R s mid args below meth c H locs cells slots D cA ad base lsC Qf hC hH hS h1 h2 hl hF
  cases x with
  | none =>
    refine lv_astoreN hC.1 hC.2.1 hd hl.has hi rfl (fun lsC' h => ?_)
    exact k p l e R s mid args below meth c H locs cells slots D cA ad base lsC' Qf hC hH hS h1 h2 (he ▸ wLs.set1 (v := vr none) h) hF
  | some a =>
    refine lv_astore hC.1 hC.2.1 hd hl.has hi rfl (fun lsC' h => ?_)
    exact k p l e R s mid args below meth c H locs cells slots D cA ad base lsC' Qf hC hH hS h1 h2 (he ▸ wLs.set1 (v := vr (some a)) h) hF
theorem Wp.iinc {i : Nat} {n x : Int} {ls' : List (Option AV)} (hg : lget ls i = some (vi x)) (hd : decode (mdC M) pc = .ok (.iinc i n, 3)) (hi : i < mdL M) (he : lset1 ls i (vi (x + n)) = ls') (k : Wp M (pc + 3) ls' st m bd Q) : Wp M pc ls st m bd Q := by
  intro p l e R s mid args below meth c H locs cells slots D cA ad base lsC Qf hC hH hS h1 h2 hl hF
  obtain ⟨j, hj⟩ := List.getElem?_of_mem (show (i, cv ad (vi x)) ∈ lL ad 0 ls by simpa using lL_mem (ad := ad) ls 0 i (vi x) hg)
  refine lv_iinc (v := Int32.ofInt (x + n)) hC.1 hC.2.1 hd hl.has (k := j) hj (by rw [Int32.ofInt_add]) hi rfl (fun lsC' h => ?_)
  exact k p l e R s mid args below meth c H locs cells slots D cA ad base lsC' Qf hC hH hS h1 h2 (he ▸ wLs.set1 (v := vi (x + n)) h) hF
theorem Wp.iadd {x y : Int} (hd : decode (mdC M) pc = .ok (.iadd, 1)) (k : Wp M (pc + 1) ls (vi (x + y) :: st) m bd Q) : Wp M pc ls (vi y :: vi x :: st) m bd Q := by
  intro p l e R s mid args below meth c H locs cells slots D cA ad base lsC Qf hC hH hS h1 h2 hl hF
  refine lv_iadd hC.1 hC.2.1 hd ?_
  rw [← Int32.ofInt_add]
  exact k p l e R s mid args below meth c H locs cells slots D cA ad base lsC Qf hC hH hS h1 h2 hl hF
theorem Wp.isub {x y : Int} (hd : decode (mdC M) pc = .ok (.isub, 1)) (k : Wp M (pc + 1) ls (vi (x - y) :: st) m bd Q) : Wp M pc ls (vi y :: vi x :: st) m bd Q := by
  intro p l e R s mid args below meth c H locs cells slots D cA ad base lsC Qf hC hH hS h1 h2 hl hF
  refine lv_isub hC.1 hC.2.1 hd ?_
  rw [← Int32.ofInt_sub]
  exact k p l e R s mid args below meth c H locs cells slots D cA ad base lsC Qf hC hH hS h1 h2 hl hF
theorem Wp.imul {x y : Int} (hd : decode (mdC M) pc = .ok (.imul, 1)) (k : Wp M (pc + 1) ls (vi (x * y) :: st) m bd Q) : Wp M pc ls (vi y :: vi x :: st) m bd Q := by
  intro p l e R s mid args below meth c H locs cells slots D cA ad base lsC Qf hC hH hS h1 h2 hl hF
  refine lv_imul hC.1 hC.2.1 hd ?_
  rw [← Int32.ofInt_mul]
  exact k p l e R s mid args below meth c H locs cells slots D cA ad base lsC Qf hC hH hS h1 h2 hl hF
def andI (x y : Int) : Int := (Int32.ofInt x &&& Int32.ofInt y).toInt
theorem Wp.iand {x y : Int} (hd : decode (mdC M) pc = .ok (.iand, 1)) (k : Wp M (pc + 1) ls (vi (andI x y) :: st) m bd Q) : Wp M pc ls (vi y :: vi x :: st) m bd Q := by
  intro p l e R s mid args below meth c H locs cells slots D cA ad base lsC Qf hC hH hS h1 h2 hl hF
  refine lv_iand hC.1 hC.2.1 hd ?_
  rw [← w_toInt (Int32.ofInt x &&& Int32.ofInt y)]
  exact k p l e R s mid args below meth c H locs cells slots D cA ad base lsC Qf hC hH hS h1 h2 hl hF
def orI (x y : Int) : Int := (Int32.ofInt x ||| Int32.ofInt y).toInt
theorem Wp.ior {x y : Int} (hd : decode (mdC M) pc = .ok (.ior, 1)) (k : Wp M (pc + 1) ls (vi (orI x y) :: st) m bd Q) : Wp M pc ls (vi y :: vi x :: st) m bd Q := by
  intro p l e R s mid args below meth c H locs cells slots D cA ad base lsC Qf hC hH hS h1 h2 hl hF
  refine lv_ior hC.1 hC.2.1 hd ?_
  rw [← w_toInt (Int32.ofInt x ||| Int32.ofInt y)]
  exact k p l e R s mid args below meth c H locs cells slots D cA ad base lsC Qf hC hH hS h1 h2 hl hF
def xorI (x y : Int) : Int := (Int32.ofInt x ^^^ Int32.ofInt y).toInt
theorem Wp.ixor {x y : Int} (hd : decode (mdC M) pc = .ok (.ixor, 1)) (k : Wp M (pc + 1) ls (vi (xorI x y) :: st) m bd Q) : Wp M pc ls (vi y :: vi x :: st) m bd Q := by
  intro p l e R s mid args below meth c H locs cells slots D cA ad base lsC Qf hC hH hS h1 h2 hl hF
  refine lv_ixor hC.1 hC.2.1 hd ?_
  rw [← w_toInt (Int32.ofInt x ^^^ Int32.ofInt y)]
  exact k p l e R s mid args below meth c H locs cells slots D cA ad base lsC Qf hC hH hS h1 h2 hl hF
def shlI (x y : Int) : Int := (Int32.ofInt x <<< (Int32.ofInt y &&& 31)).toInt
theorem Wp.ishl {x y : Int} (hd : decode (mdC M) pc = .ok (.ishl, 1)) (k : Wp M (pc + 1) ls (vi (shlI x y) :: st) m bd Q) : Wp M pc ls (vi y :: vi x :: st) m bd Q := by
  intro p l e R s mid args below meth c H locs cells slots D cA ad base lsC Qf hC hH hS h1 h2 hl hF
  refine lv_ishl hC.1 hC.2.1 hd ?_
  rw [← w_toInt (Int32.ofInt x <<< (Int32.ofInt y &&& 31))]
  exact k p l e R s mid args below meth c H locs cells slots D cA ad base lsC Qf hC hH hS h1 h2 hl hF
def shrI (x y : Int) : Int := (Int32.ofInt x >>> (Int32.ofInt y &&& 31)).toInt
theorem Wp.ishr {x y : Int} (hd : decode (mdC M) pc = .ok (.ishr, 1)) (k : Wp M (pc + 1) ls (vi (shrI x y) :: st) m bd Q) : Wp M pc ls (vi y :: vi x :: st) m bd Q := by
  intro p l e R s mid args below meth c H locs cells slots D cA ad base lsC Qf hC hH hS h1 h2 hl hF
  refine lv_ishr hC.1 hC.2.1 hd ?_
  rw [← w_toInt (Int32.ofInt x >>> (Int32.ofInt y &&& 31))]
  exact k p l e R s mid args below meth c H locs cells slots D cA ad base lsC Qf hC hH hS h1 h2 hl hF
def ushrI (x y : Int) : Int := ((Int32.ofInt x).toUInt32 >>> ((Int32.ofInt y).toUInt32 &&& Int32.toUInt32 31)).toInt32.toInt
theorem Wp.iushr {x y : Int} (hd : decode (mdC M) pc = .ok (.iushr, 1)) (k : Wp M (pc + 1) ls (vi (ushrI x y) :: st) m bd Q) : Wp M pc ls (vi y :: vi x :: st) m bd Q := by
  intro p l e R s mid args below meth c H locs cells slots D cA ad base lsC Qf hC hH hS h1 h2 hl hF
  refine lv_iushr hC.1 hC.2.1 hd (w_toInt _).symm ?_
  exact k p l e R s mid args below meth c H locs cells slots D cA ad base lsC Qf hC hH hS h1 h2 hl hF
theorem w_div {x y : Int} (hx : inR x) (hy : inR y) : Int32.ofInt x / Int32.ofInt y = Int32.ofInt (x.tdiv y) := by
  rw [← Int32.toInt_inj, Int32.toInt_div, w_ofInt hx, w_ofInt hy, Int32.toInt_ofInt]
theorem Wp.idiv {x y : Int} (hx : inR x) (hy : inR y) (h0 : y ≠ 0) (hd : decode (mdC M) pc = .ok (.idiv, 1)) (k : Wp M (pc + 1) ls (vi (x.tdiv y) :: st) m bd Q) : Wp M pc ls (vi y :: vi x :: st) m bd Q := by
  intro p l e R s mid args below meth c H locs cells slots D cA ad base lsC Qf hC hH hS h1 h2 hl hF
  refine lv_idiv hC.1 hC.2.1 hd (fun q => h0 ((w_eq hy inR_0).mp q)) ?_
  rw [w_div hx hy]
  exact k p l e R s mid args below meth c H locs cells slots D cA ad base lsC Qf hC hH hS h1 h2 hl hF
theorem Wp.irem {x y : Int} (hx : inR x) (hy : inR y) (h0 : y ≠ 0) (hd : decode (mdC M) pc = .ok (.irem, 1)) (k : Wp M (pc + 1) ls (vi (x - x.tdiv y * y) :: st) m bd Q) : Wp M pc ls (vi y :: vi x :: st) m bd Q := by
  intro p l e R s mid args below meth c H locs cells slots D cA ad base lsC Qf hC hH hS h1 h2 hl hF
  refine lv_irem hC.1 hC.2.1 hd (fun q => h0 ((w_eq hy inR_0).mp q)) ?_
  rw [w_div hx hy, ← Int32.ofInt_mul, ← Int32.ofInt_sub]
  exact k p l e R s mid args below meth c H locs cells slots D cA ad base lsC Qf hC hH hS h1 h2 hl hF
theorem Wp.ladd {x y : BitVec 64} (hd : decode (mdC M) pc = .ok (.ladd, 1)) (k : Wp M (pc + 1) ls (vl (x + y) :: st) m bd Q) : Wp M pc ls (vl y :: vl x :: st) m bd Q := by
  intro p l e R s mid args below meth c H locs cells slots D cA ad base lsC Qf hC hH hS h1 h2 hl hF
  refine lv_ladd hC.1 hC.2.1 hd ?_
  exact k p l e R s mid args below meth c H locs cells slots D cA ad base lsC Qf hC hH hS h1 h2 hl hF
theorem Wp.lsub {x y : BitVec 64} (hd : decode (mdC M) pc = .ok (.lsub, 1)) (k : Wp M (pc + 1) ls (vl (x - y) :: st) m bd Q) : Wp M pc ls (vl y :: vl x :: st) m bd Q := by
  intro p l e R s mid args below meth c H locs cells slots D cA ad base lsC Qf hC hH hS h1 h2 hl hF
  refine lv_lsub hC.1 hC.2.1 hd ?_
  exact k p l e R s mid args below meth c H locs cells slots D cA ad base lsC Qf hC hH hS h1 h2 hl hF
theorem Wp.land {x y : BitVec 64} (hd : decode (mdC M) pc = .ok (.land, 1)) (k : Wp M (pc + 1) ls (vl (x &&& y) :: st) m bd Q) : Wp M pc ls (vl y :: vl x :: st) m bd Q := by
  intro p l e R s mid args below meth c H locs cells slots D cA ad base lsC Qf hC hH hS h1 h2 hl hF
  refine lv_land hC.1 hC.2.1 hd ?_
  exact k p l e R s mid args below meth c H locs cells slots D cA ad base lsC Qf hC hH hS h1 h2 hl hF
theorem Wp.lor {x y : BitVec 64} (hd : decode (mdC M) pc = .ok (.lor, 1)) (k : Wp M (pc + 1) ls (vl (x ||| y) :: st) m bd Q) : Wp M pc ls (vl y :: vl x :: st) m bd Q := by
  intro p l e R s mid args below meth c H locs cells slots D cA ad base lsC Qf hC hH hS h1 h2 hl hF
  refine lv_lor hC.1 hC.2.1 hd ?_
  exact k p l e R s mid args below meth c H locs cells slots D cA ad base lsC Qf hC hH hS h1 h2 hl hF
theorem Wp.lxor {x y : BitVec 64} (hd : decode (mdC M) pc = .ok (.lxor, 1)) (k : Wp M (pc + 1) ls (vl (x ^^^ y) :: st) m bd Q) : Wp M pc ls (vl y :: vl x :: st) m bd Q := by
  intro p l e R s mid args below meth c H locs cells slots D cA ad base lsC Qf hC hH hS h1 h2 hl hF
  refine lv_lxor hC.1 hC.2.1 hd ?_
  exact k p l e R s mid args below meth c H locs cells slots D cA ad base lsC Qf hC hH hS h1 h2 hl hF
theorem Wp.lneg {x : BitVec 64} (hd : decode (mdC M) pc = .ok (.lneg, 1)) (k : Wp M (pc + 1) ls (vl (-x) :: st) m bd Q) : Wp M pc ls (vl x :: st) m bd Q := by
  intro p l e R s mid args below meth c H locs cells slots D cA ad base lsC Qf hC hH hS h1 h2 hl hF
  refine lv_lneg hC.1 hC.2.1 hd ?_
  exact k p l e R s mid args below meth c H locs cells slots D cA ad base lsC Qf hC hH hS h1 h2 hl hF
theorem w_sh {z : Int} (h0 : 0 ≤ z) (h1 : z < 64) : ((Int32.ofInt z).toInt64 &&& 63).toBitVec.smod 64 = BitVec.ofNat 64 z.toNat := by
  obtain ⟨n, rfl⟩ := Int.eq_ofNat_of_zero_le h0
  have hn : n < 64 := by omega
  have key : ∀ n : Fin 64, ((Int32.ofInt ((n : Nat) : Int)).toInt64 &&& 63).toBitVec.smod 64 = BitVec.ofNat 64 (n : Nat) := by decide +kernel
  simpa using key ⟨n, hn⟩
theorem w_shu {z : Int} (h0 : 0 ≤ z) (h1 : z < 64) : ((Int32.ofInt z).toInt64.toUInt64 &&& Int64.toUInt64 63).toBitVec % 64 = BitVec.ofNat 64 z.toNat := by
  obtain ⟨n, rfl⟩ := Int.eq_ofNat_of_zero_le h0
  have hn : n < 64 := by omega
  have key : ∀ n : Fin 64, ((Int32.ofInt ((n : Nat) : Int)).toInt64.toUInt64 &&& Int64.toUInt64 63).toBitVec % 64 = BitVec.ofNat 64 (n : Nat) := by decide +kernel
  simpa using key ⟨n, hn⟩
theorem w_shn {n : Nat} (h : n < 64) : (BitVec.ofNat 64 n).toNat = n := by
  rw [BitVec.toNat_ofNat]; exact Nat.mod_eq_of_lt (by omega)
theorem Wp.lshl {x : BitVec 64} {z : Int} (h0 : 0 ≤ z) (h3 : z < 64) (hd : decode (mdC M) pc = .ok (.lshl, 1)) (k : Wp M (pc + 1) ls (vl (x <<< z.toNat) :: st) m bd Q) : Wp M pc ls (vi z :: vl x :: st) m bd Q := by
  intro p l e R s mid args below meth c H locs cells slots D cA ad base lsC Qf hC hH hS h1 h2 hl hF
  refine lv_lshl (v := Int64.ofBitVec (x <<< z.toNat)) hC.1 hC.2.1 hd (by
    apply Int64.toBitVec_inj.mp
    rw [Int64.toBitVec_shiftLeft, w_sh h0 h3]
    show x <<< (BitVec.ofNat 64 z.toNat) = x <<< z.toNat
    rw [BitVec.shiftLeft_eq', w_shn (by omega)]) ?_
  exact k p l e R s mid args below meth c H locs cells slots D cA ad base lsC Qf hC hH hS h1 h2 hl hF
theorem Wp.lshr {x : BitVec 64} {z : Int} (h0 : 0 ≤ z) (h3 : z < 64) (hd : decode (mdC M) pc = .ok (.lshr, 1)) (k : Wp M (pc + 1) ls (vl (x.sshiftRight z.toNat) :: st) m bd Q) : Wp M pc ls (vi z :: vl x :: st) m bd Q := by
  intro p l e R s mid args below meth c H locs cells slots D cA ad base lsC Qf hC hH hS h1 h2 hl hF
  refine lv_lshr (v := Int64.ofBitVec (x.sshiftRight z.toNat)) hC.1 hC.2.1 hd (by
    apply Int64.toBitVec_inj.mp
    rw [Int64.toBitVec_shiftRight, w_sh h0 h3]
    show x.sshiftRight' (BitVec.ofNat 64 z.toNat) = x.sshiftRight z.toNat
    rw [BitVec.sshiftRight', w_shn (by omega)]) ?_
  exact k p l e R s mid args below meth c H locs cells slots D cA ad base lsC Qf hC hH hS h1 h2 hl hF
theorem Wp.lushr {x : BitVec 64} {z : Int} (h0 : 0 ≤ z) (h3 : z < 64) (hd : decode (mdC M) pc = .ok (.lushr, 1)) (k : Wp M (pc + 1) ls (vl (x >>> z.toNat) :: st) m bd Q) : Wp M pc ls (vi z :: vl x :: st) m bd Q := by
  intro p l e R s mid args below meth c H locs cells slots D cA ad base lsC Qf hC hH hS h1 h2 hl hF
  refine lv_lushr (v := Int64.ofBitVec (x >>> z.toNat)) hC.1 hC.2.1 hd (by
    apply Int64.toBitVec_inj.mp
    show (UInt64.toBitVec ((Int64.ofBitVec x).toUInt64 >>> _)) = _
    rw [UInt64.toBitVec_shiftRight, w_shu h0 h3]
    show x >>> (BitVec.ofNat 64 z.toNat) = x >>> z.toNat
    rw [BitVec.ushiftRight_eq', w_shn (by omega)]) ?_
  exact k p l e R s mid args below meth c H locs cells slots D cA ad base lsC Qf hC hH hS h1 h2 hl hF
theorem Wp.i2l {z : Int} (hz : inR z) (hd : decode (mdC M) pc = .ok (.i2l, 1)) (k : Wp M (pc + 1) ls (vl (BitVec.ofInt 64 z) :: st) m bd Q) : Wp M pc ls (vi z :: st) m bd Q := by
  intro p l e R s mid args below meth c H locs cells slots D cA ad base lsC Qf hC hH hS h1 h2 hl hF
  refine lv_i2l (v := Int64.ofBitVec (BitVec.ofInt 64 z)) hC.1 hC.2.1 hd (by
    apply Int64.toInt_inj.mp
    rw [Int32.toInt_toInt64, w_ofInt hz]
    show z = (BitVec.ofInt 64 z).toInt
    rw [BitVec.toInt_ofInt, Int.bmod_eq_of_le] <;> omega) ?_
  exact k p l e R s mid args below meth c H locs cells slots D cA ad base lsC Qf hC hH hS h1 h2 hl hF
theorem Wp.l2i {x : BitVec 64} (hd : decode (mdC M) pc = .ok (.l2i, 1)) (k : Wp M (pc + 1) ls (vi x.toInt :: st) m bd Q) : Wp M pc ls (vl x :: st) m bd Q := by
  intro p l e R s mid args below meth c H locs cells slots D cA ad base lsC Qf hC hH hS h1 h2 hl hF
  refine lv_l2i (v := Int32.ofInt x.toInt) hC.1 hC.2.1 hd (by
    apply Int32.toInt_inj.mp
    rw [Int64.toInt_toInt32, Int32.toInt_ofInt]; rfl) ?_
  exact k p l e R s mid args below meth c H locs cells slots D cA ad base lsC Qf hC hH hS h1 h2 hl hF
def cmpL (x y : BitVec 64) : Int := if y.toInt < x.toInt then 1 else if x = y then 0 else -1
theorem w_cmp (x y : BitVec 64) : lg_cmp (Int64.ofBitVec x) (Int64.ofBitVec y) = Int32.ofInt (cmpL x y) := by
  unfold lg_cmp cmpL
  have e1 : (Int64.ofBitVec x > Int64.ofBitVec y) ↔ y.toInt < x.toInt := by
    show Int64.ofBitVec y < Int64.ofBitVec x ↔ _
    rw [Int64.lt_iff_toInt_lt]; rfl
  have e2 : (Int64.ofBitVec x = Int64.ofBitVec y) ↔ x = y := by
    rw [← Int64.toBitVec_inj]; exact Iff.rfl
  by_cases h : y.toInt < x.toInt
  · rw [if_pos (e1.mpr h), if_pos h]; rfl
  · rw [if_neg (fun q => h (e1.mp q)), if_neg h]
    by_cases h2 : x = y
    · rw [if_pos (e2.mpr h2), if_pos h2]; rfl
    · rw [if_neg (fun q => h2 (e2.mp q)), if_neg h2]; rfl
theorem Wp.lcmp {x y : BitVec 64} (hd : decode (mdC M) pc = .ok (.lcmp, 1)) (k : Wp M (pc + 1) ls (vi (cmpL x y) :: st) m bd Q) : Wp M pc ls (vl y :: vl x :: st) m bd Q := by
  intro p l e R s mid args below meth c H locs cells slots D cA ad base lsC Qf hC hH hS h1 h2 hl hF
  refine W.lcmp hC.1 hC.2.1 hd ?_
  rw [w_cmp]
  exact k p l e R s mid args below meth c H locs cells slots D cA ad base lsC Qf hC hH hS h1 h2 hl hF
theorem Wp.dupI {z : Int} (hd : decode (mdC M) pc = .ok (.dup, 1)) (k : Wp M (pc + 1) ls (vi z :: vi z :: st) m bd Q) : Wp M pc ls (vi z :: st) m bd Q := by
  intro p l e R s mid args below meth c H locs cells slots D cA ad base lsC Qf hC hH hS h1 h2 hl hF
  refine lv_dup hC.1 hC.2.1 hd rfl ?_
  exact k p l e R s mid args below meth c H locs cells slots D cA ad base lsC Qf hC hH hS h1 h2 hl hF
theorem Wp.dupR {o : Nat} (hd : decode (mdC M) pc = .ok (.dup, 1)) (k : Wp M (pc + 1) ls (vr (some o) :: vr (some o) :: st) m bd Q) : Wp M pc ls (vr (some o) :: st) m bd Q := by
  intro p l e R s mid args below meth c H locs cells slots D cA ad base lsC Qf hC hH hS h1 h2 hl hF
  refine lv_dup hC.1 hC.2.1 hd rfl ?_
  exact k p l e R s mid args below meth c H locs cells slots D cA ad base lsC Qf hC hH hS h1 h2 hl hF
theorem Wp.dup2II {x y : Int} (hd : decode (mdC M) pc = .ok (.dup2, 1)) (k : Wp M (pc + 1) ls (vi x :: vi y :: vi x :: vi y :: st) m bd Q) : Wp M pc ls (vi x :: vi y :: st) m bd Q := by
  intro p l e R s mid args below meth c H locs cells slots D cA ad base lsC Qf hC hH hS h1 h2 hl hF
  refine lv_dup2_11 hC.1 hC.2.1 hd rfl rfl ?_
  exact k p l e R s mid args below meth c H locs cells slots D cA ad base lsC Qf hC hH hS h1 h2 hl hF
theorem Wp.dup2IR {x : Int} {o : Nat} (hd : decode (mdC M) pc = .ok (.dup2, 1)) (k : Wp M (pc + 1) ls (vi x :: vr (some o) :: vi x :: vr (some o) :: st) m bd Q) : Wp M pc ls (vi x :: vr (some o) :: st) m bd Q := by
  intro p l e R s mid args below meth c H locs cells slots D cA ad base lsC Qf hC hH hS h1 h2 hl hF
  refine lv_dup2_11 hC.1 hC.2.1 hd rfl rfl ?_
  exact k p l e R s mid args below meth c H locs cells slots D cA ad base lsC Qf hC hH hS h1 h2 hl hF
theorem Wp.if_eq {x : Int} {off : Int} {tgt : Nat} (hd : decode (mdC M) pc = .ok (.ifCond .eq off, 3)) (ht : (pc : Int) + off = (tgt : Int)) (hx : inR x) (kt : x = 0 → Wp M tgt ls st m bd Q) (kf : ¬ (x = 0) → Wp M (pc + 3) ls st m bd Q) : Wp M pc ls (vi x :: st) m bd Q := by
  intro p l e R s mid args below meth c H locs cells slots D cA ad base lsC Qf hC hH hS h1 h2 hl hF
  exact lv_if_eq hC.1 hC.2.1 hd ht (fun h => kt ((w_eq hx inR_0).mp h) p l e R s mid args below meth c H locs cells slots D cA ad base lsC Qf hC hH hS h1 h2 hl hF) (fun h => kf (fun q => h ((w_eq hx inR_0).mpr q)) p l e R s mid args below meth c H locs cells slots D cA ad base lsC Qf hC hH hS h1 h2 hl hF)
theorem Wp.icmp_eq {x : Int} {y : Int} {off : Int} {tgt : Nat} (hd : decode (mdC M) pc = .ok (.if_icmp .eq off, 3)) (ht : (pc : Int) + off = (tgt : Int)) (hx : inR x) (hy : inR y) (kt : x = y → Wp M tgt ls st m bd Q) (kf : ¬ (x = y) → Wp M (pc + 3) ls st m bd Q) : Wp M pc ls (vi y :: vi x :: st) m bd Q := by
  intro p l e R s mid args below meth c H locs cells slots D cA ad base lsC Qf hC hH hS h1 h2 hl hF
  exact lv_icmp_eq hC.1 hC.2.1 hd ht (fun h => kt ((w_eq hx hy).mp h) p l e R s mid args below meth c H locs cells slots D cA ad base lsC Qf hC hH hS h1 h2 hl hF) (fun h => kf (fun q => h ((w_eq hx hy).mpr q)) p l e R s mid args below meth c H locs cells slots D cA ad base lsC Qf hC hH hS h1 h2 hl hF)
theorem Wp.if_ne {x : Int} {off : Int} {tgt : Nat} (hd : decode (mdC M) pc = .ok (.ifCond .ne off, 3)) (ht : (pc : Int) + off = (tgt : Int)) (hx : inR x) (kt : x ≠ 0 → Wp M tgt ls st m bd Q) (kf : x = 0 → Wp M (pc + 3) ls st m bd Q) : Wp M pc ls (vi x :: st) m bd Q := by
  intro p l e R s mid args below meth c H locs cells slots D cA ad base lsC Qf hC hH hS h1 h2 hl hF
  exact lv_if_ne hC.1 hC.2.1 hd ht (fun h => kt (fun q => h ((w_eq hx inR_0).mpr q)) p l e R s mid args below meth c H locs cells slots D cA ad base lsC Qf hC hH hS h1 h2 hl hF) (fun h => kf ((w_eq hx inR_0).mp h) p l e R s mid args below meth c H locs cells slots D cA ad base lsC Qf hC hH hS h1 h2 hl hF)
theorem Wp.icmp_ne {x : Int} {y : Int} {off : Int} {tgt : Nat} (hd : decode (mdC M) pc = .ok (.if_icmp .ne off, 3)) (ht : (pc : Int) + off = (tgt : Int)) (hx : inR x) (hy : inR y) (kt : x ≠ y → Wp M tgt ls st m bd Q) (kf : x = y → Wp M (pc + 3) ls st m bd Q) : Wp M pc ls (vi y :: vi x :: st) m bd Q := by
  intro p l e R s mid args below meth c H locs cells slots D cA ad base lsC Qf hC hH hS h1 h2 hl hF
  exact lv_icmp_ne hC.1 hC.2.1 hd ht (fun h => kt (fun q => h ((w_eq hx hy).mpr q)) p l e R s mid args below meth c H locs cells slots D cA ad base lsC Qf hC hH hS h1 h2 hl hF) (fun h => kf ((w_eq hx hy).mp h) p l e R s mid args below meth c H locs cells slots D cA ad base lsC Qf hC hH hS h1 h2 hl hF)
theorem Wp.if_lt {x : Int} {off : Int} {tgt : Nat} (hd : decode (mdC M) pc = .ok (.ifCond .lt off, 3)) (ht : (pc : Int) + off = (tgt : Int)) (hx : inR x) (kt : x < 0 → Wp M tgt ls st m bd Q) (kf : ¬ (x < 0) → Wp M (pc + 3) ls st m bd Q) : Wp M pc ls (vi x :: st) m bd Q := by
  intro p l e R s mid args below meth c H locs cells slots D cA ad base lsC Qf hC hH hS h1 h2 hl hF
  exact lv_if_lt hC.1 hC.2.1 hd ht (fun h => kt ((w_lt hx inR_0).mp h) p l e R s mid args below meth c H locs cells slots D cA ad base lsC Qf hC hH hS h1 h2 hl hF) (fun h => kf (fun q => h ((w_lt hx inR_0).mpr q)) p l e R s mid args below meth c H locs cells slots D cA ad base lsC Qf hC hH hS h1 h2 hl hF)
theorem Wp.icmp_lt {x : Int} {y : Int} {off : Int} {tgt : Nat} (hd : decode (mdC M) pc = .ok (.if_icmp .lt off, 3)) (ht : (pc : Int) + off = (tgt : Int)) (hx : inR x) (hy : inR y) (kt : x < y → Wp M tgt ls st m bd Q) (kf : ¬ (x < y) → Wp M (pc + 3) ls st m bd Q) : Wp M pc ls (vi y :: vi x :: st) m bd Q := by
  intro p l e R s mid args below meth c H locs cells slots D cA ad base lsC Qf hC hH hS h1 h2 hl hF
  exact lv_icmp_lt hC.1 hC.2.1 hd ht (fun h => kt ((w_lt hx hy).mp h) p l e R s mid args below meth c H locs cells slots D cA ad base lsC Qf hC hH hS h1 h2 hl hF) (fun h => kf (fun q => h ((w_lt hx hy).mpr q)) p l e R s mid args below meth c H locs cells slots D cA ad base lsC Qf hC hH hS h1 h2 hl hF)
theorem Wp.if_ge {x : Int} {off : Int} {tgt : Nat} (hd : decode (mdC M) pc = .ok (.ifCond .ge off, 3)) (ht : (pc : Int) + off = (tgt : Int)) (hx : inR x) (kt : 0 ≤ x → Wp M tgt ls st m bd Q) (kf : ¬ (0 ≤ x) → Wp M (pc + 3) ls st m bd Q) : Wp M pc ls (vi x :: st) m bd Q := by
  intro p l e R s mid args below meth c H locs cells slots D cA ad base lsC Qf hC hH hS h1 h2 hl hF
  exact lv_if_ge hC.1 hC.2.1 hd ht (fun h => kt ((w_le inR_0 hx).mp h) p l e R s mid args below meth c H locs cells slots D cA ad base lsC Qf hC hH hS h1 h2 hl hF) (fun h => kf (fun q => h ((w_le inR_0 hx).mpr q)) p l e R s mid args below meth c H locs cells slots D cA ad base lsC Qf hC hH hS h1 h2 hl hF)
theorem Wp.icmp_ge {x : Int} {y : Int} {off : Int} {tgt : Nat} (hd : decode (mdC M) pc = .ok (.if_icmp .ge off, 3)) (ht : (pc : Int) + off = (tgt : Int)) (hx : inR x) (hy : inR y) (kt : y ≤ x → Wp M tgt ls st m bd Q) (kf : ¬ (y ≤ x) → Wp M (pc + 3) ls st m bd Q) : Wp M pc ls (vi y :: vi x :: st) m bd Q := by
  intro p l e R s mid args below meth c H locs cells slots D cA ad base lsC Qf hC hH hS h1 h2 hl hF
  exact lv_icmp_ge hC.1 hC.2.1 hd ht (fun h => kt ((w_le hy hx).mp h) p l e R s mid args below meth c H locs cells slots D cA ad base lsC Qf hC hH hS h1 h2 hl hF) (fun h => kf (fun q => h ((w_le hy hx).mpr q)) p l e R s mid args below meth c H locs cells slots D cA ad base lsC Qf hC hH hS h1 h2 hl hF)
theorem Wp.if_gt {x : Int} {off : Int} {tgt : Nat} (hd : decode (mdC M) pc = .ok (.ifCond .gt off, 3)) (ht : (pc : Int) + off = (tgt : Int)) (hx : inR x) (kt : 0 < x → Wp M tgt ls st m bd Q) (kf : ¬ (0 < x) → Wp M (pc + 3) ls st m bd Q) : Wp M pc ls (vi x :: st) m bd Q := by
  intro p l e R s mid args below meth c H locs cells slots D cA ad base lsC Qf hC hH hS h1 h2 hl hF
  exact lv_if_gt hC.1 hC.2.1 hd ht (fun h => kt ((w_lt inR_0 hx).mp h) p l e R s mid args below meth c H locs cells slots D cA ad base lsC Qf hC hH hS h1 h2 hl hF) (fun h => kf (fun q => h ((w_lt inR_0 hx).mpr q)) p l e R s mid args below meth c H locs cells slots D cA ad base lsC Qf hC hH hS h1 h2 hl hF)
theorem Wp.icmp_gt {x : Int} {y : Int} {off : Int} {tgt : Nat} (hd : decode (mdC M) pc = .ok (.if_icmp .gt off, 3)) (ht : (pc : Int) + off = (tgt : Int)) (hx : inR x) (hy : inR y) (kt : y < x → Wp M tgt ls st m bd Q) (kf : ¬ (y < x) → Wp M (pc + 3) ls st m bd Q) : Wp M pc ls (vi y :: vi x :: st) m bd Q := by
  intro p l e R s mid args below meth c H locs cells slots D cA ad base lsC Qf hC hH hS h1 h2 hl hF
  exact lv_icmp_gt hC.1 hC.2.1 hd ht (fun h => kt ((w_lt hy hx).mp h) p l e R s mid args below meth c H locs cells slots D cA ad base lsC Qf hC hH hS h1 h2 hl hF) (fun h => kf (fun q => h ((w_lt hy hx).mpr q)) p l e R s mid args below meth c H locs cells slots D cA ad base lsC Qf hC hH hS h1 h2 hl hF)
theorem Wp.if_le {x : Int} {off : Int} {tgt : Nat} (hd : decode (mdC M) pc = .ok (.ifCond .le off, 3)) (ht : (pc : Int) + off = (tgt : Int)) (hx : inR x) (kt : x ≤ 0 → Wp M tgt ls st m bd Q) (kf : ¬ (x ≤ 0) → Wp M (pc + 3) ls st m bd Q) : Wp M pc ls (vi x :: st) m bd Q := by
  intro p l e R s mid args below meth c H locs cells slots D cA ad base lsC Qf hC hH hS h1 h2 hl hF
  exact lv_if_le hC.1 hC.2.1 hd ht (fun h => kt ((w_le hx inR_0).mp h) p l e R s mid args below meth c H locs cells slots D cA ad base lsC Qf hC hH hS h1 h2 hl hF) (fun h => kf (fun q => h ((w_le hx inR_0).mpr q)) p l e R s mid args below meth c H locs cells slots D cA ad base lsC Qf hC hH hS h1 h2 hl hF)
theorem Wp.icmp_le {x : Int} {y : Int} {off : Int} {tgt : Nat} (hd : decode (mdC M) pc = .ok (.if_icmp .le off, 3)) (ht : (pc : Int) + off = (tgt : Int)) (hx : inR x) (hy : inR y) (kt : x ≤ y → Wp M tgt ls st m bd Q) (kf : ¬ (x ≤ y) → Wp M (pc + 3) ls st m bd Q) : Wp M pc ls (vi y :: vi x :: st) m bd Q := by
  intro p l e R s mid args below meth c H locs cells slots D cA ad base lsC Qf hC hH hS h1 h2 hl hF
  exact lv_icmp_le hC.1 hC.2.1 hd ht (fun h => kt ((w_le hx hy).mp h) p l e R s mid args below meth c H locs cells slots D cA ad base lsC Qf hC hH hS h1 h2 hl hF) (fun h => kf (fun q => h ((w_le hx hy).mpr q)) p l e R s mid args below meth c H locs cells slots D cA ad base lsC Qf hC hH hS h1 h2 hl hF)
theorem Wp.goto {off : Int} {tgt : Nat} (hd : decode (mdC M) pc = .ok (.goto off, 3)) (ht : (pc : Int) + off = (tgt : Int)) (k : Wp M tgt ls st m bd Q) : Wp M pc ls st m bd Q := by
  intro p l e R s mid args below meth c H locs cells slots D cA ad base lsC Qf hC hH hS h1 h2 hl hF
  exact lv_goto hC.1 hC.2.1 hd ht (k p l e R s mid args below meth c H locs cells slots D cA ad base lsC Qf hC hH hS h1 h2 hl hF)
theorem Wp.ifnull {off : Int} {tgt : Nat} {x : Option Nat} (hd : decode (mdC M) pc = .ok (.ifnull off, 3)) (ht : (pc : Int) + off = (tgt : Int)) (kt : x = none → Wp M tgt ls st m bd Q) (kf : ∀ o, x = some o → Wp M (pc + 3) ls st m bd Q) : Wp M pc ls (vr x :: st) m bd Q := by
  intro p l e R s mid args below meth c H locs cells slots D cA ad base lsC Qf hC hH hS h1 h2 hl hF
  cases x with
  | none => exact lv_ifnullN hC.1 hC.2.1 hd ht (kt rfl p l e R s mid args below meth c H locs cells slots D cA ad base lsC Qf hC hH hS h1 h2 hl hF)
  | some o => exact lv_ifnull hC.1 hC.2.1 hd (kf o rfl p l e R s mid args below meth c H locs cells slots D cA ad base lsC Qf hC hH hS h1 h2 hl hF)
theorem Wp.ifnonnull {off : Int} {tgt : Nat} {x : Option Nat} (hd : decode (mdC M) pc = .ok (.ifnonnull off, 3)) (ht : (pc : Int) + off = (tgt : Int)) (kt : ∀ o, x = some o → Wp M tgt ls st m bd Q) (kf : x = none → Wp M (pc + 3) ls st m bd Q) : Wp M pc ls (vr x :: st) m bd Q := by
  intro p l e R s mid args below meth c H locs cells slots D cA ad base lsC Qf hC hH hS h1 h2 hl hF
  cases x with
  | none => exact lv_ifnonnullN hC.1 hC.2.1 hd (kf rfl p l e R s mid args below meth c H locs cells slots D cA ad base lsC Qf hC hH hS h1 h2 hl hF)
  | some o => exact lv_ifnonnull hC.1 hC.2.1 hd ht (kt o rfl p l e R s mid args below meth c H locs cells slots D cA ad base lsC Qf hC hH hS h1 h2 hl hF)
theorem Wp.tableOut {dflt lo hi : Int} {offs : Array Int} {len : Nat} {x : Int} {tgt : Nat} (hd : decode (mdC M) pc = .ok (.tableswitch dflt lo hi offs, len)) (hx : inR x) (h : x < lo ∨ hi < x) (ht : (pc : Int) + dflt = (tgt : Int)) (k : Wp M tgt ls st m bd Q) : Wp M pc ls (vi x :: st) m bd Q := by
  intro p l e R s mid args below meth c H locs cells slots D cA ad base lsC Qf hC hH hS h1 h2 hl hF
  exact lv_tableOut hC.1 hC.2.1 hd (by rw [w_ofInt hx]; exact h) ht (k p l e R s mid args below meth c H locs cells slots D cA ad base lsC Qf hC hH hS h1 h2 hl hF)
theorem Wp.tableIn {dflt lo hi : Int} {offs : Array Int} {len : Nat} {x off : Int} {tgt : Nat} (hd : decode (mdC M) pc = .ok (.tableswitch dflt lo hi offs, len)) (hx : inR x) (ha : lo ≤ x) (hb : x ≤ hi) (ho : offs[(x - lo).toNat]? = some off) (ht : (pc : Int) + off = (tgt : Int)) (k : Wp M tgt ls st m bd Q) : Wp M pc ls (vi x :: st) m bd Q := by
  intro p l e R s mid args below meth c H locs cells slots D cA ad base lsC Qf hC hH hS h1 h2 hl hF
  exact lv_tableIn hC.1 hC.2.1 hd (by rw [w_ofInt hx]; omega) (by rw [w_ofInt hx]; omega) (by rw [w_ofInt hx]; exact ho) ht (k p l e R s mid args below meth c H locs cells slots D cA ad base lsC Qf hC hH hS h1 h2 hl hF)
theorem Wp.ireturn {z : Int} (hd : decode (mdC M) pc = .ok (.ireturn, 1)) (hr : mdR M = some .int) (k : Q (some (vi z)) m) : Wp M pc ls [vi z] m (0, 0) Q := by
  intro p l e R s mid args below meth c H locs cells slots D cA ad base lsC Qf hC hH hS h1 h2 hl hF
  exact hF (some (vi z)) m H locs pc lsC k hH hS ⟨hd, Or.inl hr⟩
theorem Wp.zreturn {z : Int} (hd : decode (mdC M) pc = .ok (.ireturn, 1)) (hr : mdR M = some .boolean) (hz : z = 0 ∨ z = 1) (k : Q (some (vi z)) m) : Wp M pc ls [vi z] m (0, 0) Q := by
  intro p l e R s mid args below meth c H locs cells slots D cA ad base lsC Qf hC hH hS h1 h2 hl hF
  exact hF (some (vi z)) m H locs pc lsC k hH hS ⟨hd, Or.inr ⟨hr, hz⟩⟩
theorem Wp.lreturn {b : BitVec 64} (hd : decode (mdC M) pc = .ok (.lreturn, 1)) (hr : mdR M = some .long) (k : Q (some (vl b)) m) : Wp M pc ls [vl b] m (0, 0) Q := by
  intro p l e R s mid args below meth c H locs cells slots D cA ad base lsC Qf hC hH hS h1 h2 hl hF
  exact hF (some (vl b)) m H locs pc lsC k hH hS ⟨hr, hd⟩
theorem Wp.areturn {r : Option Nat} {n : String} (hd : decode (mdC M) pc = .ok (.areturn, 1)) (hr : mdR M = some (.object n)) (k : Q (some (vr r)) m) : Wp M pc ls [vr r] m (0, 0) Q := by
  intro p l e R s mid args below meth c H locs cells slots D cA ad base lsC Qf hC hH hS h1 h2 hl hF
  exact hF (some (vr r)) m H locs pc lsC k hH hS ⟨⟨n, hr⟩, hd⟩
theorem Wp.vreturn (hd : decode (mdC M) pc = .ok (.return_, 1)) (hr : mdR M = none) (k : Q none m) : Wp M pc ls [] m (0, 0) Q := by
  intro p l e R s mid args below meth c H locs cells slots D cA ad base lsC Qf hC hH hS h1 h2 hl hF
  exact hF none m H locs pc lsC k hH hS ⟨hr, hd⟩
theorem Wp.mono {Q' : Option AV → Mm → Prop} (h : Wp M pc ls st m bd Q) (hq : ∀ r m', Q r m' → Q' r m') : Wp M pc ls st m bd Q' := by
  intro p l e R s mid args below meth c H locs cells slots D cA ad base lsC Qf hC hH hS h1 h2 hl hF
  exact h p l e R s mid args below meth c H locs cells slots D cA ad base lsC Qf hC hH hS h1 h2 hl (fun r m' H' locs' pc' lsC' q => hF r m' H' locs' pc' lsC' (hq r m' q))
