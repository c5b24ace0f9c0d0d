/-! ===== arrays, new cells ===== -/
variable {M : MD} {pc : Nat} {ls : List (Option AV)} {st : List AV} {I : Nat → Int → Int} {L : Nat → Int → BitVec 64} {R : Nat → Int → Option Nat} {n : Nat} {bd : Nat × Nat} {Q : Option AV → Mm → Prop}
theorem w_one {D : va_G} {a : Nat} {x : va_E} {H : Heap} (h : va_at D wCl (a, x) H) : va_P D wCl [(a, x)] H := fun j q hq => by
  cases j with
  | zero => cases hq; exact h
  | succ j => simp at hq
theorem kd_lt (o : Nat) : (kd o).2 < 100000 := by
  unfold kd
  split
  · rename_i h
    have key : ∀ o : Fin 57, (kdT.getD (o : Nat) (0, 0)).2 < 100000 := by decide +kernel
    exact key ⟨o, h⟩
  · have key : ∀ r : Fin 7, (kdB (r : Nat)).2 < 100000 := by decide +kernel
    exact key ⟨(o - 57) % 7, Nat.mod_lt _ (by omega)⟩
theorem Wp.iaload {o N : Nat} {z : Int} (hd : decode (mdC M) pc = .ok (.iaload, 1)) (hkd : kd o = (100, N)) (ho : o < n) (hz0 : 0 ≤ z) (hz1 : z < N) (kk : Wp M (pc + 1) ls (vi (I o z) :: st) (I, L, R, n) bd Q) : Wp M pc ls (vi z :: vr (some o) :: st) (I, L, R, n) bd Q := by
  intro p l e RR s mid args below meth c' H locs cells slots D cA ad base lsC Qf hC hH hS h1 h2 hl hF
  have hN : N < 100000 := by have := kd_lt o; rw [hkd] at this; exact this
  have hat := hH.2.2 o ho
  rw [cE_i hkd] at hat
  have had := hC.2.2.2.2.2.2.2.2.2.2.2.2.2.1 o (Nat.lt_of_lt_of_le ho hH.2.1)
  show W p l e RR s mid args below meth c' H locs cells slots Qf (F0 mid pc lsC (.int (Int32.ofInt z) :: .ref (ad o) :: _))
  rw [had]
  refine va_iald hC.1 hC.2.1 hC.2.2.2.2.2.2.1 (w_one hat) 0 0 rfl rfl (w_in hz0 hz1 (by omega)) hd ?_
  rw [w_clamp hz0 (by omega), Int.toNat_of_nonneg hz0]
  exact kk p l e RR s mid args below meth c' H locs cells slots D cA ad base lsC Qf hC hH hS h1 h2 hl hF
theorem Wp.baload {o N : Nat} {z : Int} (hd : decode (mdC M) pc = .ok (.baload, 1)) (hkd : kd o = (102, N)) (ho : o < n) (hz0 : 0 ≤ z) (hz1 : z < N) (kk : Wp M (pc + 1) ls (vi (I o z) :: st) (I, L, R, n) bd Q) : Wp M pc ls (vi z :: vr (some o) :: st) (I, L, R, n) bd Q := by
  intro p l e RR s mid args below meth c' H locs cells slots D cA ad base lsC Qf hC hH hS h1 h2 hl hF
  have hN : N < 100000 := by have := kd_lt o; rw [hkd] at this; exact this
  have hat := hH.2.2 o ho
  rw [cE_z hkd] at hat
  have had := hC.2.2.2.2.2.2.2.2.2.2.2.2.2.1 o (Nat.lt_of_lt_of_le ho hH.2.1)
  show W p l e RR s mid args below meth c' H locs cells slots Qf (F0 mid pc lsC (.int (Int32.ofInt z) :: .ref (ad o) :: _))
  rw [had]
  refine va_zald hC.1 hC.2.1 hC.2.2.2.2.2.2.1 (w_one hat) 0 2 rfl rfl (w_in hz0 hz1 (by omega)) hd ?_
  rw [w_clamp hz0 (by omega), Int.toNat_of_nonneg hz0]
  exact kk p l e RR s mid args below meth c' H locs cells slots D cA ad base lsC Qf hC hH hS h1 h2 hl hF
theorem Wp.laload {o N : Nat} {z : Int} (hd : decode (mdC M) pc = .ok (.laload, 1)) (hkd : kd o = (101, N)) (ho : o < n) (hz0 : 0 ≤ z) (hz1 : z < N) (kk : Wp M (pc + 1) ls (vl (L o z) :: st) (I, L, R, n) bd Q) : Wp M pc ls (vi z :: vr (some o) :: st) (I, L, R, n) bd Q := by
  intro p l e RR s mid args below meth c' H locs cells slots D cA ad base lsC Qf hC hH hS h1 h2 hl hF
  have hN : N < 100000 := by have := kd_lt o; rw [hkd] at this; exact this
  have hat := hH.2.2 o ho
  rw [cE_l hkd] at hat
  have had := hC.2.2.2.2.2.2.2.2.2.2.2.2.2.1 o (Nat.lt_of_lt_of_le ho hH.2.1)
  show W p l e RR s mid args below meth c' H locs cells slots Qf (F0 mid pc lsC (.int (Int32.ofInt z) :: .ref (ad o) :: _))
  rw [had]
  refine va_lald hC.1 hC.2.1 hC.2.2.2.2.2.2.1 (w_one hat) 0 1 rfl rfl (w_in hz0 hz1 (by omega)) hd ?_
  rw [w_clamp hz0 (by omega), Int.toNat_of_nonneg hz0]
  exact kk p l e RR s mid args below meth c' H locs cells slots D cA ad base lsC Qf hC hH hS h1 h2 hl hF
theorem Wp.aaload {o N : Nat} {z : Int} {r : Option Nat} (hd : decode (mdC M) pc = .ok (.aaload, 1)) (hkd : kd o = (103, N)) (ho : o < n) (hz0 : 0 ≤ z) (hz1 : z < N) (hr : R o z = r) (kk : Wp M (pc + 1) ls (vr r :: st) (I, L, R, n) bd Q) : Wp M pc ls (vi z :: vr (some o) :: st) (I, L, R, n) bd Q := by
  intro p l e RR s mid args below meth c' H locs cells slots D cA ad base lsC Qf hC hH hS h1 h2 hl hF
  subst hr
  have hN : N < 100000 := by have := kd_lt o; rw [hkd] at this; exact this
  have hat := hH.2.2 o ho
  rw [cE_r hkd] at hat
  have had := hC.2.2.2.2.2.2.2.2.2.2.2.2.2.1 o (Nat.lt_of_lt_of_le ho hH.2.1)
  show W p l e RR s mid args below meth c' H locs cells slots Qf (F0 mid pc lsC (.int (Int32.ofInt z) :: .ref (ad o) :: _))
  rw [had]
  refine va_aldq hC.1 hC.2.1 hC.2.2.2.2.2.2.1 (w_one hat) 0 3 rfl rfl (w_in hz0 hz1 (by omega)) hd ?_
  rw [w_clamp hz0 (by omega), Int.toNat_of_nonneg hz0]
  exact kk p l e RR s mid args below meth c' H locs cells slots D cA ad base lsC Qf hC hH hS h1 h2 hl hF
theorem Wp.arraylength {o t N : Nat} (hd : decode (mdC M) pc = .ok (.arraylength, 1)) (hkd : kd o = (t, N)) (ht : t = 100 ∨ t = 101) (ho : o < n) (kk : Wp M (pc + 1) ls (vi (N : Int) :: st) (I, L, R, n) bd Q) : Wp M pc ls (vr (some o) :: st) (I, L, R, n) bd Q := by
  intro p l e RR s mid args below meth c' H locs cells slots D cA ad base lsC Qf hC hH hS h1 h2 hl hF
  have hat := hH.2.2 o ho
  have had := hC.2.2.2.2.2.2.2.2.2.2.2.2.2.1 o (Nat.lt_of_lt_of_le ho hH.2.1)
  show W p l e RR s mid args below meth c' H locs cells slots Qf (F0 mid pc lsC (.ref (ad o) :: _))
  rw [had]
  rcases ht with rfl | rfl
  · rw [cE_i hkd] at hat
    refine va_alen hC.1 hC.2.1 hC.2.2.2.2.2.2.1 (w_one hat) 0 0 rfl rfl (v := Int32.ofInt (N : Int)) rfl hd ?_
    exact kk p l e RR s mid args below meth c' H locs cells slots D cA ad base lsC Qf hC hH hS h1 h2 hl hF
  · rw [cE_l hkd] at hat
    refine va_alen hC.1 hC.2.1 hC.2.2.2.2.2.2.1 (w_one hat) 0 1 rfl rfl (v := Int32.ofInt (N : Int)) rfl hd ?_
    exact kk p l e RR s mid args below meth c' H locs cells slots D cA ad base lsC Qf hC hH hS h1 h2 hl hF
/-- the law's script -/
theorem Wp.sld {N : Nat} {xs : Nat → Int32} {z : Int} (hX : mdX M = some (N, xs)) (hd : decode (mdC M) pc = .ok (.iaload, 1)) (hz0 : 0 ≤ z) (hz1 : z < N) (hN : N < 100000) (kk : Wp M (pc + 1) ls (vi (xs z.toNat).toInt :: st) (I, L, R, n) bd Q) : Wp M pc ls (vi z :: vr (some 1000000) :: st) (I, L, R, n) bd Q := by
  intro p l e RR s mid args below meth c' H locs cells slots D cA ad base lsC Qf hC hH hS h1 h2 hl hF
  have hsc := hC.2.2.2.2.2.2.2.2.2.2.2.2.2.2
  rw [hX] at hsc
  have hbs := hC.2.2.2.2.2.2.2.2.2.2.2.2.1
  refine va_sld hC.1 hC.2.1 hsc.1 (Nat.lt_of_lt_of_le hsc.2 hbs) (A := fun q => base ≤ q) (Nat.not_le.mpr hsc.2) hS (w_in hz0 hz1 (by omega)) hd ?_
  rw [w_clamp hz0 (by omega)]
  show W p l e RR s mid args below meth c' H locs cells slots Qf (F0 mid (pc + 1) lsC (.int (xs z.toNat) :: _))
  rw [← w_toInt (xs z.toNat)]
  exact kk p l e RR s mid args below meth c' H locs cells slots D cA ad base lsC Qf hC hH hS h1 h2 hl hF
theorem Wp.slen {N : Nat} {xs : Nat → Int32} (hX : mdX M = some (N, xs)) (hd : decode (mdC M) pc = .ok (.arraylength, 1)) (kk : Wp M (pc + 1) ls (vi (N : Int) :: st) (I, L, R, n) bd Q) : Wp M pc ls (vr (some 1000000) :: st) (I, L, R, n) bd Q := by
  intro p l e RR s mid args below meth c' H locs cells slots D cA ad base lsC Qf hC hH hS h1 h2 hl hF
  have hsc := hC.2.2.2.2.2.2.2.2.2.2.2.2.2.2
  rw [hX] at hsc
  have hbs := hC.2.2.2.2.2.2.2.2.2.2.2.2.1
  refine va_slen hC.1 hC.2.1 hsc.1 (Nat.lt_of_lt_of_le hsc.2 hbs) (A := fun q => base ≤ q) (Nat.not_le.mpr hsc.2) hS hd ?_
  exact kk p l e RR s mid args below meth c' H locs cells slots D cA ad base lsC Qf hC hH hS h1 h2 hl hF
theorem w_upd {f : Nat → Int → Int} {o : Nat} {z v : Int} (hz : 0 ≤ z) (j : Nat) : updV (fun j => Value.int (Int32.ofInt (f o (j : Int)))) z.toNat (.int (Int32.ofInt v)) j = Value.int (Int32.ofInt (up f o z v o (j : Int))) := by
  unfold updV up
  by_cases h : j = z.toNat
  · subst h
    rw [if_pos rfl, if_pos ⟨rfl, by omega⟩]
  · rw [if_neg h, if_neg (fun q => h (by omega))]
theorem w_updL {f : Nat → Int → BitVec 64} {o : Nat} {z : Int} {v : BitVec 64} (hz : 0 ≤ z) (j : Nat) : updV (fun j => Value.long (Int64.ofBitVec (f o (j : Int)))) z.toNat (.long (Int64.ofBitVec v)) j = Value.long (Int64.ofBitVec (up f o z v o (j : Int))) := by
  unfold updV up
  by_cases h : j = z.toNat
  · subst h
    rw [if_pos rfl, if_pos ⟨rfl, by omega⟩]
  · rw [if_neg h, if_neg (fun q => h (by omega))]
theorem w_updR {f : Nat → Int → Option Nat} {ad : Nat → Nat} {o v a : Nat} {z : Int} (hz : 0 ≤ z) (ha : ad v = a) (j : Nat) : updV (fun j => va_rf ((f o (j : Int)).map ad)) z.toNat (.ref a) j = va_rf ((up f o z (some v) o (j : Int)).map ad) := by
  subst ha
  unfold updV up
  by_cases h : j = z.toNat
  · subst h
    rw [if_pos rfl, if_pos ⟨rfl, by omega⟩]; rfl
  · rw [if_neg h, if_neg (fun q => h (by omega))]
theorem Wp.iastore {o N : Nat} {z v : Int} (hd : decode (mdC M) pc = .ok (.iastore, 1)) (hkd : kd o = (100, N)) (ho : o < n) (hz0 : 0 ≤ z) (hz1 : z < N) (kk : Wp M (pc + 1) ls st (up I o z v, L, R, n) bd Q) : Wp M pc ls (vi v :: vi z :: vr (some o) :: st) (I, L, R, n) bd Q := by
  intro p l e RR s mid args below meth c' H locs cells slots D cA ad base lsC Qf hC hH hS h1 h2 hl hF
  have hN : N < 100000 := by have := kd_lt o; rw [hkd] at this; exact this
  have hat := hH.2.2 o ho
  rw [cE_i hkd] at hat
  have had := hC.2.2.2.2.2.2.2.2.2.2.2.2.2.1 o (Nat.lt_of_lt_of_le ho hH.2.1)
  have hK := hC.2.2.2.2.2.2.1
  show W p l e RR s mid args below meth c' H locs cells slots Qf (F0 mid pc lsC (.int (Int32.ofInt v) :: .int (Int32.ofInt z) :: .ref (ad o) :: _))
  rw [had]
  refine W.iast hC.1 hC.2.1 hat ((hK.2 0 _ rfl).1 N (fun j => .int (Int32.ofInt (I o j)))) (fun q => by cases q) (by show ¬ (_ ∨ (arrV _ _ _).slots.size ≤ _); rw [arrV_size]; exact w_in hz0 hz1 (show N < 2147483648 by omega)) rfl rfl hd fun H1 e1 e2 e3 => ?_
  refine kk p l e RR s mid args below meth c' H1 _ cells slots D cA ad base lsC Qf hC (hH.set rfl (fun o' h => ⟨fun k' => up_o I _ _ _ h, fun _ => rfl, fun _ => rfl⟩) e2 e3 ?_) (hS.put e2 e3 (Nat.le_add_right _ _)) h1 h2 hl hF
  rw [cE_i hkd]
  show H1[base + o]? = some (vp_cell _ _)
  rw [e1, vp_cell_i, vp_cell_i, arrV_store, w_clamp hz0 (by omega)]
  congr 2
  funext j
  exact w_upd hz0 j
theorem Wp.bastore {o N : Nat} {z v : Int} (hd : decode (mdC M) pc = .ok (.bastore, 1)) (hkd : kd o = (102, N)) (ho : o < n) (hz0 : 0 ≤ z) (hz1 : z < N) (hv : v = 0 ∨ v = 1) (kk : Wp M (pc + 1) ls st (up I o z v, L, R, n) bd Q) : Wp M pc ls (vi v :: vi z :: vr (some o) :: st) (I, L, R, n) bd Q := by
  intro p l e RR s mid args below meth c' H locs cells slots D cA ad base lsC Qf hC hH hS h1 h2 hl hF
  have hN : N < 100000 := by have := kd_lt o; rw [hkd] at this; exact this
  have hat := hH.2.2 o ho
  rw [cE_z hkd] at hat
  have had := hC.2.2.2.2.2.2.2.2.2.2.2.2.2.1 o (Nat.lt_of_lt_of_le ho hH.2.1)
  have hK := hC.2.2.2.2.2.2.1
  show W p l e RR s mid args below meth c' H locs cells slots Qf (F0 mid pc lsC (.int (Int32.ofInt v) :: .int (Int32.ofInt z) :: .ref (ad o) :: _))
  rw [had]
  refine W.zast hC.1 hC.2.1 hat ((hK.2 2 _ rfl).1 N (fun j => .int (Int32.ofInt (I o j)))) (fun q => by cases q) (by show ¬ (_ ∨ (arrV _ _ _).slots.size ≤ _); rw [arrV_size]; exact w_in hz0 hz1 (show N < 2147483648 by omega)) rfl rfl hd fun H1 e1 e2 e3 => ?_
  refine kk p l e RR s mid args below meth c' H1 _ cells slots D cA ad base lsC Qf hC (hH.set rfl (fun o' h => ⟨fun k' => up_o I _ _ _ h, fun _ => rfl, fun _ => rfl⟩) e2 e3 ?_) (hS.put e2 e3 (Nat.le_add_right _ _)) h1 h2 hl hF
  have hn : narrow .boolean (.int (Int32.ofInt v)) = .int (Int32.ofInt v) := by rcases hv with rfl | rfl <;> rfl
  rw [cE_z hkd]
  show H1[base + o]? = some (vp_cell _ _)
  rw [e1, hn, vp_cell_i, vp_cell_i, arrV_store, w_clamp hz0 (by omega)]
  congr 2
  funext j
  exact w_upd hz0 j
theorem Wp.lastore {o N : Nat} {z : Int} {v : BitVec 64} (hd : decode (mdC M) pc = .ok (.lastore, 1)) (hkd : kd o = (101, N)) (ho : o < n) (hz0 : 0 ≤ z) (hz1 : z < N) (kk : Wp M (pc + 1) ls st (I, up L o z v, R, n) bd Q) : Wp M pc ls (vl v :: vi z :: vr (some o) :: st) (I, L, R, n) bd Q := by
  intro p l e RR s mid args below meth c' H locs cells slots D cA ad base lsC Qf hC hH hS h1 h2 hl hF
  have hN : N < 100000 := by have := kd_lt o; rw [hkd] at this; exact this
  have hat := hH.2.2 o ho
  rw [cE_l hkd] at hat
  have had := hC.2.2.2.2.2.2.2.2.2.2.2.2.2.1 o (Nat.lt_of_lt_of_le ho hH.2.1)
  have hK := hC.2.2.2.2.2.2.1
  show W p l e RR s mid args below meth c' H locs cells slots Qf (F0 mid pc lsC (.long (Int64.ofBitVec v) :: .int (Int32.ofInt z) :: .ref (ad o) :: _))
  rw [had]
  refine W.last hC.1 hC.2.1 hat ((hK.2 1 _ rfl).1 N (fun j => .long (Int64.ofBitVec (L o j)))) (fun q => by cases q) (by show ¬ (_ ∨ (arrV _ _ _).slots.size ≤ _); rw [arrV_size]; exact w_in hz0 hz1 (show N < 2147483648 by omega)) rfl rfl hd fun H1 e1 e2 e3 => ?_
  refine kk p l e RR s mid args below meth c' H1 _ cells slots D cA ad base lsC Qf hC (hH.set rfl (fun o' h => ⟨fun _ => rfl, fun k' => up_o L _ _ _ h, fun _ => rfl⟩) e2 e3 ?_) (hS.put e2 e3 (Nat.le_add_right _ _)) h1 h2 hl hF
  rw [cE_l hkd]
  show H1[base + o]? = some (vp_cell _ _)
  rw [e1, vp_cell_l, vp_cell_l, arrV_store, w_clamp hz0 (by omega)]
  congr 2
  funext j
  exact w_updL hz0 j
theorem Wp.aastore {o N v : Nat} {z : Int} (hd : decode (mdC M) pc = .ok (.aastore, 1)) (hkd : kd o = (103, N)) (ho : o < n) (hz0 : 0 ≤ z) (hz1 : z < N) (hvk : kd v = (0, 13)) (hv : v < n) (kk : Wp M (pc + 1) ls st (I, L, up R o z (some v), n) bd Q) : Wp M pc ls (vr (some v) :: vi z :: vr (some o) :: st) (I, L, R, n) bd Q := by
  intro p l e RR s mid args below meth c' H locs cells slots D cA ad base lsC Qf hC hH hS h1 h2 hl hF
  have hN : N < 100000 := by have := kd_lt o; rw [hkd] at this; exact this
  have hat := hH.2.2 o ho
  rw [cE_r hkd] at hat
  have hav := hH.2.2 v hv
  rw [cE_o hvk (by omega)] at hav
  have had := hC.2.2.2.2.2.2.2.2.2.2.2.2.2.1 o (Nat.lt_of_lt_of_le ho hH.2.1)
  have hadv := hC.2.2.2.2.2.2.2.2.2.2.2.2.2.1 v (Nat.lt_of_lt_of_le hv hH.2.1)
  have hK := hC.2.2.2.2.2.2.1
  show W p l e RR s mid args below meth c' H locs cells slots Qf (F0 mid pc lsC (.ref (ad v) :: .int (Int32.ofInt z) :: .ref (ad o) :: _))
  rw [had, hadv]
  obtain ⟨r', hr', cellV, g1, g2, g3, -⟩ := hav
  have hcls := (hK.1 0 _ (wCl_get (by omega))).2
  obtain ⟨kA, comp, k1, k2, k3, -⟩ := (hK.2 3 _ rfl).2
  have hcomp : comp = D.1 0 := Option.some.inj (k3.symm.trans hcls.1)
  subst hcomp
  obtain ⟨kC, hkC, -⟩ := id hcls.2
  have hin := w_in hz0 hz1 (show N < 2147483648 by omega)
  refine W.aast hC.1 hC.2.1 hat (fun q h => by cases h) (fun h => by cases h) k1 k2 rfl hkC ⟨fun q => hin (Or.inl q), by show _ < (arrV _ _ _).slots.size; rw [arrV_size]; exact Nat.not_le.mp (fun q => hin (Or.inr q))⟩ g1 (fun q h => by rw [g3] at h; cases h) (by rw [g2]; exact hkC) (by rw [g2]; exact va_assign hcls) rfl rfl hd fun H1 e1 e2 e3 => ?_
  refine kk p l e RR s mid args below meth c' H1 _ cells slots D cA ad base lsC Qf hC (hH.set rfl (fun o' h => ⟨fun _ => rfl, fun _ => rfl, fun k' => up_o R _ _ _ h⟩) e2 e3 ?_) (hS.put e2 e3 (Nat.le_add_right _ _)) h1 h2 hl hF
  rw [cE_r hkd]
  show H1[base + o]? = some (vp_cell _ _)
  rw [e1, vp_cell_q, vp_cell_q, arrV_store, w_clamp hz0 (by omega)]
  congr 2
  funext j
  exact w_updR hz0 hadv j
/-! new cells -/
theorem Hp.push {D : va_G} {cA : Nat → ClassId} {ad : Nat → Nat} {base : Nat} {m m' : Mm} {H H1 : Heap} (h : Hp D cA ad base m H) (hn : m'.2.2.2 = m.2.2.2 + 1) (hlim : m.2.2.2 + 1 ≤ 1000000)
    (heq : ∀ o', o' ≠ m.2.2.2 → (∀ k, m'.1 o' k = m.1 o' k) ∧ (∀ k, m'.2.1 o' k = m.2.1 o' k) ∧ ∀ k, m'.2.2.1 o' k = m.2.2.1 o' k) (z : H1.size = H.size + 1) (oq : ∀ q, q < H.size → H1[q]? = H[q]?) (e : va_at D wCl (base + m.2.2.2, cE cA ad m' m.2.2.2) H1) : Hp D cA ad base m' H1 := by
  refine ⟨by rw [z, hn, h.1]; omega, by rw [hn]; exact hlim, fun o' ho' => ?_⟩
  by_cases hq : o' = m.2.2.2
  · subst hq; exact e
  · obtain ⟨a1, a2, a3⟩ := heq o' hq
    rw [cE_congr a1 a2 a3]
    exact (h.2.2 o' (by omega)).kept (oq _ (by show base + o' < _; rw [h.1]; omega))
theorem w_SN {A : Nat → Prop} {H0 H H1 : Heap} {locs : List Loc} (h : va_S A H0 H locs) (z : H1.size = H.size + 1) (oq : ∀ q, q < H.size → H1[q]? = H[q]?) : va_S A H0 H1 locs :=
  ⟨Nat.le_trans h.1 (by omega), fun q h1 h2 => (oq q (Nat.lt_of_lt_of_le h1 h.1)).trans (h.2.1 q h1 h2), h.2.2⟩
theorem zr_o {α : Type} (f : Nat → Int → α) {o o' : Nat} (v : α) (k : Int) (h : o' ≠ o) : zr f o v o' k = f o' k := by simp [zr, h]
theorem zr_s {α : Type} (f : Nat → Int → α) (o : Nat) (v : α) (k : Int) : zr f o v o k = v := by simp [zr]
abbrev wZ (I : Nat → Int → Int) (L : Nat → Int → BitVec 64) (R : Nat → Int → Option Nat) (n : Nat) : Mm := (zr I n 0, zr L n 0#64, zr R n none, n + 1)
theorem wZ_eq (I : Nat → Int → Int) (L : Nat → Int → BitVec 64) (R : Nat → Int → Option Nat) (n : Nat) : ∀ o', o' ≠ n → (∀ k, (wZ I L R n).1 o' k = I o' k) ∧ (∀ k, (wZ I L R n).2.1 o' k = L o' k) ∧ ∀ k, (wZ I L R n).2.2.1 o' k = R o' k :=
  fun o' h => ⟨fun k => zr_o I 0 k h, fun k => zr_o L 0#64 k h, fun k => zr_o R none k h⟩
def wNew (own : String) (idx c : Nat) : Prop := c < 13 ∧ Cond.classLink own idx (fCC c) ∈ wGt ∧ Cond.instantiable (fCC c) (fNN c) ∈ wGt ∧ Cond.initialized (fCC c) ∈ wGt
def okTy : FieldType → Bool
  | .int => true
  | .boolean => true
  | .long => true
  | .object _ => true
  | .array _ => true
  | _ => false
theorem wTyOk : ∀ c, c < 13 → ∀ k, k < fNN c → okTy (fTy c k) = true := by decide +kernel
theorem Wp.new {idx c : Nat} (hd : decode (mdC M) pc = .ok (.new idx, 3)) (hw : wNew (mdY M).cls idx c) (hkd : kd n = (c, fNN c)) (hlim : n + 1 ≤ 1000000) (kk : Wp M (pc + 3) ls (vr (some n) :: st) (wZ I L R n) bd Q) : Wp M pc ls st (I, L, R, n) (bd.1 + 1, bd.2 + fNN c) Q := by
  intro p l e RR s mid args below meth c' H locs cells slots D cA ad base lsC Qf hC hH hS h1 h2 hl hF
  obtain ⟨hc, w1, w2, w3⟩ := hw
  have hts := hC.2.2.2.2.1
  have hK := hC.2.2.2.2.2.2.1
  have hKn := hK.1 c _ (wCl_get hc)
  have had := hC.2.2.2.2.2.2.2.2.2.2.2.2.2.1 n (by omega)
  dsimp only at h1 h2
  refine W.newcK hC.1 hC.2.1 hC.2.2.2.1 (hts _ w1) (hts _ w2) (hts _ w3) rfl hd (by omega) (by omega) hKn.2.1 hH.1 fun H1 kC hkC e1 z1 o1 => ?_
  have z2 : H1.size = H.size + 1 := by rw [z1, hH.1]
  have o2 : ∀ q, q < H.size → H1[q]? = H[q]? := fun q hq => o1 q (by rw [← hH.1]; exact hq)
  have hH1 : Hp D cA ad base (wZ I L R n) H1 := by
    refine hH.push rfl hlim (wZ_eq I L R n) z2 o2 ?_
    rw [cE_o hkd hc]
    refine ⟨_, wCl_get hc, (u_born (fTy c) hts (wLay hc) hKn hkC e1 (wTyp c hc)).to (fun j hj => ?_)⟩
    show _ = vp_V (cFs ad (wZ I L R n) c n (fNN c)) j
    have e4 : vp_V (cFs ad (wZ I L R n) c n (fNN c)) j = fv ad (wZ I L R n) (fTy c j) n j := by simp only [vp_V, cFs, List.getD_eq_getElem?_getD, List.getElem?_map, List.getElem?_range hj]; rfl
    rw [e4]
    have hok := wTyOk c hc j hj
    generalize fTy c j = ty at hok
    have hz0 : Value.int (Int32.ofInt (zr I n 0 n j)) = .int 0 := by rw [zr_s]; rfl
    have hz1 : Value.long (Int64.ofBitVec (zr L n 0#64 n j)) = .long 0 := by rw [zr_s]; rfl
    have hz2 : va_rf ((zr R n none n j).map ad) = .null := by rw [zr_s]; rfl
    cases ty <;> first | (simp [okTy] at hok; done) | exact hz0.symm | exact hz1.symm | exact hz2.symm
  have hk := kk p l e RR s mid args below meth c' H1 locs (cells + 1) (slots + fNN c) D cA ad base lsC Qf hC hH1 (w_SN hS z2 o2) (by omega) (by omega) hl (by
    intro r m' H' locs' pc' lsC' a1 a2 a3 a4
    have := hF r m' H' locs' pc' lsC' a1 a2 a3 a4
    rw [show cells + 1 + bd.1 = cells + (bd.1 + 1) by omega, show slots + fNN c + bd.2 = slots + (bd.2 + fNN c) by omega]
    exact this)
  have he : (F0 mid (pc + 3) lsC (List.map (cv ad) (vr (some n) :: st))) = F0 mid (pc + 3) lsC (.ref (base + n) :: List.map (cv ad) st) := by
    show F0 mid (pc + 3) lsC (.ref (ad n) :: _) = _
    rw [had]
  rw [he] at hk
  exact hk

theorem w_hF {p : Program} {l : Launch} {e : Env} {RR : Room} {s : State} {mid : MethodId} {args : Array Value} {below : List Frame} {meth : Method} {cc : Code} {cells slots a b : Nat} {D : va_G} {cA : Nat → ClassId} {ad : Nat → Nat} {base : Nat} {Qf : State → Prop} {bd bd0 : Nat × Nat} (e1 : bd0 = (bd.1 + a, bd.2 + b))
    (hF : ∀ (r : Option AV) (m' : Mm) (H' : Heap) (locs' : List Loc) (pc' : Nat) (lsC' : Array Slot), Q r m' → Hp D cA ad base m' H' → va_S (fun q => base ≤ q) s.heap H' locs' → wRet M pc' r →
      W p l e RR s mid args below meth cc H' locs' (cells + bd0.1) (slots + bd0.2) Qf (F0 mid pc' lsC' (r.toList.map (cv ad)))) :
    ∀ (r : Option AV) (m' : Mm) (H' : Heap) (locs' : List Loc) (pc' : Nat) (lsC' : Array Slot), Q r m' → Hp D cA ad base m' H' → va_S (fun q => base ≤ q) s.heap H' locs' → wRet M pc' r →
      W p l e RR s mid args below meth cc H' locs' (cells + a + bd.1) (slots + b + bd.2) Qf (F0 mid pc' lsC' (r.toList.map (cv ad))) := by
  intro r m' H' locs' pc' lsC' a1 a2 a3 a4
  have := hF r m' H' locs' pc' lsC' a1 a2 a3 a4
  subst e1
  rw [show cells + a + bd.1 = cells + (bd.1 + a) by omega, show slots + b + bd.2 = slots + (bd.2 + b) by omega]
  exact this
/-- newarray: the array's class is the one that the context knows -/
theorem w_newa {p : Program} {l : Launch} {e : Env} {RR : Room} {s : State} {mid : MethodId} {args : Array Value} {below : List Frame} {meth : Method} {cc : Code} {H : Heap} {locs : List Loc} {cells slots : Nat} {D : va_G} {cA : Nat → ClassId} {ad : Nat → Nat} {base : Nat} {lsC : Array Slot} {Qf : State → Prop} {atype : ArrayType} {N t0 : Nat} {z : Int} {a0 : vp_A} {rest : List Value}
    (hC : wCx M p RR s mid args meth cc D cA ad base) (hH : Hp D cA ad base (I, L, R, n) H) (hS : va_S (fun q => base ≤ q) s.heap H locs) (hd : decode (mdC M) pc = .ok (.newarray atype, 2)) (hw : Cond.arrayClass (newarray.typeOf atype) ∈ wGt) (ht : (wTys cA)[t0]? = some (cA t0, newarray.typeOf atype))
    (hz : z = N) (hN : N < 100000) (hlim : n + 1 ≤ 1000000) (hcb : componentBytes (newarray.typeOf atype) ≤ 8) (hcE : cE cA ad (wZ I L R n) n = .inl (cA t0, a0)) (ha : vp_cell (cA t0) a0 = arrV (cA t0) N (fun _ => defaultValue (newarray.typeOf atype))) (hc1 : cells + 1 ≤ RR.cells) (hs1 : slots + N ≤ RR.slots)
    (hra : ∀ cB, va_RA s cB (newarray.typeOf atype) = (s.vm.findClass ("[" ++ (newarray.typeOf atype).toString) = some cB))
    (kk : ∀ H1 : Heap, Hp D cA ad base (wZ I L R n) H1 → va_S (fun q => base ≤ q) s.heap H1 locs → W p l e RR s mid args below meth cc H1 locs (cells + 1) (slots + N) Qf (F0 mid (pc + 2) lsC (.ref (ad n) :: rest))) : W p l e RR s mid args below meth cc H locs cells slots Qf (F0 mid pc lsC (.int (Int32.ofInt z) :: rest)) := by
  subst hz
  have hts := hC.2.2.2.2.1
  have hK := hC.2.2.2.2.2.2.1
  have had := hC.2.2.2.2.2.2.2.2.2.2.2.2.2.1 n (by omega)
  refine va_newaK hC.1 hC.2.1 (hts _ hw) rfl hd rfl (N := N) (fun q => by rw [← w_zero, w_lt ⟨by omega, by omega⟩ inR_0] at q; omega) (by rw [w_clamp (by omega) (by omega)]; rfl) (Nat.le_trans (Nat.mul_le_mul (Nat.le_of_lt hN) hcb) (by omega)) hc1 hs1 hH.1 fun H1 cB e1 z1 o1 hAr hNm => ?_
  have hcB : cB = cA t0 := by
    have h2 := (hK.2 t0 _ ht).2
    rw [hra] at h2
    exact Option.some.inj (hNm.symm.trans h2)
  subst hcB
  have z2 : H1.size = H.size + 1 := by rw [z1, hH.1]
  have o2 : ∀ q, q < H.size → H1[q]? = H[q]? := fun q hq => o1 q (by rw [← hH.1]; exact hq)
  have hk := kk H1 (by
    refine hH.push rfl hlim (wZ_eq I L R n) z2 o2 ?_
    show va_at D wCl (base + n, cE cA ad (wZ I L R n) n) H1
    rw [hcE]
    show H1[base + n]? = some (vp_cell _ _)
    rw [ha]
    exact e1) (w_SN hS z2 o2)
  rw [had] at hk
  exact hk
theorem Wp.newI {N : Nat} {z : Int} (hd : decode (mdC M) pc = .ok (.newarray .int, 2)) (hw : Cond.arrayClass .int ∈ wGt) (hkd : kd n = (100, N)) (hz : z = N) (hlim : n + 1 ≤ 1000000) (kk : Wp M (pc + 2) ls (vr (some n) :: st) (wZ I L R n) bd Q) : Wp M pc ls (vi z :: st) (I, L, R, n) (bd.1 + 1, bd.2 + N) Q := by
  intro p l e RR s mid args below meth c' H locs cells slots D cA ad base lsC Qf hC hH hS h1 h2 hl hF
  have hN : N < 100000 := by have := kd_lt n; rw [hkd] at this; exact this
  dsimp only at h1 h2
  refine w_newa (atype := .int) (t0 := 0) hC hH hS hd hw rfl hz hN hlim (by decide) (cE_i hkd) ?_ (by omega) (by omega) (fun _ => rfl) (fun H1 hH1 hS1 => ?_)
  · rw [vp_cell_i]
    congr 1
    funext j
    show Value.int (Int32.ofInt (zr I n 0 n j)) = .int 0
    rw [zr_s]; rfl
  · exact kk p l e RR s mid args below meth c' H1 locs (cells + 1) (slots + N) D cA ad base lsC Qf hC hH1 hS1 (by omega) (by omega) hl (w_hF rfl hF)
theorem Wp.newZ {N : Nat} {z : Int} (hd : decode (mdC M) pc = .ok (.newarray .boolean, 2)) (hw : Cond.arrayClass .boolean ∈ wGt) (hkd : kd n = (102, N)) (hz : z = N) (hlim : n + 1 ≤ 1000000) (kk : Wp M (pc + 2) ls (vr (some n) :: st) (wZ I L R n) bd Q) : Wp M pc ls (vi z :: st) (I, L, R, n) (bd.1 + 1, bd.2 + N) Q := by
  intro p l e RR s mid args below meth c' H locs cells slots D cA ad base lsC Qf hC hH hS h1 h2 hl hF
  have hN : N < 100000 := by have := kd_lt n; rw [hkd] at this; exact this
  dsimp only at h1 h2
  refine w_newa (atype := .boolean) (t0 := 2) hC hH hS hd hw rfl hz hN hlim (by decide) (cE_z hkd) ?_ (by omega) (by omega) (fun _ => rfl) (fun H1 hH1 hS1 => ?_)
  · rw [vp_cell_i]
    congr 1
    funext j
    show Value.int (Int32.ofInt (zr I n 0 n j)) = .int 0
    rw [zr_s]; rfl
  · exact kk p l e RR s mid args below meth c' H1 locs (cells + 1) (slots + N) D cA ad base lsC Qf hC hH1 hS1 (by omega) (by omega) hl (w_hF rfl hF)
theorem Wp.newL {N : Nat} {z : Int} (hd : decode (mdC M) pc = .ok (.newarray .long, 2)) (hw : Cond.arrayClass .long ∈ wGt) (hkd : kd n = (101, N)) (hz : z = N) (hlim : n + 1 ≤ 1000000) (kk : Wp M (pc + 2) ls (vr (some n) :: st) (wZ I L R n) bd Q) : Wp M pc ls (vi z :: st) (I, L, R, n) (bd.1 + 1, bd.2 + N) Q := by
  intro p l e RR s mid args below meth c' H locs cells slots D cA ad base lsC Qf hC hH hS h1 h2 hl hF
  have hN : N < 100000 := by have := kd_lt n; rw [hkd] at this; exact this
  dsimp only at h1 h2
  refine w_newa (atype := .long) (t0 := 1) hC hH hS hd hw rfl hz hN hlim (by decide) (cE_l hkd) ?_ (by omega) (by omega) (fun _ => rfl) (fun H1 hH1 hS1 => ?_)
  · rw [vp_cell_l]
    congr 1
    funext j
    show Value.long (Int64.ofBitVec (zr L n 0#64 n j)) = .long 0
    rw [zr_s]; rfl
  · exact kk p l e RR s mid args below meth c' H1 locs (cells + 1) (slots + N) D cA ad base lsC Qf hC hH1 hS1 (by omega) (by omega) hl (w_hF rfl hF)
theorem Wp.newR {N idx : Nat} {z : Int} (hd : decode (mdC M) pc = .ok (.anewarray idx, 3)) (hw : Cond.classLink (mdY M).cls idx RX0 ∈ wGt) (hw2 : Cond.arrayOver (.object RX0) ∈ wNw) (hkd : kd n = (103, N)) (hz : z = N) (hlim : n + 1 ≤ 1000000) (kk : Wp M (pc + 3) ls (vr (some n) :: st) (wZ I L R n) bd Q) : Wp M pc ls (vi z :: st) (I, L, R, n) (bd.1 + 1, bd.2 + N) Q := by
  intro p l e RR s mid args below meth c' H locs cells slots D cA ad base lsC Qf hC hH hS h1 h2 hl hF
  subst hz
  have hN : N < 100000 := by have := kd_lt n; rw [hkd] at this; exact this
  dsimp only at h1 h2
  have hts := hC.2.2.2.2.1
  have hK := hC.2.2.2.2.2.2.1
  have had := hC.2.2.2.2.2.2.2.2.2.2.2.2.2.1 n (by omega)
  have hcl : (Int32.ofInt (N : Int)).toNatClampNeg = N := by rw [w_clamp (by omega) (by omega)]; rfl
  refine W.anew (n := Int32.ofInt (N : Int)) (rest := List.map (cv ad) st) hC.1 hC.2.1 hC.2.2.2.1 (hts _ hw) (va_AO.use (hC.2.2.2.2.2.1 _ hw2)) rfl hd rfl (fun q => by rw [← w_zero, w_lt ⟨by omega, by omega⟩ inR_0] at q; omega) (by rw [hcl]; omega) (by omega) (by rw [hcl]; omega) fun cB kA comp f1 f2 f3 f4 => ?_
  have hcB : cB = cA 3 := by
    obtain ⟨kA', comp', g1, g2, g3, g4⟩ := (hK.2 3 _ rfl).2
    exact Option.some.inj (f1.symm.trans g4)
  subst hcB
  rw [hcl]
  generalize hH1 : H.push ({ cls := cA 3, slots := Array.replicate N .null, vm := .none } : Cell) = H1
  have z2 : H1.size = H.size + 1 := by rw [← hH1, Array.size_push]
  have e1 : H1[H.size]? = some (arrV (cA 3) N (fun _ => .null)) := by rw [← hH1, Array.getElem?_push_size, ← arrV_new]
  have o2 : ∀ q : Nat, q < H.size → H1[q]? = H[q]? := fun q hq => by rw [← hH1, Array.getElem?_push, if_neg (Nat.ne_of_lt hq)]
  have hHH : Hp D cA ad base (wZ I L R n) H1 := by
    refine hH.push rfl hlim (wZ_eq I L R n) z2 o2 ?_
    show va_at D wCl (base + n, cE cA ad (wZ I L R n) n) H1
    rw [cE_r hkd]
    show H1[base + n]? = some (vp_cell _ _)
    rw [vp_cell_q]
    have e3 : (fun j : Nat => va_rf ((fun k : Nat => ((wZ I L R n).2.2.1 n (k : Int)).map ad) j)) = fun _ => Value.null := by
      funext j
      show va_rf ((zr R n none n j).map ad) = .null
      rw [zr_s]; rfl
    rw [e3, show base + n = H.size from hH.1.symm]
    exact e1
  have hk := kk p l e RR s mid args below meth c' H1 locs (cells + 1) (slots + N) D cA ad base lsC Qf hC hHH (w_SN hS z2 o2) (by omega) (by omega) hl (w_hF rfl hF)
  have he : (F0 mid (pc + 3) lsC (List.map (cv ad) (vr (some n) :: st))) = F0 mid (pc + 3) lsC (.ref H.size :: List.map (cv ad) st) := by
    show F0 mid (pc + 3) lsC (.ref (ad n) :: _) = _
    rw [had, show H.size = base + n from hH.1]
  rw [he] at hk
  exact hk
