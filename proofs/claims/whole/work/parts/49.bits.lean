/-! ===== how many bits are set, as the JDK counts ===== -/
/-- k bytes, each of them c -/
def m8 (c : Nat) : Nat → Nat
  | 0 => 0
  | k + 1 => 256 * m8 c k + c
theorem land256 (a b r c : Nat) (hr : r < 256) (hc : c < 256) : (256 * a + r) &&& (256 * b + c) = 256 * (a &&& b) + (r &&& c) := by
  apply Nat.eq_of_testBit_eq
  intro i
  have hrc : r &&& c < 2 ^ 8 := Nat.lt_of_le_of_lt Nat.and_le_left hr
  rw [Nat.testBit_and, show 256 = 2 ^ 8 from rfl, Nat.testBit_two_pow_mul_add a (show r < 2 ^ 8 from hr) i, Nat.testBit_two_pow_mul_add b (show c < 2 ^ 8 from hc) i, Nat.testBit_two_pow_mul_add (a &&& b) hrc i]
  split
  · rw [Nat.testBit_and]
  · rw [Nat.testBit_and]
def b1 (k x : Nat) : Nat := x - ((x / 2) &&& m8 0x55 k)
def b2 (k x : Nat) : Nat := (x &&& m8 0x33 k) + ((x / 4) &&& m8 0x33 k)
def b3 (k x : Nat) : Nat := (x + x / 16) &&& m8 0x0f k
def g1 (r : Nat) : Nat := r - ((r / 2) &&& 0x55)
def g2 (r : Nat) : Nat := (r &&& 0x33) + ((r / 4) &&& 0x33)
def g3 (r : Nat) : Nat := (r + r / 16) % 16
theorem d55 : ∀ (c : Fin 2) (r : Fin 256), ((128 * c.val + r.val / 2) &&& 0x55) = ((r.val / 2) &&& 0x55) := by decide +kernel
theorem d33 : ∀ (c : Fin 4) (r : Fin 256), ((64 * c.val + r.val / 4) &&& 0x33) = ((r.val / 4) &&& 0x33) := by decide +kernel
def pb (r : Nat) : Nat := (if r.testBit 0 then 1 else 0) + (if r.testBit 1 then 1 else 0) + (if r.testBit 2 then 1 else 0) + (if r.testBit 3 then 1 else 0) + (if r.testBit 4 then 1 else 0) + (if r.testBit 5 then 1 else 0) + (if r.testBit 6 then 1 else 0) + (if r.testBit 7 then 1 else 0)
theorem dgb : ∀ r : Fin 256, g1 r.val < 256 ∧ g2 (g1 r.val) ≤ 68 ∧ g2 (g1 r.val) % 16 ≤ 4 ∧ g3 (g2 (g1 r.val)) = pb r.val ∧ pb r.val ≤ 8 := by decide +kernel
theorem b1_s (k q r : Nat) (hr : r < 256) : b1 (k + 1) (256 * q + r) = 256 * b1 k q + g1 r := by
  unfold b1 g1
  have e : (256 * q + r) / 2 = 256 * (q / 2) + (128 * (q % 2) + r / 2) := by omega
  have h1 := d55 ⟨q % 2, by omega⟩ ⟨r, hr⟩
  dsimp only at h1
  have h2 : (q / 2 &&& m8 0x55 k) ≤ q / 2 := Nat.and_le_left
  have h3 : (r / 2 &&& 0x55) ≤ r / 2 := Nat.and_le_left
  simp only [m8]
  rw [e, land256 _ _ _ _ (by omega) (by decide), h1]
  omega
theorem b2_s (k q r : Nat) (hr : r < 256) : b2 (k + 1) (256 * q + r) = 256 * b2 k q + g2 r := by
  unfold b2 g2
  have e : (256 * q + r) / 4 = 256 * (q / 4) + (64 * (q % 4) + r / 4) := by omega
  have h1 := d33 ⟨q % 4, by omega⟩ ⟨r, hr⟩
  dsimp only at h1
  simp only [m8]
  rw [e, land256 q (m8 0x33 k) r 0x33 hr (by decide), land256 (q / 4) (m8 0x33 k) _ 0x33 (by omega) (by decide), h1]
  omega
theorem b3_s (k q r : Nat) (hr : r ≤ 68) (hq : q % 16 ≤ 4) : b3 (k + 1) (256 * q + r) = 256 * b3 k q + g3 r := by
  unfold b3 g3
  have e : 256 * q + r + (256 * q + r) / 16 = 256 * (q + q / 16) + (r + r / 16 + 16 * (q % 16)) := by omega
  simp only [m8]
  rw [e, land256 _ _ _ _ (by omega) (by decide)]
  have h2 : (r + r / 16 + 16 * (q % 16)) &&& 15 = (r + r / 16 + 16 * (q % 16)) % 16 := Nat.and_two_pow_sub_one_eq_mod _ 4
  rw [h2]
  omega
theorem b21_m (k x : Nat) : b2 k (b1 k x) % 16 ≤ 4 := by
  cases k with
  | zero => unfold b2; simp [m8]
  | succ k =>
    have h := dgb ⟨x % 256, by omega⟩
    dsimp only at h
    rw [show x = 256 * (x / 256) + x % 256 by omega, b1_s _ _ _ (by omega), b2_s _ _ _ h.1]
    omega
def bP (k x : Nat) : Nat := b3 k (b2 k (b1 k x))
theorem bP_s (k q r : Nat) (hr : r < 256) : bP (k + 1) (256 * q + r) = 256 * bP k q + pb r := by
  have h := dgb ⟨r, hr⟩
  dsimp only at h
  unfold bP
  rw [b1_s _ _ _ hr, b2_s _ _ _ h.1, b3_s _ _ _ h.2.1 (b21_m k q), h.2.2.2.1]
/-- the bytes' counts of x, and their sum -/
theorem bP_8 (x : Nat) (hx : x < 2 ^ 64) : ∃ c0 c1 c2 c3 c4 c5 c6 c7 : Nat, c0 = pb (x % 256) ∧ c1 = pb (x / 2 ^ 8 % 256) ∧ c2 = pb (x / 2 ^ 16 % 256) ∧ c3 = pb (x / 2 ^ 24 % 256) ∧ c4 = pb (x / 2 ^ 32 % 256) ∧ c5 = pb (x / 2 ^ 40 % 256) ∧ c6 = pb (x / 2 ^ 48 % 256) ∧ c7 = pb (x / 2 ^ 56 % 256) ∧ bP 8 x = c0 + 256 * (c1 + 256 * (c2 + 256 * (c3 + 256 * (c4 + 256 * (c5 + 256 * (c6 + 256 * c7)))))) := by
  refine ⟨_, _, _, _, _, _, _, _, rfl, rfl, rfl, rfl, rfl, rfl, rfl, rfl, ?_⟩
  have st : ∀ (k y : Nat), bP (k + 1) y = 256 * bP k (y / 256) + pb (y % 256) := fun k y => by
    have := bP_s k (y / 256) (y % 256) (by omega)
    rw [show 256 * (y / 256) + y % 256 = y by omega] at this
    exact this
  have z : ∀ y, bP 0 y = 0 := fun y => by unfold bP b3; simp [m8]
  rw [st 7, st 6, st 5, st 4, st 3, st 2, st 1, st 0, z]
  simp only [Nat.div_div_eq_div_mul, Nat.reduceMul, Nat.reducePow]
  omega
theorem pb_8 (r : Nat) : pb r ≤ 8 := by unfold pb; (repeat' split) <;> omega
theorem pc_byte (s : BitVec 64) (j : Nat) (hj : j < 8) : pcN s (8 * j + 8) = pcN s (8 * j) + (pb (s.toNat / 2 ^ (8 * j) % 256) : Nat) := by
  have e : ∀ i : Nat, i < 8 → (s.toNat / 2 ^ (8 * j) % 256).testBit i = s.getLsbD (8 * j + i) := fun i hi => by
    rw [show 256 = 2 ^ 8 from rfl, Nat.testBit_mod_two_pow, Nat.testBit_div_two_pow]
    simp [hi, BitVec.getLsbD, Nat.add_comm]
  unfold pb
  rw [e 0 (by omega), e 1 (by omega), e 2 (by omega), e 3 (by omega), e 4 (by omega), e 5 (by omega), e 6 (by omega), e 7 (by omega)]
  show pcN s (8 * j + 7 + 1) = _
  simp only [pcN]
  generalize pcN s (8 * j) = g
  simp only [Nat.add_zero]
  (repeat' split) <;> simp <;> omega
theorem pc_64 (s : BitVec 64) (h : ∀ i : Nat, 60 ≤ i → s.getLsbD i = false) : pcN s 64 = pcN s 60 := by
  show pcN s (60 + 1 + 1 + 1 + 1) = _
  simp only [pcN]
  rw [h 60 (by omega), h (60 + 1) (by omega), h (60 + 1 + 1) (by omega), h (60 + 1 + 1 + 1) (by omega)]
  simp
theorem and127 (x : BitVec 64) : andI x.toInt 127 = ((x.toNat % 128 : Nat) : Int) := by
  have e : BitVec.ofInt 32 x.toInt = x.setWidth 32 := by
    apply BitVec.eq_of_toNat_eq
    rw [BitVec.toNat_ofInt, BitVec.toNat_setWidth]
    have h := BitVec.toInt_eq_toNat_cond x
    have h2 := x.isLt
    split at h <;> omega
  show (BitVec.ofInt 32 x.toInt &&& BitVec.ofInt 32 127).toInt = _
  rw [e]
  have h3 : (x.setWidth 32 &&& BitVec.ofInt 32 127).toNat = x.toNat % 128 := by
    rw [BitVec.toNat_and, BitVec.toNat_setWidth, show (BitVec.ofInt 32 127).toNat = 2 ^ 7 - 1 from rfl, Nat.and_two_pow_sub_one_eq_mod]
    omega
  rw [BitVec.toInt_eq_toNat_cond, h3, if_pos (by omega)]
theorem v1 (s : BitVec 64) : (s - (s >>> 1 &&& 6148914691236517205#64)).toNat = b1 8 s.toNat := by
  rw [BitVec.toNat_sub, BitVec.toNat_and, BitVec.toNat_ushiftRight, Nat.shiftRight_eq_div_pow]
  unfold b1
  rw [show m8 0x55 8 = 6148914691236517205 from rfl, show (6148914691236517205#64).toNat = 6148914691236517205 from rfl]
  have h1 : s.toNat / 2 ^ 1 &&& 6148914691236517205 ≤ s.toNat / 2 ^ 1 := Nat.and_le_left
  rw [show s.toNat / 2 ^ 1 = s.toNat / 2 by rfl] at h1 ⊢
  have h2 := s.isLt
  generalize s.toNat / 2 &&& 6148914691236517205 = g at h1 ⊢
  omega
theorem v2 (s : BitVec 64) : ((s &&& 3689348814741910323#64) + (s >>> 2 &&& 3689348814741910323#64)).toNat = b2 8 s.toNat ∧ b2 8 s.toNat ≤ 7378697629483820646 := by
  rw [BitVec.toNat_add, BitVec.toNat_and, BitVec.toNat_and, BitVec.toNat_ushiftRight, Nat.shiftRight_eq_div_pow]
  unfold b2
  rw [show m8 0x33 8 = 3689348814741910323 from rfl, show (3689348814741910323#64).toNat = 3689348814741910323 from rfl, show s.toNat / 2 ^ 2 = s.toNat / 4 by rfl]
  have h1 : s.toNat &&& 3689348814741910323 ≤ 3689348814741910323 := Nat.and_le_right
  have h2 : s.toNat / 4 &&& 3689348814741910323 ≤ 3689348814741910323 := Nat.and_le_right
  generalize s.toNat / 4 &&& 3689348814741910323 = g at h2 ⊢
  generalize s.toNat &&& 3689348814741910323 = g' at h1 ⊢
  omega
theorem v3 (s : BitVec 64) (h : s.toNat ≤ 7378697629483820646) : ((s + s >>> 4) &&& 1085102592571150095#64).toNat = b3 8 s.toNat := by
  rw [BitVec.toNat_and, BitVec.toNat_add, BitVec.toNat_ushiftRight, Nat.shiftRight_eq_div_pow]
  unfold b3
  rw [show m8 0x0f 8 = 1085102592571150095 from rfl, show (1085102592571150095#64).toNat = 1085102592571150095 from rfl, show s.toNat / 2 ^ 4 = s.toNat / 16 by rfl, Nat.mod_eq_of_lt (by omega)]
theorem v4 (s : BitVec 64) (k : Nat) (h : s.toNat + s.toNat / 2 ^ k < 2 ^ 64) : (s + s >>> k).toNat = s.toNat + s.toNat / 2 ^ k := by
  rw [BitVec.toNat_add, BitVec.toNat_ushiftRight, Nat.shiftRight_eq_div_pow, Nat.mod_eq_of_lt h]
theorem v4' (s : BitVec 64) (k B : Nat) (h : s.toNat ≤ B) (hB : B < 2 ^ 63) : (s + s >>> k).toNat = s.toNat + s.toNat / 2 ^ k ∧ (s + s >>> k).toNat ≤ 2 * B := by
  have h1 : s.toNat / 2 ^ k ≤ s.toNat := Nat.div_le_self _ _
  have h2 := v4 s k (by omega)
  exact ⟨h2, by omega⟩
theorem ub8 {c0 c1 c2 c3 c4 c5 c6 c7 u : Nat} (q0 : c0 ≤ 8) (q1 : c1 ≤ 8) (q2 : c2 ≤ 8) (q3 : c3 ≤ 8) (q4 : c4 ≤ 8) (q5 : c5 ≤ 8) (q6 : c6 ≤ 8) (q7 : c7 ≤ 8) (hu : u = c0 + 256 * (c1 + 256 * (c2 + 256 * (c3 + 256 * (c4 + 256 * (c5 + 256 * (c6 + 256 * c7))))))) : u ≤ 2 ^ 60 := by omega
theorem dv8 {a b : Nat} (h : a < 256) : (a + 256 * b) / 256 = b := by omega
theorem ad1 (c0 c1 c2 c3 c4 c5 c6 c7 : Nat) : c0 + 256 * (c1 + 256 * (c2 + 256 * (c3 + 256 * (c4 + 256 * (c5 + 256 * (c6 + 256 * c7)))))) + (c1 + 256 * (c2 + 256 * (c3 + 256 * (c4 + 256 * (c5 + 256 * (c6 + 256 * c7)))))) = (c0 + c1) + 256 * ((c1 + c2) + 256 * ((c2 + c3) + 256 * ((c3 + c4) + 256 * ((c4 + c5) + 256 * ((c5 + c6) + 256 * ((c6 + c7) + 256 * c7)))))) := by omega
theorem ad2 (c0 c1 c2 c3 c4 c5 c6 c7 : Nat) : (c0 + c1) + 256 * ((c1 + c2) + 256 * ((c2 + c3) + 256 * ((c3 + c4) + 256 * ((c4 + c5) + 256 * ((c5 + c6) + 256 * ((c6 + c7) + 256 * c7)))))) + ((c2 + c3) + 256 * ((c3 + c4) + 256 * ((c4 + c5) + 256 * ((c5 + c6) + 256 * ((c6 + c7) + 256 * c7))))) = (c0 + c1 + c2 + c3) + 256 * ((c1 + c2 + c3 + c4) + 256 * ((c2 + c3 + c4 + c5) + 256 * ((c3 + c4 + c5 + c6) + 256 * ((c4 + c5 + c6 + c7) + 256 * ((c5 + c6 + c7) + 256 * ((c6 + c7) + 256 * c7)))))) := by omega
theorem ad3 (a b A B : Nat) (ha : a ≤ 32) (hb : b ≤ 32) : (a + 256 * A + (b + 256 * B)) % 128 = a + b := by omega
theorem dd2 (r : Nat) : r / 2 ^ 16 = r / 256 / 256 := by rw [Nat.div_div_eq_div_mul]
theorem dd4 (r : Nat) : r / 2 ^ 32 = r / 256 / 256 / 256 / 256 := by rw [Nat.div_div_eq_div_mul, Nat.div_div_eq_div_mul, Nat.div_div_eq_div_mul]
theorem sum8 {c0 c1 c2 c3 c4 c5 c6 c7 u r t : Nat} (q0 : c0 ≤ 8) (q1 : c1 ≤ 8) (q2 : c2 ≤ 8) (q3 : c3 ≤ 8) (q4 : c4 ≤ 8) (q5 : c5 ≤ 8) (q6 : c6 ≤ 8) (q7 : c7 ≤ 8) (hu : u = c0 + 256 * (c1 + 256 * (c2 + 256 * (c3 + 256 * (c4 + 256 * (c5 + 256 * (c6 + 256 * c7))))))) (hr : r = u + u / 2 ^ 8) (ht : t = r + r / 2 ^ 16) : (t + t / 2 ^ 32) % 128 = c0 + c1 + c2 + c3 + (c4 + c5 + c6 + c7) := by
  have a0 : c0 < 256 := by clear hu hr ht; omega
  have a1 : c0 + c1 < 256 := by clear hu hr ht; omega
  have a2 : c1 + c2 < 256 := by clear hu hr ht; omega
  have b0 : c0 + c1 + c2 + c3 < 256 := by clear hu hr ht; omega
  have b1 : c1 + c2 + c3 + c4 < 256 := by clear hu hr ht; omega
  have b2 : c2 + c3 + c4 + c5 < 256 := by clear hu hr ht; omega
  have b3 : c3 + c4 + c5 + c6 < 256 := by clear hu hr ht; omega
  have d0 : c0 + c1 + c2 + c3 ≤ 32 := by clear hu hr ht; omega
  have d1 : c4 + c5 + c6 + c7 ≤ 32 := by clear hu hr ht; omega
  have hu3 : u / 2 ^ 8 = c1 + 256 * (c2 + 256 * (c3 + 256 * (c4 + 256 * (c5 + 256 * (c6 + 256 * c7))))) := by rw [hu]; exact dv8 a0
  rw [hu3, hu, ad1] at hr
  have hr3 : r / 2 ^ 16 = (c2 + c3) + 256 * ((c3 + c4) + 256 * ((c4 + c5) + 256 * ((c5 + c6) + 256 * ((c6 + c7) + 256 * c7)))) := by
    rw [dd2, hr, dv8 a1, dv8 a2]
  rw [hr3, hr, ad2] at ht
  have ht3 : t / 2 ^ 32 = (c4 + c5 + c6 + c7) + 256 * ((c5 + c6 + c7) + 256 * ((c6 + c7) + 256 * c7)) := by
    rw [dd4, ht, dv8 b0, dv8 b1, dv8 b2, dv8 b3]
  rw [ht3, ht]
  exact ad3 _ _ _ _ d0 d1
theorem sumP {c0 c1 c2 c3 c4 c5 c6 c7 : Nat} {z0 z1 z2 z3 z4 z5 z6 z7 z8 : Int} (pz : z0 = 0) (p0 : z1 = z0 + c0) (p1 : z2 = z1 + c1) (p2 : z3 = z2 + c2) (p3 : z4 = z3 + c3) (p4 : z5 = z4 + c4) (p5 : z6 = z5 + c5) (p6 : z7 = z6 + c6) (p7 : z8 = z7 + c7) : ((c0 + c1 + c2 + c3 + (c4 + c5 + c6 + c7) : Nat) : Int) = z8 := by omega
section
variable {m : Mm} {Q : Option AV → Mm → Prop}
theorem ct_J13 {s : BitVec 64} (hq : Q (some (vi (pcN s 64))) m) : Wp mJ13_bitCount_95d88 0 [some (vl s), none] [] m (0, 0) Q := by
  refine Wp.lload_n rfl dJ13_bitCount_95d88_0 ?_
  refine Wp.lload_n rfl dJ13_bitCount_95d88_1 ?_
  refine Wp.iconst dJ13_bitCount_95d88_2 ?_
  refine Wp.lushr (by omega) (by omega) dJ13_bitCount_95d88_3 ?_
  refine Wp.ldc2_w (b := 6148914691236517205#64) ckJ13_314 rfl dJ13_bitCount_95d88_4 ?_
  refine Wp.land dJ13_bitCount_95d88_7 ?_
  refine Wp.lsub dJ13_bitCount_95d88_8 ?_
  refine Wp.lstore_n (ls' := [_, _]) dJ13_bitCount_95d88_9 (by decide) rfl ?_
  refine Wp.lload_n rfl dJ13_bitCount_95d88_10 ?_
  refine Wp.ldc2_w (b := 3689348814741910323#64) ckJ13_316 rfl dJ13_bitCount_95d88_11 ?_
  refine Wp.land dJ13_bitCount_95d88_14 ?_
  refine Wp.lload_n rfl dJ13_bitCount_95d88_15 ?_
  refine Wp.iconst dJ13_bitCount_95d88_16 ?_
  refine Wp.lushr (by omega) (by omega) dJ13_bitCount_95d88_17 ?_
  refine Wp.ldc2_w (b := 3689348814741910323#64) ckJ13_316 rfl dJ13_bitCount_95d88_18 ?_
  refine Wp.land dJ13_bitCount_95d88_21 ?_
  refine Wp.ladd dJ13_bitCount_95d88_22 ?_
  refine Wp.lstore_n (ls' := [_, _]) dJ13_bitCount_95d88_23 (by decide) rfl ?_
  refine Wp.lload_n rfl dJ13_bitCount_95d88_24 ?_
  refine Wp.lload_n rfl dJ13_bitCount_95d88_25 ?_
  refine Wp.iconst dJ13_bitCount_95d88_26 ?_
  refine Wp.lushr (by omega) (by omega) dJ13_bitCount_95d88_27 ?_
  refine Wp.ladd dJ13_bitCount_95d88_28 ?_
  refine Wp.ldc2_w (b := 1085102592571150095#64) ckJ13_318 rfl dJ13_bitCount_95d88_29 ?_
  refine Wp.land dJ13_bitCount_95d88_32 ?_
  refine Wp.lstore_n (ls' := [_, _]) dJ13_bitCount_95d88_33 (by decide) rfl ?_
  refine Wp.lload_n rfl dJ13_bitCount_95d88_34 ?_
  refine Wp.lload_n rfl dJ13_bitCount_95d88_35 ?_
  refine Wp.bipush rfl dJ13_bitCount_95d88_36 ?_
  refine Wp.lushr (by omega) (by omega) dJ13_bitCount_95d88_38 ?_
  refine Wp.ladd dJ13_bitCount_95d88_39 ?_
  refine Wp.lstore_n (ls' := [_, _]) dJ13_bitCount_95d88_40 (by decide) rfl ?_
  refine Wp.lload_n rfl dJ13_bitCount_95d88_41 ?_
  refine Wp.lload_n rfl dJ13_bitCount_95d88_42 ?_
  refine Wp.bipush rfl dJ13_bitCount_95d88_43 ?_
  refine Wp.lushr (by omega) (by omega) dJ13_bitCount_95d88_45 ?_
  refine Wp.ladd dJ13_bitCount_95d88_46 ?_
  refine Wp.lstore_n (ls' := [_, _]) dJ13_bitCount_95d88_47 (by decide) rfl ?_
  refine Wp.lload_n rfl dJ13_bitCount_95d88_48 ?_
  refine Wp.lload_n rfl dJ13_bitCount_95d88_49 ?_
  refine Wp.bipush rfl dJ13_bitCount_95d88_50 ?_
  refine Wp.lushr (by omega) (by omega) dJ13_bitCount_95d88_52 ?_
  refine Wp.ladd dJ13_bitCount_95d88_53 ?_
  refine Wp.lstore_n (ls' := [_, _]) dJ13_bitCount_95d88_54 (by decide) rfl ?_
  refine Wp.lload_n rfl dJ13_bitCount_95d88_55 ?_
  refine Wp.l2i dJ13_bitCount_95d88_56 ?_
  refine Wp.bipush rfl dJ13_bitCount_95d88_57 ?_
  refine Wp.iand dJ13_bitCount_95d88_59 ?_
  refine Wp.ireturn dJ13_bitCount_95d88_60 rfl ?_
  refine qI hq ?_
  rw [and127]
  obtain ⟨c0, c1, c2, c3, c4, c5, c6, c7, e0, e1, e2, e3, e4, e5, e6, e7, hP⟩ := bP_8 s.toNat s.isLt
  have p0 := pc_byte s 0 (by omega)
  have p1 := pc_byte s 1 (by omega)
  have p2 := pc_byte s 2 (by omega)
  have p3 := pc_byte s 3 (by omega)
  have p4 := pc_byte s 4 (by omega)
  have p5 := pc_byte s 5 (by omega)
  have p6 := pc_byte s 6 (by omega)
  have p7 := pc_byte s 7 (by omega)
  simp only [Nat.reduceMul, Nat.reduceAdd, Nat.pow_zero, Nat.div_one, Nat.mul_zero, Nat.zero_add] at p0 p1 p2 p3 p4 p5 p6 p7
  rw [← e0] at p0; rw [← e1] at p1; rw [← e2] at p2; rw [← e3] at p3; rw [← e4] at p4; rw [← e5] at p5; rw [← e6] at p6; rw [← e7] at p7
  have q0 := pb_8 (s.toNat % 256); rw [← e0] at q0
  have q1 := pb_8 (s.toNat / 2 ^ 8 % 256); rw [← e1] at q1
  have q2 := pb_8 (s.toNat / 2 ^ 16 % 256); rw [← e2] at q2
  have q3 := pb_8 (s.toNat / 2 ^ 24 % 256); rw [← e3] at q3
  have q4 := pb_8 (s.toNat / 2 ^ 32 % 256); rw [← e4] at q4
  have q5 := pb_8 (s.toNat / 2 ^ 40 % 256); rw [← e5] at q5
  have q6 := pb_8 (s.toNat / 2 ^ 48 % 256); rw [← e6] at q6
  have q7 := pb_8 (s.toNat / 2 ^ 56 % 256); rw [← e7] at q7
  obtain ⟨y, hy⟩ : ∃ y, y = s - (s >>> (1 : Int).toNat &&& 6148914691236517205#64) := ⟨_, rfl⟩
  have hy1 : y.toNat = b1 8 s.toNat := by rw [hy]; exact v1 s
  rw [← hy]
  obtain ⟨z, hz⟩ : ∃ z, z = (y &&& 3689348814741910323#64) + (y >>> (2 : Int).toNat &&& 3689348814741910323#64) := ⟨_, rfl⟩
  have hz1 := v2 y
  rw [show ((y &&& 3689348814741910323#64) + (y >>> 2 &&& 3689348814741910323#64)) = z from hz.symm] at hz1
  rw [← hz]
  obtain ⟨u, hu⟩ : ∃ u, u = (z + z >>> (4 : Int).toNat) &&& 1085102592571150095#64 := ⟨_, rfl⟩
  have hu1 : u.toNat = b3 8 z.toNat := by rw [hu]; exact v3 z (by rw [hz1.1]; exact hz1.2)
  rw [← hu]
  have hu2 : u.toNat = bP 8 s.toNat := by rw [hu1, hz1.1, hy1]; rfl
  rw [hP] at hu2
  obtain ⟨r, hr⟩ : ∃ r, r = u + u >>> (8 : Int).toNat := ⟨_, rfl⟩
  have hub := ub8 q0 q1 q2 q3 q4 q5 q6 q7 hu2
  have hr0 := v4' u 8 _ hub (by decide)
  rw [show u + u >>> 8 = r from hr.symm] at hr0
  have hr1 := hr0.1
  rw [← hr]
  obtain ⟨t, ht⟩ : ∃ t, t = r + r >>> (16 : Int).toNat := ⟨_, rfl⟩
  have ht0 := v4' r 16 _ hr0.2 (by decide)
  rw [show r + r >>> 16 = t from ht.symm] at ht0
  have ht1 := ht0.1
  rw [← ht]
  have hw1 : (t + t >>> (32 : Int).toNat).toNat = t.toNat + t.toNat / 2 ^ 32 := (v4' t 32 _ ht0.2 (by decide)).1
  rw [hw1]
  have pz : pcN s 0 = 0 := rfl
  have hfin := sum8 q0 q1 q2 q3 q4 q5 q6 q7 hu2 hr1 ht1
  rw [hfin]
  exact sumP pz p0 p1 p2 p3 p4 p5 p6 p7
end

