/-! ===== the law: one call on both sides, alike ===== -/
def bq (n : Nat) : Nat × Nat := (113 - n, 1873 * ((113 - n) / 7))
theorem bq_s {kb : Nat} (h : kb < 8) : bq (57 + 7 * kb) = ((bq (57 + 7 * kb + 7)).1 + 7, (bq (57 + 7 * kb + 7)).2 + 1873) := by
  unfold bq
  have e : (113 - (57 + 7 * kb)) / 7 = (113 - (57 + 7 * kb + 7)) / 7 + 1 := by omega
  refine Prod.ext ?_ ?_
  · show 113 - (57 + 7 * kb) = 113 - (57 + 7 * kb + 7) + 7; omega
  · show 1873 * ((113 - (57 + 7 * kb)) / 7) = 1873 * ((113 - (57 + 7 * kb + 7)) / 7) + 1873; rw [e]; omega
section
variable {I J : Nat → Int → Int} {L K : Nat → Int → BitVec 64} {R R2 : Nat → Int → Option Nat} {n kb : Nat} {Q : Option AV → Mm → Prop}
theorem feedC {nn : Int} {b : BitVec 64} (h : SR I L R n) (hnn : inR nn) (hq : ∀ J, J = (if okFeed (I 1 1) nn then fed I 2 1 1 b nn nn else I) → Q (some (vi (aFeed (J 32 13) nn))) (J, L, R, n)) : Wp mX11_feed 0 [some (vr (some 0)), some (vi nn), some (vl b), none, none] [] (I, L, R, n) (0, 0) Q := by
  have hh := SR_feed (nn := nn) (b := b) h rfl
  have ht := h.2.2.2.1
  refine ct_X11_feed h.1.1 h.1.2.1 hnn (by rw [ht.1]; exact ht.2.1.1) (by rw [ht.1]; exact ht.2.1.2.1) ?_
  refine qI (hq _ rfl) ?_
  rw [hh.1.1, hh.1.2]
theorem nowC {d : Int} (h : SR I L R n) (hd : inR d) (hq : ∀ J, J = (if 0 ≤ d ∧ d ≤ 999 then up I 4 3 d else I) → Q (some (vi (aNow (J 32 9) d))) (J, L, R, n)) : Wp mX11_now 0 [some (vr (some 0)), some (vi d), none] [] (I, L, R, n) (0, 0) Q := by
  have hh := SR_now (d := d) h rfl
  refine ct_X11_now h.1.1 h.1.2.1 hd ?_
  refine qI (hq _ rfl) ?_
  rw [hh.1.1, hh.1.2]
theorem tasteC {d : Int} (h : SR I L R n) (hd : d = 0 ∨ d = 1) (hq : ∀ J, J = up I 4 4 d → Q (some (vi (J 32 10))) (J, L, R, n)) : Wp mX11_taste 0 [some (vr (some 0)), some (vi d), none] [] (I, L, R, n) (0, 0) Q := by
  have s4 := h.1.2.2.2.2.2.1
  refine ct_X11_taste h.1.1 h.1.2.1 hd (by rw [s4]; exact h.1.2.2.1.2.2.2.2.1) ?_
  refine qI (hq _ rfl) ?_
  rw [up_o _ _ _ _ (by decide), s4]
theorem clearC (h : SR I L R n) (hq : ∀ J, J = up I 17 2 0 → Q (some (vi (J 32 35))) (J, L, R, n)) : Wp mX11_clear 0 [some (vr (some 0)), none] [] (I, L, R, n) (0, 0) Q := by
  refine ct_X11_clear h.1.1 h.1.2.1 ?_
  refine qI (hq _ rfl) ?_
  rw [up_o _ _ _ _ (by decide)]; exact h.2.1.1
theorem sayC {a w : Int} (h : SR I L R n) (ha : inR a) (hw : inR w) (hq : ∀ J, J = (if okSay (I 17 2) (I 17 1) a w then up (up (up I 17 1 a) 18 (I 17 2) w) 17 2 (I 17 2 + 1) else I) → Q (some (vi (aSay (J 32 35) (J 32 36) a w))) (J, L, R, n)) : Wp mX11_say 0 [some (vr (some 0)), some (vi a), some (vi w)] [] (I, L, R, n) (0, 0) Q := by
  have hh := SR_say (w := w) ha h rfl
  have hu := h.2.1
  refine ct_X11_say h.1.1 h.1.2.1 ha hw (by rw [hu.1]; exact hu.2.2.2.2.2.2.1.1) (by rw [hu.1]; exact hu.2.2.2.2.2.2.1.2) hu.2.2.2.2.2.2.2.2 ?_
  refine qI (hq _ rfl) ?_
  rw [hh.1.1, hh.1.2.1]; exact hh.1.2.2
theorem pairC {a x y s : Int} (h : SR I L R n) (ha : inR a) (hx : inR x) (hy : inR y) (hs : inR s) (hq : ∀ J, J = (if okPair (I 12 4) a x y s then up (up (up (up (up I 13 (I 12 4) a) 14 (I 12 4) x) 15 (I 12 4) y) 16 (I 12 4) s) 12 4 (I 12 4 + 1) else I) → Q (some (vi (aPair (J 32 30) a x y s))) (J, L, R, n)) : Wp mX11_pair 0 [some (vr (some 0)), some (vi a), some (vi x), some (vi y), some (vi s)] [] (I, L, R, n) (0, 0) Q := by
  have hh := SR_pair (a := a) (x := x) (y := y) (s := s) h rfl
  have hp := h.2.1.2.2.2.2.2.1
  refine ct_X11_pair h.1.1 h.1.2.1 ha hx hy hs (by rw [hh.1.2]; exact hp.1) (by rw [hh.1.2]; exact hp.2.1) ?_
  refine qI (hq _ rfl) ?_
  rw [hh.1.1, hh.1.2]
theorem alikeC {a w b v : Int} (h : SR I L R n) (ha : inR a) (hw : inR w) (hb : inR b) (hv : inR v) (hq : ∀ J, J = (if okAlike (I 8) (I 9) (I 10) (I 11) (I 7 4) a w b v then up (up (up (up (up I 8 (I 7 4) a) 9 (I 7 4) w) 10 (I 7 4) b) 11 (I 7 4) v) 7 4 (I 7 4 + 1) else I) → Q (some (vi (aAlike (J 43) (J 44) (J 45) (J 46) (J 32 25) a w b v))) (J, L, R, n)) : Wp mX11_alike 0 [some (vr (some 0)), some (vi a), some (vi w), some (vi b), some (vi v)] [] (I, L, R, n) (0, 0) Q := by
  have hh := SR_alike (a := a) (w := w) (b := b) (v := v) h rfl
  refine ct_X11_alike h.1.1 h.1.2.1 ha hw hb hv (AkW_A h.2.2.1) ?_
  refine qI (hq _ rfl) ?_
  rw [hh.1.1.1, hh.1.1.2.1, hh.1.1.2.2.1, hh.1.1.2.2.2.1, hh.1.1.2.2.2.2]; exact hh.1.2
/-- the reference's book, behind the class's -/
theorem bookR {a b day r : Int} {O : Int × Int × Dr} (h : SR I L R n) (hkI : I 32 0 = kb) (hok : okBook (kb : Int) a b day) (hn : n ≤ 57 + 7 * kb + 7) (ha : inR a) (hb : inR b) (hdy : inR day) (hO : O = out (I 41) (I 32 13) 0 (-1) 0 (dr0 I (I 32 0))) (hcb : cbO kb a b day O I J L K R R2 r) (hq : ∀ J', SR J' K R2 (57 + 7 * kb + 7) → Q (some (vi r)) (J', K, R2, 57 + 7 * kb + 7)) : Wp mX12_book 0 [some (vr (some 32)), some (vi a), some (vi b), some (vi day), none] [] (J, K, R2, 57 + 7 * kb + 7) (0, 0) Q := by
  have e : ∀ (o : Nat) (z : Int), 32 ≤ o → o < 57 → J o z = I o z := fun o z h1 h2 => hcb.1 o z (by omega) (by omega) (by omega) (by omega) (by omega)
  have e41 : J 41 = I 41 := funext (fun z => e 41 z (by omega) (by omega))
  have j0 : J 32 0 = kb := by rw [e 32 0 (by omega) (by omega)]; exact hkI
  have hTJ : TxW J := TxW_cg e41 (e 32 13 (by omega) (by omega)) h.2.2.2.1.2.1
  have hOJ : O = out (J 41) (J 32 13) 0 (-1) 0 (dr0 J (J 32 0)) := by
    have ed : dr0 J (J 32 0) = dr0 I (I 32 0) := by
      funext o z
      unfold dr0
      rw [e 32 0 (by omega) (by omega)]
      split
      · exact e o _ (by omega) (by omega)
      · split
        · exact e o _ (by omega) (by omega)
        · rfl
    rw [e41, e 32 13 (by omega) (by omega), ed]; exact hO
  have hFx2 : Fx R2 := Fx_fr (fun o z ho a5 b5 => hcb.2.2.1 o z (by omega) a5 (by omega)) h.1.2.1
  refine ct_X12_book (O := O) (by omega) hFx2 hTJ ha hb hdy (by omega) (by omega) hOJ (fun hno => absurd (by rw [j0]; exact hok) hno) (fun J' _ hF g0 g13 g14 g1 g5 => ?_) (fun J' hd _ hF g0 g13 g14 gO2 gO1 gRD gR36 gM ga gb gd => ?_)
  · rw [j0] at hF g0
    have hs := SR_fault h hkI (by omega) hn hcb hF g0 g13 g14 g1
    have hr := (hcb.2.2.2.2.2.resolve_right (fun q => by have := q.1; omega)).2.2.1
    rw [← hr]; exact hq J' hs
  · rw [j0] at hF g0 gRD gR36 ga gb gd
    have hs := SR_made h hkI hok hn hcb hF g0 g13 g14 gO2 gO1 gRD gR36 gM ga gb gd
    have hr := (hcb.2.2.2.2.2.resolve_left (fun q => by have := q.1; omega)).2.1
    rw [j0, ← hr]; exact hq J' hs
variable {N : Nat} {xs : Nat → Int32} {i : Int}
theorem lw_feed (hN : N ≤ 3584) (hi0 : 0 ≤ i) (hi7 : i + 7 ≤ N) (hSR : SR I L R n) (hc : ∀ I' L' R' n', SR I' L' R' n' → Wp (mL_law N xs) 1309 [some (vr (some 1000000)), some (vr (some 0)), some (vr (some 32)), some (vi i)] [] (I', L', R', n') (bq n') Q) : Wp (mL_law N xs) 156 [some (vr (some 1000000)), some (vr (some 0)), some (vr (some 32)), some (vi i)] [] (I, L, R, n) (bq n) Q := by
  have hS := hSR.1
  have hn := hS.1
  have hFx := hS.2.1
  have hW := hS.2.2.1
  have h11 := hSR.2.2.2.2.2.1
  have hpu := hSR.2.1
  have hlk := hSR.2.2.1
  have ht := hSR.2.2.2.1
  refine Wp.aload_n rfl dL_law_156 ?_
  refine Wp.aload_n rfl dL_law_157 ?_
  refine Wp.iload_n rfl dL_law_158 ?_
  refine Wp.iconst dL_law_159 ?_
  refine Wp.iadd dL_law_160 ?_
  refine Wp.sld rfl dL_law_161 (by omega) (by omega) (by omega) ?_
  refine Wp.aload_n rfl dL_law_162 ?_
  refine Wp.iload_n rfl dL_law_163 ?_
  refine Wp.iconst dL_law_164 ?_
  refine Wp.iadd dL_law_165 ?_
  refine Wp.sld rfl dL_law_166 (by omega) (by omega) (by omega) ?_
  refine Wp.i2l (w_rng _) dL_law_167 ?_
  refine Wp.bipush rfl dL_law_168 ?_
  refine Wp.lshl (by omega) (by omega) dL_law_170 ?_
  refine Wp.aload_n rfl dL_law_171 ?_
  refine Wp.iload_n rfl dL_law_172 ?_
  refine Wp.iconst dL_law_173 ?_
  refine Wp.iadd dL_law_174 ?_
  refine Wp.sld rfl dL_law_175 (by omega) (by omega) (by omega) ?_
  refine Wp.i2l (w_rng _) dL_law_176 ?_
  refine Wp.ldc2_w (b := 4294967295#64) ckL_13 rfl dL_law_177 ?_
  refine Wp.land dL_law_180 ?_
  refine Wp.lor dL_law_181 ?_
  refine Wp.callV (As := [_, _]) (ls0 := [_, _, _, _, _]) (bd := bq n) (bd' := (0, 0)) dL_law_182 kmX11_feed lkL_15 (Nat.le_of_ble_eq_true rfl) (Nat.le_of_ble_eq_true rfl) (Nat.le_of_ble_eq_true rfl) (by first | rfl | exact kd_b0 _ | exact kd_b1 _ | exact kd_b2 _ | exact kd_b3 _ | exact kd_b4 _ | exact kd_b5 _ | exact kd_b6 _) (by omega) rfl rfl (Nat.le_of_ble_eq_true rfl) rfl ?_
  refine feedC hSR (w_rng _) (fun J hJ => ?_)
  have hh := SR_feed hSR hJ
  show Wp _ _ _ (_ :: _) _ _ _
  refine Wp.aload_n rfl dL_law_185 ?_
  refine Wp.aload_n rfl dL_law_186 ?_
  refine Wp.iload_n rfl dL_law_187 ?_
  refine Wp.iconst dL_law_188 ?_
  refine Wp.iadd dL_law_189 ?_
  refine Wp.sld rfl dL_law_190 (by omega) (by omega) (by omega) ?_
  refine Wp.aload_n rfl dL_law_191 ?_
  refine Wp.iload_n rfl dL_law_192 ?_
  refine Wp.iconst dL_law_193 ?_
  refine Wp.iadd dL_law_194 ?_
  refine Wp.sld rfl dL_law_195 (by omega) (by omega) (by omega) ?_
  refine Wp.i2l (w_rng _) dL_law_196 ?_
  refine Wp.bipush rfl dL_law_197 ?_
  refine Wp.lshl (by omega) (by omega) dL_law_199 ?_
  refine Wp.aload_n rfl dL_law_200 ?_
  refine Wp.iload_n rfl dL_law_201 ?_
  refine Wp.iconst dL_law_202 ?_
  refine Wp.iadd dL_law_203 ?_
  refine Wp.sld rfl dL_law_204 (by omega) (by omega) (by omega) ?_
  refine Wp.i2l (w_rng _) dL_law_205 ?_
  refine Wp.ldc2_w (b := 4294967295#64) ckL_13 rfl dL_law_206 ?_
  refine Wp.land dL_law_209 ?_
  refine Wp.lor dL_law_210 ?_
  refine Wp.callV (As := [_, _]) (ls0 := [_, _, _, _, _]) (bd := bq n) (bd' := (0, 0)) dL_law_211 kmX12_feed lkL_19 (Nat.le_of_ble_eq_true rfl) (Nat.le_of_ble_eq_true rfl) (Nat.le_of_ble_eq_true rfl) (by first | rfl | exact kd_b0 _ | exact kd_b1 _ | exact kd_b2 _ | exact kd_b3 _ | exact kd_b4 _ | exact kd_b5 _ | exact kd_b6 _) (by omega) rfl rfl (Nat.le_of_ble_eq_true rfl) rfl ?_
  refine ct_X12_feed hn hFx (w_rng _) (by rw [hh.1.1]; exact ht.2.1.1) (by rw [hh.1.1]; exact ht.2.1.2.1) ?_
  show Wp _ _ _ (_ :: _) _ _ _
  refine Wp.icmp_same (tgt := 1309) dL_law_214 (by decide) ?_
  exact hc _ L R n hh.2
theorem lw_book (hN : N ≤ 3584) (hi0 : 0 ≤ i) (hi7 : i + 7 ≤ N) (hSR : SR I L R n) (hc : ∀ I' L' R' n', SR I' L' R' n' → Wp (mL_law N xs) 1309 [some (vr (some 1000000)), some (vr (some 0)), some (vr (some 32)), some (vi i)] [] (I', L', R', n') (bq n') Q) : Wp (mL_law N xs) 219 [some (vr (some 1000000)), some (vr (some 0)), some (vr (some 32)), some (vi i)] [] (I, L, R, n) (bq n) Q := by
  have hS := hSR.1
  have hn := hS.1
  have hFx := hS.2.1
  have hW := hS.2.2.1
  have h11 := hSR.2.2.2.2.2.1
  have hpu := hSR.2.1
  have hlk := hSR.2.2.1
  have ht := hSR.2.2.2.1
  by_cases hok : okBook (I 32 0) (xs (i + 1).toNat).toInt (xs (i + 2).toNat).toInt (xs (i + 3).toNat).toInt
  · obtain ⟨kb, hkb⟩ : ∃ kb : Nat, I 32 0 = kb := ⟨(I 32 0).toNat, by have := hW.1; omega⟩
    have hokb : okBook (kb : Int) (xs (i + 1).toNat).toInt (xs (i + 2).toNat).toInt (xs (i + 3).toNat).toInt := by rw [← hkb]; exact hok
    rcases hSR.2.2.2.2.2.2 with ⟨h41, hnn⟩ | ⟨h41, hnn, hk8, hBk⟩
    · have hn7 : n = 57 + 7 * kb := by omega
      subst hn7
      rw [bq_s (by omega)]
      refine Wp.aload_n rfl dL_law_219 ?_
      refine Wp.aload_n rfl dL_law_220 ?_
      refine Wp.iload_n rfl dL_law_221 ?_
      refine Wp.iconst dL_law_222 ?_
      refine Wp.iadd dL_law_223 ?_
      refine Wp.sld rfl dL_law_224 (by omega) (by omega) (by omega) ?_
      refine Wp.aload_n rfl dL_law_225 ?_
      refine Wp.iload_n rfl dL_law_226 ?_
      refine Wp.iconst dL_law_227 ?_
      refine Wp.iadd dL_law_228 ?_
      refine Wp.sld rfl dL_law_229 (by omega) (by omega) (by omega) ?_
      refine Wp.aload_n rfl dL_law_230 ?_
      refine Wp.iload_n rfl dL_law_231 ?_
      refine Wp.iconst dL_law_232 ?_
      refine Wp.iadd dL_law_233 ?_
      refine Wp.sld rfl dL_law_234 (by omega) (by omega) (by omega) ?_
      refine Wp.callV (As := [_, _, _]) (ls0 := [_, _, _, _, _, _]) (bd := bq (57 + 7 * kb + 7)) (bd' := (7, 1873)) dL_law_235 kmX11_book lkL_20 (Nat.le_of_ble_eq_true rfl) (Nat.le_of_ble_eq_true rfl) (Nat.le_of_ble_eq_true rfl) (by first | rfl | exact kd_b0 _ | exact kd_b1 _ | exact kd_b2 _ | exact kd_b3 _ | exact kd_b4 _ | exact kd_b5 _ | exact kd_b6 _) (by omega) rfl rfl (Nat.le_of_ble_eq_true rfl) rfl ?_
      refine ct_book_0 (kb := kb) hS hkb hok ht rfl h41 rfl (fun J K R2 r hcb => ?_)
      show Wp _ _ _ (_ :: _) _ _ _
      refine Wp.aload_n rfl dL_law_238 ?_
      refine Wp.aload_n rfl dL_law_239 ?_
      refine Wp.iload_n rfl dL_law_240 ?_
      refine Wp.iconst dL_law_241 ?_
      refine Wp.iadd dL_law_242 ?_
      refine Wp.sld rfl dL_law_243 (by omega) (by omega) (by omega) ?_
      refine Wp.aload_n rfl dL_law_244 ?_
      refine Wp.iload_n rfl dL_law_245 ?_
      refine Wp.iconst dL_law_246 ?_
      refine Wp.iadd dL_law_247 ?_
      refine Wp.sld rfl dL_law_248 (by omega) (by omega) (by omega) ?_
      refine Wp.aload_n rfl dL_law_249 ?_
      refine Wp.iload_n rfl dL_law_250 ?_
      refine Wp.iconst dL_law_251 ?_
      refine Wp.iadd dL_law_252 ?_
      refine Wp.sld rfl dL_law_253 (by omega) (by omega) (by omega) ?_
      refine Wp.callV (As := [_, _, _]) (ls0 := [_, _, _, _, _]) (bd := bq (57 + 7 * kb + 7)) (bd' := (0, 0)) dL_law_254 kmX12_book lkL_24 (Nat.le_of_ble_eq_true rfl) (Nat.le_of_ble_eq_true rfl) (Nat.le_of_ble_eq_true rfl) (by first | rfl | exact kd_b0 _ | exact kd_b1 _ | exact kd_b2 _ | exact kd_b3 _ | exact kd_b4 _ | exact kd_b5 _ | exact kd_b6 _) (by omega) rfl rfl (Nat.le_of_ble_eq_true rfl) rfl ?_
      refine bookR hSR hkb hokb (by omega) (w_rng _) (w_rng _) (w_rng _) rfl hcb (fun J2 hS2 => ?_)
      show Wp _ _ _ (_ :: _) _ _ _
      refine Wp.icmp_same (tgt := 1309) dL_law_257 (by decide) ?_
      exact hc _ _ _ _ hS2
    · have hkt : (I 32 0).toNat = kb := by omega
      rw [hkt] at h41 hBk
      have hn7 : n = 57 + 7 * kb + 7 := by omega
      refine Wp.aload_n rfl dL_law_219 ?_
      refine Wp.aload_n rfl dL_law_220 ?_
      refine Wp.iload_n rfl dL_law_221 ?_
      refine Wp.iconst dL_law_222 ?_
      refine Wp.iadd dL_law_223 ?_
      refine Wp.sld rfl dL_law_224 (by omega) (by omega) (by omega) ?_
      refine Wp.aload_n rfl dL_law_225 ?_
      refine Wp.iload_n rfl dL_law_226 ?_
      refine Wp.iconst dL_law_227 ?_
      refine Wp.iadd dL_law_228 ?_
      refine Wp.sld rfl dL_law_229 (by omega) (by omega) (by omega) ?_
      refine Wp.aload_n rfl dL_law_230 ?_
      refine Wp.iload_n rfl dL_law_231 ?_
      refine Wp.iconst dL_law_232 ?_
      refine Wp.iadd dL_law_233 ?_
      refine Wp.sld rfl dL_law_234 (by omega) (by omega) (by omega) ?_
      refine Wp.callV (As := [_, _, _]) (ls0 := [_, _, _, _, _, _]) (bd := bq n) (bd' := (0, 0)) dL_law_235 kmX11_book lkL_20 (Nat.le_of_ble_eq_true rfl) (Nat.le_of_ble_eq_true rfl) (Nat.le_of_ble_eq_true rfl) (by first | rfl | exact kd_b0 _ | exact kd_b1 _ | exact kd_b2 _ | exact kd_b3 _ | exact kd_b4 _ | exact kd_b5 _ | exact kd_b6 _) (by omega) rfl rfl (Nat.le_of_ble_eq_true rfl) rfl ?_
      refine ct_book_1 (kb := kb) hS hkb hok ht hn7 h41 hBk rfl (fun J K R2 r hcb => ?_)
      subst hn7
      show Wp _ _ _ (_ :: _) _ _ _
      refine Wp.aload_n rfl dL_law_238 ?_
      refine Wp.aload_n rfl dL_law_239 ?_
      refine Wp.iload_n rfl dL_law_240 ?_
      refine Wp.iconst dL_law_241 ?_
      refine Wp.iadd dL_law_242 ?_
      refine Wp.sld rfl dL_law_243 (by omega) (by omega) (by omega) ?_
      refine Wp.aload_n rfl dL_law_244 ?_
      refine Wp.iload_n rfl dL_law_245 ?_
      refine Wp.iconst dL_law_246 ?_
      refine Wp.iadd dL_law_247 ?_
      refine Wp.sld rfl dL_law_248 (by omega) (by omega) (by omega) ?_
      refine Wp.aload_n rfl dL_law_249 ?_
      refine Wp.iload_n rfl dL_law_250 ?_
      refine Wp.iconst dL_law_251 ?_
      refine Wp.iadd dL_law_252 ?_
      refine Wp.sld rfl dL_law_253 (by omega) (by omega) (by omega) ?_
      refine Wp.callV (As := [_, _, _]) (ls0 := [_, _, _, _, _]) (bd := bq (57 + 7 * kb + 7)) (bd' := (0, 0)) dL_law_254 kmX12_book lkL_24 (Nat.le_of_ble_eq_true rfl) (Nat.le_of_ble_eq_true rfl) (Nat.le_of_ble_eq_true rfl) (by first | rfl | exact kd_b0 _ | exact kd_b1 _ | exact kd_b2 _ | exact kd_b3 _ | exact kd_b4 _ | exact kd_b5 _ | exact kd_b6 _) (by omega) rfl rfl (Nat.le_of_ble_eq_true rfl) rfl ?_
      refine bookR hSR hkb hokb (by omega) (w_rng _) (w_rng _) (w_rng _) rfl hcb (fun J2 hS2 => ?_)
      show Wp _ _ _ (_ :: _) _ _ _
      refine Wp.icmp_same (tgt := 1309) dL_law_257 (by decide) ?_
      exact hc _ _ _ _ hS2
  · skip
    refine Wp.aload_n rfl dL_law_219 ?_
    refine Wp.aload_n rfl dL_law_220 ?_
    refine Wp.iload_n rfl dL_law_221 ?_
    refine Wp.iconst dL_law_222 ?_
    refine Wp.iadd dL_law_223 ?_
    refine Wp.sld rfl dL_law_224 (by omega) (by omega) (by omega) ?_
    refine Wp.aload_n rfl dL_law_225 ?_
    refine Wp.iload_n rfl dL_law_226 ?_
    refine Wp.iconst dL_law_227 ?_
    refine Wp.iadd dL_law_228 ?_
    refine Wp.sld rfl dL_law_229 (by omega) (by omega) (by omega) ?_
    refine Wp.aload_n rfl dL_law_230 ?_
    refine Wp.iload_n rfl dL_law_231 ?_
    refine Wp.iconst dL_law_232 ?_
    refine Wp.iadd dL_law_233 ?_
    refine Wp.sld rfl dL_law_234 (by omega) (by omega) (by omega) ?_
    refine Wp.callV (As := [_, _, _]) (ls0 := [_, _, _, _, _, _]) (bd := bq n) (bd' := (0, 0)) dL_law_235 kmX11_book lkL_20 (Nat.le_of_ble_eq_true rfl) (Nat.le_of_ble_eq_true rfl) (Nat.le_of_ble_eq_true rfl) (by first | rfl | exact kd_b0 _ | exact kd_b1 _ | exact kd_b2 _ | exact kd_b3 _ | exact kd_b4 _ | exact kd_b5 _ | exact kd_b6 _) (by omega) rfl rfl (Nat.le_of_ble_eq_true rfl) rfl ?_
    refine ct_book_no hS (w_rng _) (w_rng _) (w_rng _) hok ?_
    show Wp _ _ _ (_ :: _) _ _ _
    refine Wp.aload_n rfl dL_law_238 ?_
    refine Wp.aload_n rfl dL_law_239 ?_
    refine Wp.iload_n rfl dL_law_240 ?_
    refine Wp.iconst dL_law_241 ?_
    refine Wp.iadd dL_law_242 ?_
    refine Wp.sld rfl dL_law_243 (by omega) (by omega) (by omega) ?_
    refine Wp.aload_n rfl dL_law_244 ?_
    refine Wp.iload_n rfl dL_law_245 ?_
    refine Wp.iconst dL_law_246 ?_
    refine Wp.iadd dL_law_247 ?_
    refine Wp.sld rfl dL_law_248 (by omega) (by omega) (by omega) ?_
    refine Wp.aload_n rfl dL_law_249 ?_
    refine Wp.iload_n rfl dL_law_250 ?_
    refine Wp.iconst dL_law_251 ?_
    refine Wp.iadd dL_law_252 ?_
    refine Wp.sld rfl dL_law_253 (by omega) (by omega) (by omega) ?_
    refine Wp.callV (As := [_, _, _]) (ls0 := [_, _, _, _, _]) (bd := bq n) (bd' := (0, 0)) dL_law_254 kmX12_book lkL_24 (Nat.le_of_ble_eq_true rfl) (Nat.le_of_ble_eq_true rfl) (Nat.le_of_ble_eq_true rfl) (by first | rfl | exact kd_b0 _ | exact kd_b1 _ | exact kd_b2 _ | exact kd_b3 _ | exact kd_b4 _ | exact kd_b5 _ | exact kd_b6 _) (by omega) rfl rfl (Nat.le_of_ble_eq_true rfl) rfl ?_
    refine ct_X12_book (O := _) hn hFx ht.2.1 (w_rng _) (w_rng _) (w_rng _) hW.1 hW.2.1 rfl (fun _ => ?_) (fun J hok2 => absurd hok2 hok) (fun J hd hok2 => absurd hok2 hok)
    show Wp _ _ _ (_ :: _) _ _ _
    refine Wp.icmp_same (tgt := 1309) dL_law_257 (by decide) ?_
    exact hc I L R n hSR
theorem lw_fault (hN : N ≤ 3584) (hi0 : 0 ≤ i) (hi7 : i + 7 ≤ N) (hSR : SR I L R n) (hc : ∀ I' L' R' n', SR I' L' R' n' → Wp (mL_law N xs) 1309 [some (vr (some 1000000)), some (vr (some 0)), some (vr (some 32)), some (vi i)] [] (I', L', R', n') (bq n') Q) : Wp (mL_law N xs) 262 [some (vr (some 1000000)), some (vr (some 0)), some (vr (some 32)), some (vi i)] [] (I, L, R, n) (bq n) Q := by
  have hS := hSR.1
  have hn := hS.1
  have hFx := hS.2.1
  have hW := hS.2.2.1
  have h11 := hSR.2.2.2.2.2.1
  have hpu := hSR.2.1
  have hlk := hSR.2.2.1
  have ht := hSR.2.2.2.1
  refine Wp.aload_n rfl dL_law_262 ?_
  refine Wp.callV (As := []) (ls0 := [_]) (bd := bq n) (bd' := (0, 0)) dL_law_263 kmX11_fault lkL_25 (Nat.le_of_ble_eq_true rfl) (Nat.le_of_ble_eq_true rfl) (Nat.le_of_ble_eq_true rfl) (by first | rfl | exact kd_b0 _ | exact kd_b1 _ | exact kd_b2 _ | exact kd_b3 _ | exact kd_b4 _ | exact kd_b5 _ | exact kd_b6 _) (by omega) rfl rfl (Nat.le_of_ble_eq_true rfl) rfl ?_
  refine ct_X11_fault hn ?_
  rw [hSR.2.2.2.2.1]
  show Wp _ _ _ (_ :: _) _ _ _
  refine Wp.aload_n rfl dL_law_266 ?_
  refine Wp.callV (As := []) (ls0 := [_]) (bd := bq n) (bd' := (0, 0)) dL_law_267 kmX12_fault lkL_29 (Nat.le_of_ble_eq_true rfl) (Nat.le_of_ble_eq_true rfl) (Nat.le_of_ble_eq_true rfl) (by first | rfl | exact kd_b0 _ | exact kd_b1 _ | exact kd_b2 _ | exact kd_b3 _ | exact kd_b4 _ | exact kd_b5 _ | exact kd_b6 _) (by omega) rfl rfl (Nat.le_of_ble_eq_true rfl) rfl ?_
  refine ct_X12_fault hn ?_
  show Wp _ _ _ (_ :: _) _ _ _
  refine Wp.icmp_same (tgt := 1309) dL_law_270 (by decide) ?_
  exact hc I L R n hSR
theorem lw_about (hN : N ≤ 3584) (hi0 : 0 ≤ i) (hi7 : i + 7 ≤ N) (hSR : SR I L R n) (hc : ∀ I' L' R' n', SR I' L' R' n' → Wp (mL_law N xs) 1309 [some (vr (some 1000000)), some (vr (some 0)), some (vr (some 32)), some (vi i)] [] (I', L', R', n') (bq n') Q) : Wp (mL_law N xs) 275 [some (vr (some 1000000)), some (vr (some 0)), some (vr (some 32)), some (vi i)] [] (I, L, R, n) (bq n) Q := by
  have hS := hSR.1
  have hn := hS.1
  have hFx := hS.2.1
  have hW := hS.2.2.1
  have h11 := hSR.2.2.2.2.2.1
  have hpu := hSR.2.1
  have hlk := hSR.2.2.1
  have ht := hSR.2.2.2.1
  refine Wp.aload_n rfl dL_law_275 ?_
  refine Wp.aload_n rfl dL_law_276 ?_
  refine Wp.iload_n rfl dL_law_277 ?_
  refine Wp.iconst dL_law_278 ?_
  refine Wp.iadd dL_law_279 ?_
  refine Wp.sld rfl dL_law_280 (by omega) (by omega) (by omega) ?_
  refine Wp.aload_n rfl dL_law_281 ?_
  refine Wp.iload_n rfl dL_law_282 ?_
  refine Wp.iconst dL_law_283 ?_
  refine Wp.iadd dL_law_284 ?_
  refine Wp.sld rfl dL_law_285 (by omega) (by omega) (by omega) ?_
  refine Wp.callV (As := [_, _]) (ls0 := [_, _, _, _]) (bd := bq n) (bd' := (0, 0)) dL_law_286 kmX11_about lkL_30 (Nat.le_of_ble_eq_true rfl) (Nat.le_of_ble_eq_true rfl) (Nat.le_of_ble_eq_true rfl) (by first | rfl | exact kd_b0 _ | exact kd_b1 _ | exact kd_b2 _ | exact kd_b3 _ | exact kd_b4 _ | exact kd_b5 _ | exact kd_b6 _) (by omega) rfl rfl (Nat.le_of_ble_eq_true rfl) rfl ?_
  refine ct_X11_about hS (w_rng _) (w_rng _) ?_
  show Wp _ _ _ (_ :: _) _ _ _
  refine Wp.aload_n rfl dL_law_289 ?_
  refine Wp.aload_n rfl dL_law_290 ?_
  refine Wp.iload_n rfl dL_law_291 ?_
  refine Wp.iconst dL_law_292 ?_
  refine Wp.iadd dL_law_293 ?_
  refine Wp.sld rfl dL_law_294 (by omega) (by omega) (by omega) ?_
  refine Wp.aload_n rfl dL_law_295 ?_
  refine Wp.iload_n rfl dL_law_296 ?_
  refine Wp.iconst dL_law_297 ?_
  refine Wp.iadd dL_law_298 ?_
  refine Wp.sld rfl dL_law_299 (by omega) (by omega) (by omega) ?_
  refine Wp.callV (As := [_, _]) (ls0 := [_, _, _, _, _, _, _, _, _, _]) (bd := bq n) (bd' := (0, 0)) dL_law_300 kmX12_about lkL_34 (Nat.le_of_ble_eq_true rfl) (Nat.le_of_ble_eq_true rfl) (Nat.le_of_ble_eq_true rfl) (by first | rfl | exact kd_b0 _ | exact kd_b1 _ | exact kd_b2 _ | exact kd_b3 _ | exact kd_b4 _ | exact kd_b5 _ | exact kd_b6 _) (by omega) rfl rfl (Nat.le_of_ble_eq_true rfl) rfl ?_
  refine ct_X12_about hn hFx hW (w_rng _) (w_rng _) ?_
  show Wp _ _ _ (_ :: _) _ _ _
  refine Wp.icmp_same (tgt := 1309) dL_law_303 (by decide) ?_
  exact hc I L R n hSR
theorem lw_now (hN : N ≤ 3584) (hi0 : 0 ≤ i) (hi7 : i + 7 ≤ N) (hSR : SR I L R n) (hc : ∀ I' L' R' n', SR I' L' R' n' → Wp (mL_law N xs) 1309 [some (vr (some 1000000)), some (vr (some 0)), some (vr (some 32)), some (vi i)] [] (I', L', R', n') (bq n') Q) : Wp (mL_law N xs) 308 [some (vr (some 1000000)), some (vr (some 0)), some (vr (some 32)), some (vi i)] [] (I, L, R, n) (bq n) Q := by
  have hS := hSR.1
  have hn := hS.1
  have hFx := hS.2.1
  have hW := hS.2.2.1
  have h11 := hSR.2.2.2.2.2.1
  have hpu := hSR.2.1
  have hlk := hSR.2.2.1
  have ht := hSR.2.2.2.1
  refine Wp.aload_n rfl dL_law_308 ?_
  refine Wp.aload_n rfl dL_law_309 ?_
  refine Wp.iload_n rfl dL_law_310 ?_
  refine Wp.iconst dL_law_311 ?_
  refine Wp.iadd dL_law_312 ?_
  refine Wp.sld rfl dL_law_313 (by omega) (by omega) (by omega) ?_
  refine Wp.callV (As := [_]) (ls0 := [_, _, _]) (bd := bq n) (bd' := (0, 0)) dL_law_314 kmX11_now lkL_35 (Nat.le_of_ble_eq_true rfl) (Nat.le_of_ble_eq_true rfl) (Nat.le_of_ble_eq_true rfl) (by first | rfl | exact kd_b0 _ | exact kd_b1 _ | exact kd_b2 _ | exact kd_b3 _ | exact kd_b4 _ | exact kd_b5 _ | exact kd_b6 _) (by omega) rfl rfl (Nat.le_of_ble_eq_true rfl) rfl ?_
  refine nowC hSR (w_rng _) (fun J hJ => ?_)
  have hh := SR_now hSR hJ
  show Wp _ _ _ (_ :: _) _ _ _
  refine Wp.aload_n rfl dL_law_317 ?_
  refine Wp.aload_n rfl dL_law_318 ?_
  refine Wp.iload_n rfl dL_law_319 ?_
  refine Wp.iconst dL_law_320 ?_
  refine Wp.iadd dL_law_321 ?_
  refine Wp.sld rfl dL_law_322 (by omega) (by omega) (by omega) ?_
  refine Wp.callV (As := [_]) (ls0 := [_, _, _]) (bd := bq n) (bd' := (0, 0)) dL_law_323 kmX12_now lkL_39 (Nat.le_of_ble_eq_true rfl) (Nat.le_of_ble_eq_true rfl) (Nat.le_of_ble_eq_true rfl) (by first | rfl | exact kd_b0 _ | exact kd_b1 _ | exact kd_b2 _ | exact kd_b3 _ | exact kd_b4 _ | exact kd_b5 _ | exact kd_b6 _) (by omega) rfl rfl (Nat.le_of_ble_eq_true rfl) rfl ?_
  refine ct_X12_now hn (w_rng _) ?_
  show Wp _ _ _ (_ :: _) _ _ _
  refine Wp.icmp_same (tgt := 1309) dL_law_326 (by decide) ?_
  exact hc _ L R n hh.2
theorem lw_taste (hN : N ≤ 3584) (hi0 : 0 ≤ i) (hi7 : i + 7 ≤ N) (hSR : SR I L R n) (hc : ∀ I' L' R' n', SR I' L' R' n' → Wp (mL_law N xs) 1309 [some (vr (some 1000000)), some (vr (some 0)), some (vr (some 32)), some (vi i)] [] (I', L', R', n') (bq n') Q) : Wp (mL_law N xs) 331 [some (vr (some 1000000)), some (vr (some 0)), some (vr (some 32)), some (vi i)] [] (I, L, R, n) (bq n) Q := by
  have hS := hSR.1
  have hn := hS.1
  have hFx := hS.2.1
  have hW := hS.2.2.1
  have h11 := hSR.2.2.2.2.2.1
  have hpu := hSR.2.1
  have hlk := hSR.2.2.1
  have ht := hSR.2.2.2.1
  refine Wp.aload_n rfl dL_law_331 ?_
  refine Wp.aload_n rfl dL_law_332 ?_
  refine Wp.iload_n rfl dL_law_333 ?_
  refine Wp.iconst dL_law_334 ?_
  refine Wp.iadd dL_law_335 ?_
  refine Wp.sld rfl dL_law_336 (by omega) (by omega) (by omega) ?_
  refine Wp.if_eq (tgt := 344) dL_law_337 (by decide) (w_rng _) (fun c337 => ?_) (fun c337 => ?_)
  · refine Wp.iconst dL_law_344 ?_
    refine Wp.callV (As := [_]) (ls0 := [_, _, _]) (bd := bq n) (bd' := (0, 0)) dL_law_345 kmX11_taste lkL_40 (Nat.le_of_ble_eq_true rfl) (Nat.le_of_ble_eq_true rfl) (Nat.le_of_ble_eq_true rfl) (by first | rfl | exact kd_b0 _ | exact kd_b1 _ | exact kd_b2 _ | exact kd_b3 _ | exact kd_b4 _ | exact kd_b5 _ | exact kd_b6 _) (by omega) rfl rfl (Nat.le_of_ble_eq_true rfl) rfl ?_
    refine tasteC hSR (by omega) (fun J hJ => ?_)
    show Wp _ _ _ (_ :: _) _ _ _
    refine Wp.aload_n rfl dL_law_348 ?_
    refine Wp.aload_n rfl dL_law_349 ?_
    refine Wp.iload_n rfl dL_law_350 ?_
    refine Wp.iconst dL_law_351 ?_
    refine Wp.iadd dL_law_352 ?_
    refine Wp.sld rfl dL_law_353 (by omega) (by omega) (by omega) ?_
    refine Wp.if_eq (tgt := 361) dL_law_354 (by decide) (w_rng _) (fun c354 => ?_) (fun c354 => ?_)
    · refine Wp.iconst dL_law_361 ?_
      refine Wp.callV (As := [_]) (ls0 := [_, _, _]) (bd := bq n) (bd' := (0, 0)) dL_law_362 kmX12_taste lkL_44 (Nat.le_of_ble_eq_true rfl) (Nat.le_of_ble_eq_true rfl) (Nat.le_of_ble_eq_true rfl) (by first | rfl | exact kd_b0 _ | exact kd_b1 _ | exact kd_b2 _ | exact kd_b3 _ | exact kd_b4 _ | exact kd_b5 _ | exact kd_b6 _) (by omega) rfl rfl (Nat.le_of_ble_eq_true rfl) rfl ?_
      refine ct_X12_taste hn (by omega) (by rw [hJ, up_o _ _ _ _ (by decide)]; exact hW.2.2.2.2.1) ?_
      show Wp _ _ _ (_ :: _) _ _ _
      refine Wp.icmp_same (tgt := 1309) dL_law_365 (by decide) ?_
      first | (exfalso; omega) | (subst hJ; exact hc _ L R n (SR_taste (by omega) hSR))
    · refine Wp.iconst dL_law_357 ?_
      refine Wp.goto (tgt := 362) dL_law_358 (by decide) ?_
      refine Wp.callV (As := [_]) (ls0 := [_, _, _]) (bd := bq n) (bd' := (0, 0)) dL_law_362 kmX12_taste lkL_44 (Nat.le_of_ble_eq_true rfl) (Nat.le_of_ble_eq_true rfl) (Nat.le_of_ble_eq_true rfl) (by first | rfl | exact kd_b0 _ | exact kd_b1 _ | exact kd_b2 _ | exact kd_b3 _ | exact kd_b4 _ | exact kd_b5 _ | exact kd_b6 _) (by omega) rfl rfl (Nat.le_of_ble_eq_true rfl) rfl ?_
      refine ct_X12_taste hn (by omega) (by rw [hJ, up_o _ _ _ _ (by decide)]; exact hW.2.2.2.2.1) ?_
      show Wp _ _ _ (_ :: _) _ _ _
      refine Wp.icmp_same (tgt := 1309) dL_law_365 (by decide) ?_
      first | (exfalso; omega) | (subst hJ; exact hc _ L R n (SR_taste (by omega) hSR))
  · refine Wp.iconst dL_law_340 ?_
    refine Wp.goto (tgt := 345) dL_law_341 (by decide) ?_
    refine Wp.callV (As := [_]) (ls0 := [_, _, _]) (bd := bq n) (bd' := (0, 0)) dL_law_345 kmX11_taste lkL_40 (Nat.le_of_ble_eq_true rfl) (Nat.le_of_ble_eq_true rfl) (Nat.le_of_ble_eq_true rfl) (by first | rfl | exact kd_b0 _ | exact kd_b1 _ | exact kd_b2 _ | exact kd_b3 _ | exact kd_b4 _ | exact kd_b5 _ | exact kd_b6 _) (by omega) rfl rfl (Nat.le_of_ble_eq_true rfl) rfl ?_
    refine tasteC hSR (by omega) (fun J hJ => ?_)
    show Wp _ _ _ (_ :: _) _ _ _
    refine Wp.aload_n rfl dL_law_348 ?_
    refine Wp.aload_n rfl dL_law_349 ?_
    refine Wp.iload_n rfl dL_law_350 ?_
    refine Wp.iconst dL_law_351 ?_
    refine Wp.iadd dL_law_352 ?_
    refine Wp.sld rfl dL_law_353 (by omega) (by omega) (by omega) ?_
    refine Wp.if_eq (tgt := 361) dL_law_354 (by decide) (w_rng _) (fun c354 => ?_) (fun c354 => ?_)
    · refine Wp.iconst dL_law_361 ?_
      refine Wp.callV (As := [_]) (ls0 := [_, _, _]) (bd := bq n) (bd' := (0, 0)) dL_law_362 kmX12_taste lkL_44 (Nat.le_of_ble_eq_true rfl) (Nat.le_of_ble_eq_true rfl) (Nat.le_of_ble_eq_true rfl) (by first | rfl | exact kd_b0 _ | exact kd_b1 _ | exact kd_b2 _ | exact kd_b3 _ | exact kd_b4 _ | exact kd_b5 _ | exact kd_b6 _) (by omega) rfl rfl (Nat.le_of_ble_eq_true rfl) rfl ?_
      refine ct_X12_taste hn (by omega) (by rw [hJ, up_o _ _ _ _ (by decide)]; exact hW.2.2.2.2.1) ?_
      show Wp _ _ _ (_ :: _) _ _ _
      refine Wp.icmp_same (tgt := 1309) dL_law_365 (by decide) ?_
      first | (exfalso; omega) | (subst hJ; exact hc _ L R n (SR_taste (by omega) hSR))
    · refine Wp.iconst dL_law_357 ?_
      refine Wp.goto (tgt := 362) dL_law_358 (by decide) ?_
      refine Wp.callV (As := [_]) (ls0 := [_, _, _]) (bd := bq n) (bd' := (0, 0)) dL_law_362 kmX12_taste lkL_44 (Nat.le_of_ble_eq_true rfl) (Nat.le_of_ble_eq_true rfl) (Nat.le_of_ble_eq_true rfl) (by first | rfl | exact kd_b0 _ | exact kd_b1 _ | exact kd_b2 _ | exact kd_b3 _ | exact kd_b4 _ | exact kd_b5 _ | exact kd_b6 _) (by omega) rfl rfl (Nat.le_of_ble_eq_true rfl) rfl ?_
      refine ct_X12_taste hn (by omega) (by rw [hJ, up_o _ _ _ _ (by decide)]; exact hW.2.2.2.2.1) ?_
      show Wp _ _ _ (_ :: _) _ _ _
      refine Wp.icmp_same (tgt := 1309) dL_law_365 (by decide) ?_
      first | (exfalso; omega) | (subst hJ; exact hc _ L R n (SR_taste (by omega) hSR))
theorem lw_count (hN : N ≤ 3584) (hi0 : 0 ≤ i) (hi7 : i + 7 ≤ N) (hSR : SR I L R n) (hc : ∀ I' L' R' n', SR I' L' R' n' → Wp (mL_law N xs) 1309 [some (vr (some 1000000)), some (vr (some 0)), some (vr (some 32)), some (vi i)] [] (I', L', R', n') (bq n') Q) : Wp (mL_law N xs) 370 [some (vr (some 1000000)), some (vr (some 0)), some (vr (some 32)), some (vi i)] [] (I, L, R, n) (bq n) Q := by
  have hS := hSR.1
  have hn := hS.1
  have hFx := hS.2.1
  have hW := hS.2.2.1
  have h11 := hSR.2.2.2.2.2.1
  have hpu := hSR.2.1
  have hlk := hSR.2.2.1
  have ht := hSR.2.2.2.1
  refine Wp.aload_n rfl dL_law_370 ?_
  refine Wp.aload_n rfl dL_law_371 ?_
  refine Wp.iload_n rfl dL_law_372 ?_
  refine Wp.iconst dL_law_373 ?_
  refine Wp.iadd dL_law_374 ?_
  refine Wp.sld rfl dL_law_375 (by omega) (by omega) (by omega) ?_
  refine Wp.callV (As := [_]) (ls0 := [_, _]) (bd := bq n) (bd' := (0, 0)) dL_law_376 kmX11_count lkL_45 (Nat.le_of_ble_eq_true rfl) (Nat.le_of_ble_eq_true rfl) (Nat.le_of_ble_eq_true rfl) (by first | rfl | exact kd_b0 _ | exact kd_b1 _ | exact kd_b2 _ | exact kd_b3 _ | exact kd_b4 _ | exact kd_b5 _ | exact kd_b6 _) (by omega) rfl rfl (Nat.le_of_ble_eq_true rfl) rfl ?_
  refine ct_X11_count hn hFx (w_rng _) ?_
  rw [hS.2.2.2.1, ht.1, hlk.1, hpu.2.2.2.1, hpu.1]
  show Wp _ _ _ (_ :: _) _ _ _
  refine Wp.aload_n rfl dL_law_379 ?_
  refine Wp.aload_n rfl dL_law_380 ?_
  refine Wp.iload_n rfl dL_law_381 ?_
  refine Wp.iconst dL_law_382 ?_
  refine Wp.iadd dL_law_383 ?_
  refine Wp.sld rfl dL_law_384 (by omega) (by omega) (by omega) ?_
  refine Wp.callV (As := [_]) (ls0 := [_, _]) (bd := bq n) (bd' := (0, 0)) dL_law_385 kmX12_count lkL_48 (Nat.le_of_ble_eq_true rfl) (Nat.le_of_ble_eq_true rfl) (Nat.le_of_ble_eq_true rfl) (by first | rfl | exact kd_b0 _ | exact kd_b1 _ | exact kd_b2 _ | exact kd_b3 _ | exact kd_b4 _ | exact kd_b5 _ | exact kd_b6 _) (by omega) rfl rfl (Nat.le_of_ble_eq_true rfl) rfl ?_
  refine ct_X12_count hn (w_rng _) ?_
  show Wp _ _ _ (_ :: _) _ _ _
  refine Wp.icmp_same (tgt := 1309) dL_law_388 (by decide) ?_
  exact hc I L R n hSR
theorem lw_entry (hN : N ≤ 3584) (hi0 : 0 ≤ i) (hi7 : i + 7 ≤ N) (hSR : SR I L R n) (hc : ∀ I' L' R' n', SR I' L' R' n' → Wp (mL_law N xs) 1309 [some (vr (some 1000000)), some (vr (some 0)), some (vr (some 32)), some (vi i)] [] (I', L', R', n') (bq n') Q) : Wp (mL_law N xs) 393 [some (vr (some 1000000)), some (vr (some 0)), some (vr (some 32)), some (vi i)] [] (I, L, R, n) (bq n) Q := by
  have hS := hSR.1
  have hn := hS.1
  have hFx := hS.2.1
  have hW := hS.2.2.1
  have h11 := hSR.2.2.2.2.2.1
  have hpu := hSR.2.1
  have hlk := hSR.2.2.1
  have ht := hSR.2.2.2.1
  refine Wp.aload_n rfl dL_law_393 ?_
  refine Wp.aload_n rfl dL_law_394 ?_
  refine Wp.iload_n rfl dL_law_395 ?_
  refine Wp.iconst dL_law_396 ?_
  refine Wp.iadd dL_law_397 ?_
  refine Wp.sld rfl dL_law_398 (by omega) (by omega) (by omega) ?_
  refine Wp.aload_n rfl dL_law_399 ?_
  refine Wp.iload_n rfl dL_law_400 ?_
  refine Wp.iconst dL_law_401 ?_
  refine Wp.iadd dL_law_402 ?_
  refine Wp.sld rfl dL_law_403 (by omega) (by omega) (by omega) ?_
  refine Wp.aload_n rfl dL_law_404 ?_
  refine Wp.iload_n rfl dL_law_405 ?_
  refine Wp.iconst dL_law_406 ?_
  refine Wp.iadd dL_law_407 ?_
  refine Wp.sld rfl dL_law_408 (by omega) (by omega) (by omega) ?_
  refine Wp.aload_n rfl dL_law_409 ?_
  refine Wp.iload_n rfl dL_law_410 ?_
  refine Wp.iconst dL_law_411 ?_
  refine Wp.iadd dL_law_412 ?_
  refine Wp.sld rfl dL_law_413 (by omega) (by omega) (by omega) ?_
  refine Wp.callV (As := [_, _, _, _]) (ls0 := [_, _, _, _, _, _, _, _]) (bd := bq n) (bd' := (0, 0)) dL_law_414 kmX11_entry lkL_49 (Nat.le_of_ble_eq_true rfl) (Nat.le_of_ble_eq_true rfl) (Nat.le_of_ble_eq_true rfl) (by first | rfl | exact kd_b0 _ | exact kd_b1 _ | exact kd_b2 _ | exact kd_b3 _ | exact kd_b4 _ | exact kd_b5 _ | exact kd_b6 _) (by omega) rfl rfl (Nat.le_of_ble_eq_true rfl) rfl ?_
  refine ct_X11_entry hS (w_rng _) (w_rng _) (w_rng _) (w_rng _) ?_
  show Wp _ _ _ (_ :: _) _ _ _
  refine Wp.aload_n rfl dL_law_417 ?_
  refine Wp.aload_n rfl dL_law_418 ?_
  refine Wp.iload_n rfl dL_law_419 ?_
  refine Wp.iconst dL_law_420 ?_
  refine Wp.iadd dL_law_421 ?_
  refine Wp.sld rfl dL_law_422 (by omega) (by omega) (by omega) ?_
  refine Wp.aload_n rfl dL_law_423 ?_
  refine Wp.iload_n rfl dL_law_424 ?_
  refine Wp.iconst dL_law_425 ?_
  refine Wp.iadd dL_law_426 ?_
  refine Wp.sld rfl dL_law_427 (by omega) (by omega) (by omega) ?_
  refine Wp.aload_n rfl dL_law_428 ?_
  refine Wp.iload_n rfl dL_law_429 ?_
  refine Wp.iconst dL_law_430 ?_
  refine Wp.iadd dL_law_431 ?_
  refine Wp.sld rfl dL_law_432 (by omega) (by omega) (by omega) ?_
  refine Wp.aload_n rfl dL_law_433 ?_
  refine Wp.iload_n rfl dL_law_434 ?_
  refine Wp.iconst dL_law_435 ?_
  refine Wp.iadd dL_law_436 ?_
  refine Wp.sld rfl dL_law_437 (by omega) (by omega) (by omega) ?_
  refine Wp.callV (As := [_, _, _, _]) (ls0 := [_, _, _, _, _, _, _]) (bd := bq n) (bd' := (0, 0)) dL_law_438 kmX12_entry lkL_53 (Nat.le_of_ble_eq_true rfl) (Nat.le_of_ble_eq_true rfl) (Nat.le_of_ble_eq_true rfl) (by first | rfl | exact kd_b0 _ | exact kd_b1 _ | exact kd_b2 _ | exact kd_b3 _ | exact kd_b4 _ | exact kd_b5 _ | exact kd_b6 _) (by omega) rfl rfl (Nat.le_of_ble_eq_true rfl) rfl ?_
  refine ct_X12_entry hn hFx hW (w_rng _) (w_rng _) (w_rng _) (w_rng _) ?_
  rw [h11]
  show Wp _ _ _ (_ :: _) _ _ _
  refine Wp.icmp_same (tgt := 1309) dL_law_441 (by decide) ?_
  exact hc I L R n hSR
theorem lw_gives (hN : N ≤ 3584) (hi0 : 0 ≤ i) (hi7 : i + 7 ≤ N) (hSR : SR I L R n) (hc : ∀ I' L' R' n', SR I' L' R' n' → Wp (mL_law N xs) 1309 [some (vr (some 1000000)), some (vr (some 0)), some (vr (some 32)), some (vi i)] [] (I', L', R', n') (bq n') Q) : Wp (mL_law N xs) 446 [some (vr (some 1000000)), some (vr (some 0)), some (vr (some 32)), some (vi i)] [] (I, L, R, n) (bq n) Q := by
  have hS := hSR.1
  have hn := hS.1
  have hFx := hS.2.1
  have hW := hS.2.2.1
  have h11 := hSR.2.2.2.2.2.1
  have hpu := hSR.2.1
  have hlk := hSR.2.2.1
  have ht := hSR.2.2.2.1
  refine Wp.aload_n rfl dL_law_446 ?_
  refine Wp.aload_n rfl dL_law_447 ?_
  refine Wp.iload_n rfl dL_law_448 ?_
  refine Wp.iconst dL_law_449 ?_
  refine Wp.iadd dL_law_450 ?_
  refine Wp.sld rfl dL_law_451 (by omega) (by omega) (by omega) ?_
  refine Wp.aload_n rfl dL_law_452 ?_
  refine Wp.iload_n rfl dL_law_453 ?_
  refine Wp.iconst dL_law_454 ?_
  refine Wp.iadd dL_law_455 ?_
  refine Wp.sld rfl dL_law_456 (by omega) (by omega) (by omega) ?_
  refine Wp.aload_n rfl dL_law_457 ?_
  refine Wp.iload_n rfl dL_law_458 ?_
  refine Wp.iconst dL_law_459 ?_
  refine Wp.iadd dL_law_460 ?_
  refine Wp.sld rfl dL_law_461 (by omega) (by omega) (by omega) ?_
  refine Wp.callV (As := [_, _, _]) (ls0 := [_, _, _, _]) (bd := bq n) (bd' := (0, 0)) dL_law_462 kmX11_gives lkL_54 (Nat.le_of_ble_eq_true rfl) (Nat.le_of_ble_eq_true rfl) (Nat.le_of_ble_eq_true rfl) (by first | rfl | exact kd_b0 _ | exact kd_b1 _ | exact kd_b2 _ | exact kd_b3 _ | exact kd_b4 _ | exact kd_b5 _ | exact kd_b6 _) (by omega) rfl rfl (Nat.le_of_ble_eq_true rfl) rfl ?_
  refine ct_X11_gives hS (w_rng _) (w_rng _) (w_rng _) ?_
  show Wp _ _ _ (_ :: _) _ _ _
  refine Wp.aload_n rfl dL_law_465 ?_
  refine Wp.aload_n rfl dL_law_466 ?_
  refine Wp.iload_n rfl dL_law_467 ?_
  refine Wp.iconst dL_law_468 ?_
  refine Wp.iadd dL_law_469 ?_
  refine Wp.sld rfl dL_law_470 (by omega) (by omega) (by omega) ?_
  refine Wp.aload_n rfl dL_law_471 ?_
  refine Wp.iload_n rfl dL_law_472 ?_
  refine Wp.iconst dL_law_473 ?_
  refine Wp.iadd dL_law_474 ?_
  refine Wp.sld rfl dL_law_475 (by omega) (by omega) (by omega) ?_
  refine Wp.aload_n rfl dL_law_476 ?_
  refine Wp.iload_n rfl dL_law_477 ?_
  refine Wp.iconst dL_law_478 ?_
  refine Wp.iadd dL_law_479 ?_
  refine Wp.sld rfl dL_law_480 (by omega) (by omega) (by omega) ?_
  refine Wp.callV (As := [_, _, _]) (ls0 := [_, _, _, _]) (bd := bq n) (bd' := (0, 0)) dL_law_481 kmX12_gives lkL_58 (Nat.le_of_ble_eq_true rfl) (Nat.le_of_ble_eq_true rfl) (Nat.le_of_ble_eq_true rfl) (by first | rfl | exact kd_b0 _ | exact kd_b1 _ | exact kd_b2 _ | exact kd_b3 _ | exact kd_b4 _ | exact kd_b5 _ | exact kd_b6 _) (by omega) rfl rfl (Nat.le_of_ble_eq_true rfl) rfl ?_
  refine ct_X12_gives hn hFx hW (w_rng _) (w_rng _) (w_rng _) ?_
  rw [h11]
  show Wp _ _ _ (_ :: _) _ _ _
  refine Wp.lcmp dL_law_484 ?_
  refine Wp.if_eqC (tgt := 1309) dL_law_485 (by decide) (fun _ => ?_) (fun q => absurd rfl q)
  exact hc I L R n hSR
theorem lw_givenBy (hN : N ≤ 3584) (hi0 : 0 ≤ i) (hi7 : i + 7 ≤ N) (hSR : SR I L R n) (hc : ∀ I' L' R' n', SR I' L' R' n' → Wp (mL_law N xs) 1309 [some (vr (some 1000000)), some (vr (some 0)), some (vr (some 32)), some (vi i)] [] (I', L', R', n') (bq n') Q) : Wp (mL_law N xs) 490 [some (vr (some 1000000)), some (vr (some 0)), some (vr (some 32)), some (vi i)] [] (I, L, R, n) (bq n) Q := by
  have hS := hSR.1
  have hn := hS.1
  have hFx := hS.2.1
  have hW := hS.2.2.1
  have h11 := hSR.2.2.2.2.2.1
  have hpu := hSR.2.1
  have hlk := hSR.2.2.1
  have ht := hSR.2.2.2.1
  refine Wp.aload_n rfl dL_law_490 ?_
  refine Wp.aload_n rfl dL_law_491 ?_
  refine Wp.iload_n rfl dL_law_492 ?_
  refine Wp.iconst dL_law_493 ?_
  refine Wp.iadd dL_law_494 ?_
  refine Wp.sld rfl dL_law_495 (by omega) (by omega) (by omega) ?_
  refine Wp.aload_n rfl dL_law_496 ?_
  refine Wp.iload_n rfl dL_law_497 ?_
  refine Wp.iconst dL_law_498 ?_
  refine Wp.iadd dL_law_499 ?_
  refine Wp.sld rfl dL_law_500 (by omega) (by omega) (by omega) ?_
  refine Wp.aload_n rfl dL_law_501 ?_
  refine Wp.iload_n rfl dL_law_502 ?_
  refine Wp.iconst dL_law_503 ?_
  refine Wp.iadd dL_law_504 ?_
  refine Wp.sld rfl dL_law_505 (by omega) (by omega) (by omega) ?_
  refine Wp.callV (As := [_, _, _]) (ls0 := [_, _, _, _]) (bd := bq n) (bd' := (0, 0)) dL_law_506 kmX11_givenBy lkL_59 (Nat.le_of_ble_eq_true rfl) (Nat.le_of_ble_eq_true rfl) (Nat.le_of_ble_eq_true rfl) (by first | rfl | exact kd_b0 _ | exact kd_b1 _ | exact kd_b2 _ | exact kd_b3 _ | exact kd_b4 _ | exact kd_b5 _ | exact kd_b6 _) (by omega) rfl rfl (Nat.le_of_ble_eq_true rfl) rfl ?_
  refine ct_X11_givenBy hS (w_rng _) (w_rng _) (w_rng _) ?_
  show Wp _ _ _ (_ :: _) _ _ _
  refine Wp.aload_n rfl dL_law_509 ?_
  refine Wp.aload_n rfl dL_law_510 ?_
  refine Wp.iload_n rfl dL_law_511 ?_
  refine Wp.iconst dL_law_512 ?_
  refine Wp.iadd dL_law_513 ?_
  refine Wp.sld rfl dL_law_514 (by omega) (by omega) (by omega) ?_
  refine Wp.aload_n rfl dL_law_515 ?_
  refine Wp.iload_n rfl dL_law_516 ?_
  refine Wp.iconst dL_law_517 ?_
  refine Wp.iadd dL_law_518 ?_
  refine Wp.sld rfl dL_law_519 (by omega) (by omega) (by omega) ?_
  refine Wp.aload_n rfl dL_law_520 ?_
  refine Wp.iload_n rfl dL_law_521 ?_
  refine Wp.iconst dL_law_522 ?_
  refine Wp.iadd dL_law_523 ?_
  refine Wp.sld rfl dL_law_524 (by omega) (by omega) (by omega) ?_
  refine Wp.callV (As := [_, _, _]) (ls0 := [_, _, _, _]) (bd := bq n) (bd' := (0, 0)) dL_law_525 kmX12_givenBy lkL_62 (Nat.le_of_ble_eq_true rfl) (Nat.le_of_ble_eq_true rfl) (Nat.le_of_ble_eq_true rfl) (by first | rfl | exact kd_b0 _ | exact kd_b1 _ | exact kd_b2 _ | exact kd_b3 _ | exact kd_b4 _ | exact kd_b5 _ | exact kd_b6 _) (by omega) rfl rfl (Nat.le_of_ble_eq_true rfl) rfl ?_
  refine ct_X12_givenBy hn hFx hW (w_rng _) (w_rng _) (w_rng _) ?_
  rw [h11]
  show Wp _ _ _ (_ :: _) _ _ _
  refine Wp.lcmp dL_law_528 ?_
  refine Wp.if_eqC (tgt := 1309) dL_law_529 (by decide) (fun _ => ?_) (fun q => absurd rfl q)
  exact hc I L R n hSR
theorem lw_returns (hN : N ≤ 3584) (hi0 : 0 ≤ i) (hi7 : i + 7 ≤ N) (hSR : SR I L R n) (hc : ∀ I' L' R' n', SR I' L' R' n' → Wp (mL_law N xs) 1309 [some (vr (some 1000000)), some (vr (some 0)), some (vr (some 32)), some (vi i)] [] (I', L', R', n') (bq n') Q) : Wp (mL_law N xs) 534 [some (vr (some 1000000)), some (vr (some 0)), some (vr (some 32)), some (vi i)] [] (I, L, R, n) (bq n) Q := by
  have hS := hSR.1
  have hn := hS.1
  have hFx := hS.2.1
  have hW := hS.2.2.1
  have h11 := hSR.2.2.2.2.2.1
  have hpu := hSR.2.1
  have hlk := hSR.2.2.1
  have ht := hSR.2.2.2.1
  refine Wp.aload_n rfl dL_law_534 ?_
  refine Wp.aload_n rfl dL_law_535 ?_
  refine Wp.iload_n rfl dL_law_536 ?_
  refine Wp.iconst dL_law_537 ?_
  refine Wp.iadd dL_law_538 ?_
  refine Wp.sld rfl dL_law_539 (by omega) (by omega) (by omega) ?_
  refine Wp.aload_n rfl dL_law_540 ?_
  refine Wp.iload_n rfl dL_law_541 ?_
  refine Wp.iconst dL_law_542 ?_
  refine Wp.iadd dL_law_543 ?_
  refine Wp.sld rfl dL_law_544 (by omega) (by omega) (by omega) ?_
  refine Wp.aload_n rfl dL_law_545 ?_
  refine Wp.iload_n rfl dL_law_546 ?_
  refine Wp.iconst dL_law_547 ?_
  refine Wp.iadd dL_law_548 ?_
  refine Wp.sld rfl dL_law_549 (by omega) (by omega) (by omega) ?_
  refine Wp.callV (As := [_, _, _]) (ls0 := [_, _, _, _]) (bd := bq n) (bd' := (0, 0)) dL_law_550 kmX11_returns lkL_63 (Nat.le_of_ble_eq_true rfl) (Nat.le_of_ble_eq_true rfl) (Nat.le_of_ble_eq_true rfl) (by first | rfl | exact kd_b0 _ | exact kd_b1 _ | exact kd_b2 _ | exact kd_b3 _ | exact kd_b4 _ | exact kd_b5 _ | exact kd_b6 _) (by omega) rfl rfl (Nat.le_of_ble_eq_true rfl) rfl ?_
  refine ct_X11_returns hS (w_rng _) (w_rng _) (w_rng _) ?_
  show Wp _ _ _ (_ :: _) _ _ _
  refine Wp.aload_n rfl dL_law_553 ?_
  refine Wp.aload_n rfl dL_law_554 ?_
  refine Wp.iload_n rfl dL_law_555 ?_
  refine Wp.iconst dL_law_556 ?_
  refine Wp.iadd dL_law_557 ?_
  refine Wp.sld rfl dL_law_558 (by omega) (by omega) (by omega) ?_
  refine Wp.aload_n rfl dL_law_559 ?_
  refine Wp.iload_n rfl dL_law_560 ?_
  refine Wp.iconst dL_law_561 ?_
  refine Wp.iadd dL_law_562 ?_
  refine Wp.sld rfl dL_law_563 (by omega) (by omega) (by omega) ?_
  refine Wp.aload_n rfl dL_law_564 ?_
  refine Wp.iload_n rfl dL_law_565 ?_
  refine Wp.iconst dL_law_566 ?_
  refine Wp.iadd dL_law_567 ?_
  refine Wp.sld rfl dL_law_568 (by omega) (by omega) (by omega) ?_
  refine Wp.callV (As := [_, _, _]) (ls0 := [_, _, _, _]) (bd := bq n) (bd' := (0, 0)) dL_law_569 kmX12_returns lkL_66 (Nat.le_of_ble_eq_true rfl) (Nat.le_of_ble_eq_true rfl) (Nat.le_of_ble_eq_true rfl) (by first | rfl | exact kd_b0 _ | exact kd_b1 _ | exact kd_b2 _ | exact kd_b3 _ | exact kd_b4 _ | exact kd_b5 _ | exact kd_b6 _) (by omega) rfl rfl (Nat.le_of_ble_eq_true rfl) rfl ?_
  refine ct_X12_returns hn hFx hW (w_rng _) (w_rng _) (w_rng _) ?_
  rw [h11]
  show Wp _ _ _ (_ :: _) _ _ _
  refine Wp.icmp_same (tgt := 1309) dL_law_572 (by decide) ?_
  exact hc I L R n hSR
theorem lw_back (hN : N ≤ 3584) (hi0 : 0 ≤ i) (hi7 : i + 7 ≤ N) (hSR : SR I L R n) (hc : ∀ I' L' R' n', SR I' L' R' n' → Wp (mL_law N xs) 1309 [some (vr (some 1000000)), some (vr (some 0)), some (vr (some 32)), some (vi i)] [] (I', L', R', n') (bq n') Q) : Wp (mL_law N xs) 577 [some (vr (some 1000000)), some (vr (some 0)), some (vr (some 32)), some (vi i)] [] (I, L, R, n) (bq n) Q := by
  have hS := hSR.1
  have hn := hS.1
  have hFx := hS.2.1
  have hW := hS.2.2.1
  have h11 := hSR.2.2.2.2.2.1
  have hpu := hSR.2.1
  have hlk := hSR.2.2.1
  have ht := hSR.2.2.2.1
  refine Wp.aload_n rfl dL_law_577 ?_
  refine Wp.aload_n rfl dL_law_578 ?_
  refine Wp.iload_n rfl dL_law_579 ?_
  refine Wp.iconst dL_law_580 ?_
  refine Wp.iadd dL_law_581 ?_
  refine Wp.sld rfl dL_law_582 (by omega) (by omega) (by omega) ?_
  refine Wp.aload_n rfl dL_law_583 ?_
  refine Wp.iload_n rfl dL_law_584 ?_
  refine Wp.iconst dL_law_585 ?_
  refine Wp.iadd dL_law_586 ?_
  refine Wp.sld rfl dL_law_587 (by omega) (by omega) (by omega) ?_
  refine Wp.aload_n rfl dL_law_588 ?_
  refine Wp.iload_n rfl dL_law_589 ?_
  refine Wp.iconst dL_law_590 ?_
  refine Wp.iadd dL_law_591 ?_
  refine Wp.sld rfl dL_law_592 (by omega) (by omega) (by omega) ?_
  refine Wp.callV (As := [_, _, _]) (ls0 := [_, _, _, _]) (bd := bq n) (bd' := (0, 0)) dL_law_593 kmX11_back lkL_67 (Nat.le_of_ble_eq_true rfl) (Nat.le_of_ble_eq_true rfl) (Nat.le_of_ble_eq_true rfl) (by first | rfl | exact kd_b0 _ | exact kd_b1 _ | exact kd_b2 _ | exact kd_b3 _ | exact kd_b4 _ | exact kd_b5 _ | exact kd_b6 _) (by omega) rfl rfl (Nat.le_of_ble_eq_true rfl) rfl ?_
  refine ct_X11_back hS (w_rng _) (w_rng _) (w_rng _) ?_
  show Wp _ _ _ (_ :: _) _ _ _
  refine Wp.aload_n rfl dL_law_596 ?_
  refine Wp.aload_n rfl dL_law_597 ?_
  refine Wp.iload_n rfl dL_law_598 ?_
  refine Wp.iconst dL_law_599 ?_
  refine Wp.iadd dL_law_600 ?_
  refine Wp.sld rfl dL_law_601 (by omega) (by omega) (by omega) ?_
  refine Wp.aload_n rfl dL_law_602 ?_
  refine Wp.iload_n rfl dL_law_603 ?_
  refine Wp.iconst dL_law_604 ?_
  refine Wp.iadd dL_law_605 ?_
  refine Wp.sld rfl dL_law_606 (by omega) (by omega) (by omega) ?_
  refine Wp.aload_n rfl dL_law_607 ?_
  refine Wp.iload_n rfl dL_law_608 ?_
  refine Wp.iconst dL_law_609 ?_
  refine Wp.iadd dL_law_610 ?_
  refine Wp.sld rfl dL_law_611 (by omega) (by omega) (by omega) ?_
  refine Wp.callV (As := [_, _, _]) (ls0 := [_, _, _, _]) (bd := bq n) (bd' := (0, 0)) dL_law_612 kmX12_back lkL_70 (Nat.le_of_ble_eq_true rfl) (Nat.le_of_ble_eq_true rfl) (Nat.le_of_ble_eq_true rfl) (by first | rfl | exact kd_b0 _ | exact kd_b1 _ | exact kd_b2 _ | exact kd_b3 _ | exact kd_b4 _ | exact kd_b5 _ | exact kd_b6 _) (by omega) rfl rfl (Nat.le_of_ble_eq_true rfl) rfl ?_
  refine ct_X12_back hn hFx hW (w_rng _) (w_rng _) (w_rng _) ?_
  rw [h11]
  show Wp _ _ _ (_ :: _) _ _ _
  refine Wp.lcmp dL_law_615 ?_
  refine Wp.if_eqC (tgt := 1309) dL_law_616 (by decide) (fun _ => ?_) (fun q => absurd rfl q)
  exact hc I L R n hSR
theorem lw_meanings (hN : N ≤ 3584) (hi0 : 0 ≤ i) (hi7 : i + 7 ≤ N) (hSR : SR I L R n) (hc : ∀ I' L' R' n', SR I' L' R' n' → Wp (mL_law N xs) 1309 [some (vr (some 1000000)), some (vr (some 0)), some (vr (some 32)), some (vi i)] [] (I', L', R', n') (bq n') Q) : Wp (mL_law N xs) 621 [some (vr (some 1000000)), some (vr (some 0)), some (vr (some 32)), some (vi i)] [] (I, L, R, n) (bq n) Q := by
  have hS := hSR.1
  have hn := hS.1
  have hFx := hS.2.1
  have hW := hS.2.2.1
  have h11 := hSR.2.2.2.2.2.1
  have hpu := hSR.2.1
  have hlk := hSR.2.2.1
  have ht := hSR.2.2.2.1
  refine Wp.aload_n rfl dL_law_621 ?_
  refine Wp.aload_n rfl dL_law_622 ?_
  refine Wp.iload_n rfl dL_law_623 ?_
  refine Wp.iconst dL_law_624 ?_
  refine Wp.iadd dL_law_625 ?_
  refine Wp.sld rfl dL_law_626 (by omega) (by omega) (by omega) ?_
  refine Wp.aload_n rfl dL_law_627 ?_
  refine Wp.iload_n rfl dL_law_628 ?_
  refine Wp.iconst dL_law_629 ?_
  refine Wp.iadd dL_law_630 ?_
  refine Wp.sld rfl dL_law_631 (by omega) (by omega) (by omega) ?_
  refine Wp.aload_n rfl dL_law_632 ?_
  refine Wp.iload_n rfl dL_law_633 ?_
  refine Wp.iconst dL_law_634 ?_
  refine Wp.iadd dL_law_635 ?_
  refine Wp.sld rfl dL_law_636 (by omega) (by omega) (by omega) ?_
  refine Wp.callV (As := [_, _, _]) (ls0 := [_, _, _, _, _, _, _, _]) (bd := bq n) (bd' := (0, 0)) dL_law_637 kmX11_meanings lkL_71 (Nat.le_of_ble_eq_true rfl) (Nat.le_of_ble_eq_true rfl) (Nat.le_of_ble_eq_true rfl) (by first | rfl | exact kd_b0 _ | exact kd_b1 _ | exact kd_b2 _ | exact kd_b3 _ | exact kd_b4 _ | exact kd_b5 _ | exact kd_b6 _) (by omega) rfl rfl (Nat.le_of_ble_eq_true rfl) rfl ?_
  refine ct_X11_meanings hS (w_rng _) (w_rng _) (w_rng _) ?_
  show Wp _ _ _ (_ :: _) _ _ _
  refine Wp.aload_n rfl dL_law_640 ?_
  refine Wp.aload_n rfl dL_law_641 ?_
  refine Wp.iload_n rfl dL_law_642 ?_
  refine Wp.iconst dL_law_643 ?_
  refine Wp.iadd dL_law_644 ?_
  refine Wp.sld rfl dL_law_645 (by omega) (by omega) (by omega) ?_
  refine Wp.aload_n rfl dL_law_646 ?_
  refine Wp.iload_n rfl dL_law_647 ?_
  refine Wp.iconst dL_law_648 ?_
  refine Wp.iadd dL_law_649 ?_
  refine Wp.sld rfl dL_law_650 (by omega) (by omega) (by omega) ?_
  refine Wp.aload_n rfl dL_law_651 ?_
  refine Wp.iload_n rfl dL_law_652 ?_
  refine Wp.iconst dL_law_653 ?_
  refine Wp.iadd dL_law_654 ?_
  refine Wp.sld rfl dL_law_655 (by omega) (by omega) (by omega) ?_
  refine Wp.callV (As := [_, _, _]) (ls0 := [_, _, _, _, _, _, _, _, _, _, _, _, _, _, _]) (bd := bq n) (bd' := (0, 0)) dL_law_656 kmX12_meanings lkL_74 (Nat.le_of_ble_eq_true rfl) (Nat.le_of_ble_eq_true rfl) (Nat.le_of_ble_eq_true rfl) (by first | rfl | exact kd_b0 _ | exact kd_b1 _ | exact kd_b2 _ | exact kd_b3 _ | exact kd_b4 _ | exact kd_b5 _ | exact kd_b6 _) (by omega) rfl rfl (Nat.le_of_ble_eq_true rfl) rfl ?_
  refine ct_X12_meanings hn hFx hW (w_rng _) (w_rng _) (w_rng _) (fun K eK => ?_)
  rw [h11]
  show Wp _ _ _ (_ :: _) _ _ _
  refine Wp.icmp_same (tgt := 1309) dL_law_659 (by decide) ?_
  exact hc I K R n (SR_cg (Eqv.rf I) eK hSR)
theorem lw_lopsided (hN : N ≤ 3584) (hi0 : 0 ≤ i) (hi7 : i + 7 ≤ N) (hSR : SR I L R n) (hc : ∀ I' L' R' n', SR I' L' R' n' → Wp (mL_law N xs) 1309 [some (vr (some 1000000)), some (vr (some 0)), some (vr (some 32)), some (vi i)] [] (I', L', R', n') (bq n') Q) : Wp (mL_law N xs) 664 [some (vr (some 1000000)), some (vr (some 0)), some (vr (some 32)), some (vi i)] [] (I, L, R, n) (bq n) Q := by
  have hS := hSR.1
  have hn := hS.1
  have hFx := hS.2.1
  have hW := hS.2.2.1
  have h11 := hSR.2.2.2.2.2.1
  have hpu := hSR.2.1
  have hlk := hSR.2.2.1
  have ht := hSR.2.2.2.1
  refine Wp.aload_n rfl dL_law_664 ?_
  refine Wp.aload_n rfl dL_law_665 ?_
  refine Wp.iload_n rfl dL_law_666 ?_
  refine Wp.iconst dL_law_667 ?_
  refine Wp.iadd dL_law_668 ?_
  refine Wp.sld rfl dL_law_669 (by omega) (by omega) (by omega) ?_
  refine Wp.aload_n rfl dL_law_670 ?_
  refine Wp.iload_n rfl dL_law_671 ?_
  refine Wp.iconst dL_law_672 ?_
  refine Wp.iadd dL_law_673 ?_
  refine Wp.sld rfl dL_law_674 (by omega) (by omega) (by omega) ?_
  refine Wp.callV (As := [_, _]) (ls0 := [_, _, _, _, _]) (bd := bq n) (bd' := (0, 0)) dL_law_675 kmX11_lopsided lkL_75 (Nat.le_of_ble_eq_true rfl) (Nat.le_of_ble_eq_true rfl) (Nat.le_of_ble_eq_true rfl) (by first | rfl | exact kd_b0 _ | exact kd_b1 _ | exact kd_b2 _ | exact kd_b3 _ | exact kd_b4 _ | exact kd_b5 _ | exact kd_b6 _) (by omega) rfl rfl (Nat.le_of_ble_eq_true rfl) rfl ?_
  refine ct_X11_lopsided hS (w_rng _) (w_rng _) ?_
  show Wp _ _ _ (_ :: _) _ _ _
  refine Wp.aload_n rfl dL_law_678 ?_
  refine Wp.aload_n rfl dL_law_679 ?_
  refine Wp.iload_n rfl dL_law_680 ?_
  refine Wp.iconst dL_law_681 ?_
  refine Wp.iadd dL_law_682 ?_
  refine Wp.sld rfl dL_law_683 (by omega) (by omega) (by omega) ?_
  refine Wp.aload_n rfl dL_law_684 ?_
  refine Wp.iload_n rfl dL_law_685 ?_
  refine Wp.iconst dL_law_686 ?_
  refine Wp.iadd dL_law_687 ?_
  refine Wp.sld rfl dL_law_688 (by omega) (by omega) (by omega) ?_
  refine Wp.callV (As := [_, _]) (ls0 := [_, _, _, _, _, _, _, _, _]) (bd := bq n) (bd' := (0, 0)) dL_law_689 kmX12_lopsided lkL_78 (Nat.le_of_ble_eq_true rfl) (Nat.le_of_ble_eq_true rfl) (Nat.le_of_ble_eq_true rfl) (by first | rfl | exact kd_b0 _ | exact kd_b1 _ | exact kd_b2 _ | exact kd_b3 _ | exact kd_b4 _ | exact kd_b5 _ | exact kd_b6 _) (by omega) rfl rfl (Nat.le_of_ble_eq_true rfl) rfl ?_
  refine ct_X12_lopsided hn hFx hW (w_rng _) (w_rng _) ?_
  rw [h11]
  show Wp _ _ _ (_ :: _) _ _ _
  refine Wp.icmp_same (tgt := 1309) dL_law_692 (by decide) ?_
  exact hc I L R n hSR
theorem lw_weight (hN : N ≤ 3584) (hi0 : 0 ≤ i) (hi7 : i + 7 ≤ N) (hSR : SR I L R n) (hc : ∀ I' L' R' n', SR I' L' R' n' → Wp (mL_law N xs) 1309 [some (vr (some 1000000)), some (vr (some 0)), some (vr (some 32)), some (vi i)] [] (I', L', R', n') (bq n') Q) : Wp (mL_law N xs) 697 [some (vr (some 1000000)), some (vr (some 0)), some (vr (some 32)), some (vi i)] [] (I, L, R, n) (bq n) Q := by
  have hS := hSR.1
  have hn := hS.1
  have hFx := hS.2.1
  have hW := hS.2.2.1
  have h11 := hSR.2.2.2.2.2.1
  have hpu := hSR.2.1
  have hlk := hSR.2.2.1
  have ht := hSR.2.2.2.1
  refine Wp.aload_n rfl dL_law_697 ?_
  refine Wp.aload_n rfl dL_law_698 ?_
  refine Wp.iload_n rfl dL_law_699 ?_
  refine Wp.iconst dL_law_700 ?_
  refine Wp.iadd dL_law_701 ?_
  refine Wp.sld rfl dL_law_702 (by omega) (by omega) (by omega) ?_
  refine Wp.aload_n rfl dL_law_703 ?_
  refine Wp.iload_n rfl dL_law_704 ?_
  refine Wp.iconst dL_law_705 ?_
  refine Wp.iadd dL_law_706 ?_
  refine Wp.sld rfl dL_law_707 (by omega) (by omega) (by omega) ?_
  refine Wp.aload_n rfl dL_law_708 ?_
  refine Wp.iload_n rfl dL_law_709 ?_
  refine Wp.iconst dL_law_710 ?_
  refine Wp.iadd dL_law_711 ?_
  refine Wp.sld rfl dL_law_712 (by omega) (by omega) (by omega) ?_
  refine Wp.aload_n rfl dL_law_713 ?_
  refine Wp.iload_n rfl dL_law_714 ?_
  refine Wp.iconst dL_law_715 ?_
  refine Wp.iadd dL_law_716 ?_
  refine Wp.sld rfl dL_law_717 (by omega) (by omega) (by omega) ?_
  refine Wp.aload_n rfl dL_law_718 ?_
  refine Wp.iload_n rfl dL_law_719 ?_
  refine Wp.iconst dL_law_720 ?_
  refine Wp.iadd dL_law_721 ?_
  refine Wp.sld rfl dL_law_722 (by omega) (by omega) (by omega) ?_
  refine Wp.callV (As := [_, _, _, _, _]) (ls0 := [_, _, _, _, _, _]) (bd := bq n) (bd' := (0, 0)) dL_law_723 kmX11_weight lkL_79 (Nat.le_of_ble_eq_true rfl) (Nat.le_of_ble_eq_true rfl) (Nat.le_of_ble_eq_true rfl) (by first | rfl | exact kd_b0 _ | exact kd_b1 _ | exact kd_b2 _ | exact kd_b3 _ | exact kd_b4 _ | exact kd_b5 _ | exact kd_b6 _) (by omega) rfl rfl (Nat.le_of_ble_eq_true rfl) rfl ?_
  refine ct_X11_weight hS (w_rng _) (w_rng _) (w_rng _) (w_rng _) (w_rng _) ?_
  show Wp _ _ _ (_ :: _) _ _ _
  refine Wp.aload_n rfl dL_law_726 ?_
  refine Wp.aload_n rfl dL_law_727 ?_
  refine Wp.iload_n rfl dL_law_728 ?_
  refine Wp.iconst dL_law_729 ?_
  refine Wp.iadd dL_law_730 ?_
  refine Wp.sld rfl dL_law_731 (by omega) (by omega) (by omega) ?_
  refine Wp.aload_n rfl dL_law_732 ?_
  refine Wp.iload_n rfl dL_law_733 ?_
  refine Wp.iconst dL_law_734 ?_
  refine Wp.iadd dL_law_735 ?_
  refine Wp.sld rfl dL_law_736 (by omega) (by omega) (by omega) ?_
  refine Wp.aload_n rfl dL_law_737 ?_
  refine Wp.iload_n rfl dL_law_738 ?_
  refine Wp.iconst dL_law_739 ?_
  refine Wp.iadd dL_law_740 ?_
  refine Wp.sld rfl dL_law_741 (by omega) (by omega) (by omega) ?_
  refine Wp.aload_n rfl dL_law_742 ?_
  refine Wp.iload_n rfl dL_law_743 ?_
  refine Wp.iconst dL_law_744 ?_
  refine Wp.iadd dL_law_745 ?_
  refine Wp.sld rfl dL_law_746 (by omega) (by omega) (by omega) ?_
  refine Wp.aload_n rfl dL_law_747 ?_
  refine Wp.iload_n rfl dL_law_748 ?_
  refine Wp.iconst dL_law_749 ?_
  refine Wp.iadd dL_law_750 ?_
  refine Wp.sld rfl dL_law_751 (by omega) (by omega) (by omega) ?_
  refine Wp.callV (As := [_, _, _, _, _]) (ls0 := [_, _, _, _, _, _]) (bd := bq n) (bd' := (0, 0)) dL_law_752 kmX12_weight lkL_83 (Nat.le_of_ble_eq_true rfl) (Nat.le_of_ble_eq_true rfl) (Nat.le_of_ble_eq_true rfl) (by first | rfl | exact kd_b0 _ | exact kd_b1 _ | exact kd_b2 _ | exact kd_b3 _ | exact kd_b4 _ | exact kd_b5 _ | exact kd_b6 _) (by omega) rfl rfl (Nat.le_of_ble_eq_true rfl) rfl ?_
  refine ct_X12_weight hn hFx hW (w_rng _) (w_rng _) (w_rng _) (w_rng _) (w_rng _) ?_
  rw [h11]
  show Wp _ _ _ (_ :: _) _ _ _
  refine Wp.icmp_same (tgt := 1309) dL_law_755 (by decide) ?_
  exact hc I L R n hSR
theorem lw_sure (hN : N ≤ 3584) (hi0 : 0 ≤ i) (hi7 : i + 7 ≤ N) (hSR : SR I L R n) (hc : ∀ I' L' R' n', SR I' L' R' n' → Wp (mL_law N xs) 1309 [some (vr (some 1000000)), some (vr (some 0)), some (vr (some 32)), some (vi i)] [] (I', L', R', n') (bq n') Q) : Wp (mL_law N xs) 760 [some (vr (some 1000000)), some (vr (some 0)), some (vr (some 32)), some (vi i)] [] (I, L, R, n) (bq n) Q := by
  have hS := hSR.1
  have hn := hS.1
  have hFx := hS.2.1
  have hW := hS.2.2.1
  have h11 := hSR.2.2.2.2.2.1
  have hpu := hSR.2.1
  have hlk := hSR.2.2.1
  have ht := hSR.2.2.2.1
  refine Wp.aload_n rfl dL_law_760 ?_
  refine Wp.aload_n rfl dL_law_761 ?_
  refine Wp.iload_n rfl dL_law_762 ?_
  refine Wp.iconst dL_law_763 ?_
  refine Wp.iadd dL_law_764 ?_
  refine Wp.sld rfl dL_law_765 (by omega) (by omega) (by omega) ?_
  refine Wp.aload_n rfl dL_law_766 ?_
  refine Wp.iload_n rfl dL_law_767 ?_
  refine Wp.iconst dL_law_768 ?_
  refine Wp.iadd dL_law_769 ?_
  refine Wp.sld rfl dL_law_770 (by omega) (by omega) (by omega) ?_
  refine Wp.aload_n rfl dL_law_771 ?_
  refine Wp.iload_n rfl dL_law_772 ?_
  refine Wp.iconst dL_law_773 ?_
  refine Wp.iadd dL_law_774 ?_
  refine Wp.sld rfl dL_law_775 (by omega) (by omega) (by omega) ?_
  refine Wp.aload_n rfl dL_law_776 ?_
  refine Wp.iload_n rfl dL_law_777 ?_
  refine Wp.iconst dL_law_778 ?_
  refine Wp.iadd dL_law_779 ?_
  refine Wp.sld rfl dL_law_780 (by omega) (by omega) (by omega) ?_
  refine Wp.aload_n rfl dL_law_781 ?_
  refine Wp.iload_n rfl dL_law_782 ?_
  refine Wp.iconst dL_law_783 ?_
  refine Wp.iadd dL_law_784 ?_
  refine Wp.sld rfl dL_law_785 (by omega) (by omega) (by omega) ?_
  refine Wp.aload_n rfl dL_law_786 ?_
  refine Wp.iload_n rfl dL_law_787 ?_
  refine Wp.bipush rfl dL_law_788 ?_
  refine Wp.iadd dL_law_790 ?_
  refine Wp.sld rfl dL_law_791 (by omega) (by omega) (by omega) ?_
  refine Wp.callV (As := [_, _, _, _, _, _]) (ls0 := [_, _, _, _, _, _, _, _, _]) (bd := bq n) (bd' := (0, 0)) dL_law_792 kmX11_sure lkL_84 (Nat.le_of_ble_eq_true rfl) (Nat.le_of_ble_eq_true rfl) (Nat.le_of_ble_eq_true rfl) (by first | rfl | exact kd_b0 _ | exact kd_b1 _ | exact kd_b2 _ | exact kd_b3 _ | exact kd_b4 _ | exact kd_b5 _ | exact kd_b6 _) (by omega) rfl rfl (Nat.le_of_ble_eq_true rfl) rfl ?_
  refine ct_X11_sure hS (w_rng _) (w_rng _) (w_rng _) (w_rng _) (w_rng _) (w_rng _) (fun J eJ => ?_)
  have hSJ := SR_cg eJ (EqvL.rf L) hSR
  show Wp _ _ _ (_ :: _) _ _ _
  refine Wp.aload_n rfl dL_law_795 ?_
  refine Wp.aload_n rfl dL_law_796 ?_
  refine Wp.iload_n rfl dL_law_797 ?_
  refine Wp.iconst dL_law_798 ?_
  refine Wp.iadd dL_law_799 ?_
  refine Wp.sld rfl dL_law_800 (by omega) (by omega) (by omega) ?_
  refine Wp.aload_n rfl dL_law_801 ?_
  refine Wp.iload_n rfl dL_law_802 ?_
  refine Wp.iconst dL_law_803 ?_
  refine Wp.iadd dL_law_804 ?_
  refine Wp.sld rfl dL_law_805 (by omega) (by omega) (by omega) ?_
  refine Wp.aload_n rfl dL_law_806 ?_
  refine Wp.iload_n rfl dL_law_807 ?_
  refine Wp.iconst dL_law_808 ?_
  refine Wp.iadd dL_law_809 ?_
  refine Wp.sld rfl dL_law_810 (by omega) (by omega) (by omega) ?_
  refine Wp.aload_n rfl dL_law_811 ?_
  refine Wp.iload_n rfl dL_law_812 ?_
  refine Wp.iconst dL_law_813 ?_
  refine Wp.iadd dL_law_814 ?_
  refine Wp.sld rfl dL_law_815 (by omega) (by omega) (by omega) ?_
  refine Wp.aload_n rfl dL_law_816 ?_
  refine Wp.iload_n rfl dL_law_817 ?_
  refine Wp.iconst dL_law_818 ?_
  refine Wp.iadd dL_law_819 ?_
  refine Wp.sld rfl dL_law_820 (by omega) (by omega) (by omega) ?_
  refine Wp.aload_n rfl dL_law_821 ?_
  refine Wp.iload_n rfl dL_law_822 ?_
  refine Wp.bipush rfl dL_law_823 ?_
  refine Wp.iadd dL_law_825 ?_
  refine Wp.sld rfl dL_law_826 (by omega) (by omega) (by omega) ?_
  refine Wp.callV (As := [_, _, _, _, _, _]) (ls0 := [_, _, _, _, _, _, _, _]) (bd := bq n) (bd' := (0, 0)) dL_law_827 kmX12_sure lkL_88 (Nat.le_of_ble_eq_true rfl) (Nat.le_of_ble_eq_true rfl) (Nat.le_of_ble_eq_true rfl) (by first | rfl | exact kd_b0 _ | exact kd_b1 _ | exact kd_b2 _ | exact kd_b3 _ | exact kd_b4 _ | exact kd_b5 _ | exact kd_b6 _) (by omega) rfl rfl (Nat.le_of_ble_eq_true rfl) rfl ?_
  refine ct_X12_sure hSJ.1.1 hSJ.1.2.1 hSJ.1.2.2.1 (w_rng _) (w_rng _) (w_rng _) (w_rng _) (w_rng _) (w_rng _) (fun J2 eJ2 => ?_)
  rw [hSJ.2.2.2.2.2.1, aSure_cg eJ.se]
  show Wp _ _ _ (_ :: _) _ _ _
  refine Wp.icmp_same (tgt := 1309) dL_law_830 (by decide) ?_
  exact hc J2 L R n (SR_cg eJ2 (EqvL.rf L) hSJ)
theorem lw_best (hN : N ≤ 3584) (hi0 : 0 ≤ i) (hi7 : i + 7 ≤ N) (hSR : SR I L R n) (hc : ∀ I' L' R' n', SR I' L' R' n' → Wp (mL_law N xs) 1309 [some (vr (some 1000000)), some (vr (some 0)), some (vr (some 32)), some (vi i)] [] (I', L', R', n') (bq n') Q) : Wp (mL_law N xs) 835 [some (vr (some 1000000)), some (vr (some 0)), some (vr (some 32)), some (vi i)] [] (I, L, R, n) (bq n) Q := by
  have hS := hSR.1
  have hn := hS.1
  have hFx := hS.2.1
  have hW := hS.2.2.1
  have h11 := hSR.2.2.2.2.2.1
  have hpu := hSR.2.1
  have hlk := hSR.2.2.1
  have ht := hSR.2.2.2.1
  refine Wp.aload_n rfl dL_law_835 ?_
  refine Wp.aload_n rfl dL_law_836 ?_
  refine Wp.iload_n rfl dL_law_837 ?_
  refine Wp.iconst dL_law_838 ?_
  refine Wp.iadd dL_law_839 ?_
  refine Wp.sld rfl dL_law_840 (by omega) (by omega) (by omega) ?_
  refine Wp.aload_n rfl dL_law_841 ?_
  refine Wp.iload_n rfl dL_law_842 ?_
  refine Wp.iconst dL_law_843 ?_
  refine Wp.iadd dL_law_844 ?_
  refine Wp.sld rfl dL_law_845 (by omega) (by omega) (by omega) ?_
  refine Wp.aload_n rfl dL_law_846 ?_
  refine Wp.iload_n rfl dL_law_847 ?_
  refine Wp.iconst dL_law_848 ?_
  refine Wp.iadd dL_law_849 ?_
  refine Wp.sld rfl dL_law_850 (by omega) (by omega) (by omega) ?_
  refine Wp.aload_n rfl dL_law_851 ?_
  refine Wp.iload_n rfl dL_law_852 ?_
  refine Wp.iconst dL_law_853 ?_
  refine Wp.iadd dL_law_854 ?_
  refine Wp.sld rfl dL_law_855 (by omega) (by omega) (by omega) ?_
  refine Wp.callV (As := [_, _, _, _]) (ls0 := [_, _, _, _, _]) (bd := bq n) (bd' := (0, 0)) dL_law_856 kmX11_best lkL_89 (Nat.le_of_ble_eq_true rfl) (Nat.le_of_ble_eq_true rfl) (Nat.le_of_ble_eq_true rfl) (by first | rfl | exact kd_b0 _ | exact kd_b1 _ | exact kd_b2 _ | exact kd_b3 _ | exact kd_b4 _ | exact kd_b5 _ | exact kd_b6 _) (by omega) rfl rfl (Nat.le_of_ble_eq_true rfl) rfl ?_
  refine ct_X11_best hS (w_rng _) (w_rng _) (w_rng _) (w_rng _) (fun J eJ => ?_)
  have hSJ := SR_cg eJ (EqvL.rf L) hSR
  show Wp _ _ _ (_ :: _) _ _ _
  refine Wp.aload_n rfl dL_law_859 ?_
  refine Wp.aload_n rfl dL_law_860 ?_
  refine Wp.iload_n rfl dL_law_861 ?_
  refine Wp.iconst dL_law_862 ?_
  refine Wp.iadd dL_law_863 ?_
  refine Wp.sld rfl dL_law_864 (by omega) (by omega) (by omega) ?_
  refine Wp.aload_n rfl dL_law_865 ?_
  refine Wp.iload_n rfl dL_law_866 ?_
  refine Wp.iconst dL_law_867 ?_
  refine Wp.iadd dL_law_868 ?_
  refine Wp.sld rfl dL_law_869 (by omega) (by omega) (by omega) ?_
  refine Wp.aload_n rfl dL_law_870 ?_
  refine Wp.iload_n rfl dL_law_871 ?_
  refine Wp.iconst dL_law_872 ?_
  refine Wp.iadd dL_law_873 ?_
  refine Wp.sld rfl dL_law_874 (by omega) (by omega) (by omega) ?_
  refine Wp.aload_n rfl dL_law_875 ?_
  refine Wp.iload_n rfl dL_law_876 ?_
  refine Wp.iconst dL_law_877 ?_
  refine Wp.iadd dL_law_878 ?_
  refine Wp.sld rfl dL_law_879 (by omega) (by omega) (by omega) ?_
  refine Wp.callV (As := [_, _, _, _]) (ls0 := [_, _, _, _, _]) (bd := bq n) (bd' := (0, 0)) dL_law_880 kmX12_best lkL_92 (Nat.le_of_ble_eq_true rfl) (Nat.le_of_ble_eq_true rfl) (Nat.le_of_ble_eq_true rfl) (by first | rfl | exact kd_b0 _ | exact kd_b1 _ | exact kd_b2 _ | exact kd_b3 _ | exact kd_b4 _ | exact kd_b5 _ | exact kd_b6 _) (by omega) rfl rfl (Nat.le_of_ble_eq_true rfl) rfl ?_
  refine ct_X12_best hSJ.1.1 hSJ.1.2.1 hSJ.1.2.2.1 (w_rng _) (w_rng _) (w_rng _) (w_rng _) (fun J2 eJ2 => ?_)
  rw [hSJ.2.2.2.2.2.1, aBest_cg eJ.se]
  show Wp _ _ _ (_ :: _) _ _ _
  refine Wp.icmp_same (tgt := 1309) dL_law_883 (by decide) ?_
  exact hc J2 L R n (SR_cg eJ2 (EqvL.rf L) hSJ)
theorem lw_bridge (hN : N ≤ 3584) (hi0 : 0 ≤ i) (hi7 : i + 7 ≤ N) (hSR : SR I L R n) (hc : ∀ I' L' R' n', SR I' L' R' n' → Wp (mL_law N xs) 1309 [some (vr (some 1000000)), some (vr (some 0)), some (vr (some 32)), some (vi i)] [] (I', L', R', n') (bq n') Q) : Wp (mL_law N xs) 888 [some (vr (some 1000000)), some (vr (some 0)), some (vr (some 32)), some (vi i)] [] (I, L, R, n) (bq n) Q := by
  have hS := hSR.1
  have hn := hS.1
  have hFx := hS.2.1
  have hW := hS.2.2.1
  have h11 := hSR.2.2.2.2.2.1
  have hpu := hSR.2.1
  have hlk := hSR.2.2.1
  have ht := hSR.2.2.2.1
  refine Wp.aload_n rfl dL_law_888 ?_
  refine Wp.aload_n rfl dL_law_889 ?_
  refine Wp.iload_n rfl dL_law_890 ?_
  refine Wp.iconst dL_law_891 ?_
  refine Wp.iadd dL_law_892 ?_
  refine Wp.sld rfl dL_law_893 (by omega) (by omega) (by omega) ?_
  refine Wp.aload_n rfl dL_law_894 ?_
  refine Wp.iload_n rfl dL_law_895 ?_
  refine Wp.iconst dL_law_896 ?_
  refine Wp.iadd dL_law_897 ?_
  refine Wp.sld rfl dL_law_898 (by omega) (by omega) (by omega) ?_
  refine Wp.aload_n rfl dL_law_899 ?_
  refine Wp.iload_n rfl dL_law_900 ?_
  refine Wp.iconst dL_law_901 ?_
  refine Wp.iadd dL_law_902 ?_
  refine Wp.sld rfl dL_law_903 (by omega) (by omega) (by omega) ?_
  refine Wp.callV (As := [_, _, _]) (ls0 := [_, _, _, _, _]) (bd := bq n) (bd' := (0, 0)) dL_law_904 kmX11_bridge lkL_93 (Nat.le_of_ble_eq_true rfl) (Nat.le_of_ble_eq_true rfl) (Nat.le_of_ble_eq_true rfl) (by first | rfl | exact kd_b0 _ | exact kd_b1 _ | exact kd_b2 _ | exact kd_b3 _ | exact kd_b4 _ | exact kd_b5 _ | exact kd_b6 _) (by omega) rfl rfl (Nat.le_of_ble_eq_true rfl) rfl ?_
  refine ct_X11_bridge hS (w_rng _) (w_rng _) (w_rng _) (fun J eJ => ?_)
  have hSJ := SR_cg eJ (EqvL.rf L) hSR
  show Wp _ _ _ (_ :: _) _ _ _
  refine Wp.aload_n rfl dL_law_907 ?_
  refine Wp.aload_n rfl dL_law_908 ?_
  refine Wp.iload_n rfl dL_law_909 ?_
  refine Wp.iconst dL_law_910 ?_
  refine Wp.iadd dL_law_911 ?_
  refine Wp.sld rfl dL_law_912 (by omega) (by omega) (by omega) ?_
  refine Wp.aload_n rfl dL_law_913 ?_
  refine Wp.iload_n rfl dL_law_914 ?_
  refine Wp.iconst dL_law_915 ?_
  refine Wp.iadd dL_law_916 ?_
  refine Wp.sld rfl dL_law_917 (by omega) (by omega) (by omega) ?_
  refine Wp.aload_n rfl dL_law_918 ?_
  refine Wp.iload_n rfl dL_law_919 ?_
  refine Wp.iconst dL_law_920 ?_
  refine Wp.iadd dL_law_921 ?_
  refine Wp.sld rfl dL_law_922 (by omega) (by omega) (by omega) ?_
  refine Wp.callV (As := [_, _, _]) (ls0 := [_, _, _, _, _, _, _, _, _, _]) (bd := bq n) (bd' := (0, 0)) dL_law_923 kmX12_bridge lkL_96 (Nat.le_of_ble_eq_true rfl) (Nat.le_of_ble_eq_true rfl) (Nat.le_of_ble_eq_true rfl) (by first | rfl | exact kd_b0 _ | exact kd_b1 _ | exact kd_b2 _ | exact kd_b3 _ | exact kd_b4 _ | exact kd_b5 _ | exact kd_b6 _) (by omega) rfl rfl (Nat.le_of_ble_eq_true rfl) rfl ?_
  refine ct_X12_bridge hSJ.1.1 hSJ.1.2.1 hSJ.1.2.2.1 (w_rng _) (w_rng _) (w_rng _) (fun J2 eJ2 => ?_)
  rw [hSJ.2.2.2.2.2.1, aBridge_cg eJ.se]
  show Wp _ _ _ (_ :: _) _ _ _
  refine Wp.icmp_same (tgt := 1309) dL_law_926 (by decide) ?_
  exact hc J2 L R n (SR_cg eJ2 (EqvL.rf L) hSJ)
theorem lw_alike (hN : N ≤ 3584) (hi0 : 0 ≤ i) (hi7 : i + 7 ≤ N) (hSR : SR I L R n) (hc : ∀ I' L' R' n', SR I' L' R' n' → Wp (mL_law N xs) 1309 [some (vr (some 1000000)), some (vr (some 0)), some (vr (some 32)), some (vi i)] [] (I', L', R', n') (bq n') Q) : Wp (mL_law N xs) 931 [some (vr (some 1000000)), some (vr (some 0)), some (vr (some 32)), some (vi i)] [] (I, L, R, n) (bq n) Q := by
  have hS := hSR.1
  have hn := hS.1
  have hFx := hS.2.1
  have hW := hS.2.2.1
  have h11 := hSR.2.2.2.2.2.1
  have hpu := hSR.2.1
  have hlk := hSR.2.2.1
  have ht := hSR.2.2.2.1
  refine Wp.aload_n rfl dL_law_931 ?_
  refine Wp.aload_n rfl dL_law_932 ?_
  refine Wp.iload_n rfl dL_law_933 ?_
  refine Wp.iconst dL_law_934 ?_
  refine Wp.iadd dL_law_935 ?_
  refine Wp.sld rfl dL_law_936 (by omega) (by omega) (by omega) ?_
  refine Wp.aload_n rfl dL_law_937 ?_
  refine Wp.iload_n rfl dL_law_938 ?_
  refine Wp.iconst dL_law_939 ?_
  refine Wp.iadd dL_law_940 ?_
  refine Wp.sld rfl dL_law_941 (by omega) (by omega) (by omega) ?_
  refine Wp.aload_n rfl dL_law_942 ?_
  refine Wp.iload_n rfl dL_law_943 ?_
  refine Wp.iconst dL_law_944 ?_
  refine Wp.iadd dL_law_945 ?_
  refine Wp.sld rfl dL_law_946 (by omega) (by omega) (by omega) ?_
  refine Wp.aload_n rfl dL_law_947 ?_
  refine Wp.iload_n rfl dL_law_948 ?_
  refine Wp.iconst dL_law_949 ?_
  refine Wp.iadd dL_law_950 ?_
  refine Wp.sld rfl dL_law_951 (by omega) (by omega) (by omega) ?_
  refine Wp.callV (As := [_, _, _, _]) (ls0 := [_, _, _, _, _]) (bd := bq n) (bd' := (0, 0)) dL_law_952 kmX11_alike lkL_97 (Nat.le_of_ble_eq_true rfl) (Nat.le_of_ble_eq_true rfl) (Nat.le_of_ble_eq_true rfl) (by first | rfl | exact kd_b0 _ | exact kd_b1 _ | exact kd_b2 _ | exact kd_b3 _ | exact kd_b4 _ | exact kd_b5 _ | exact kd_b6 _) (by omega) rfl rfl (Nat.le_of_ble_eq_true rfl) rfl ?_
  refine alikeC hSR (w_rng _) (w_rng _) (w_rng _) (w_rng _) (fun J hJ => ?_)
  have hh := SR_alike hSR hJ
  have hkJ : AkW (J 43) (J 44) (J 45) (J 46) (J 32 25) := by rw [hh.1.1.1, hh.1.1.2.1, hh.1.1.2.2.1, hh.1.1.2.2.2.1, hh.1.1.2.2.2.2]; exact hlk.2.2
  show Wp _ _ _ (_ :: _) _ _ _
  refine Wp.aload_n rfl dL_law_955 ?_
  refine Wp.aload_n rfl dL_law_956 ?_
  refine Wp.iload_n rfl dL_law_957 ?_
  refine Wp.iconst dL_law_958 ?_
  refine Wp.iadd dL_law_959 ?_
  refine Wp.sld rfl dL_law_960 (by omega) (by omega) (by omega) ?_
  refine Wp.aload_n rfl dL_law_961 ?_
  refine Wp.iload_n rfl dL_law_962 ?_
  refine Wp.iconst dL_law_963 ?_
  refine Wp.iadd dL_law_964 ?_
  refine Wp.sld rfl dL_law_965 (by omega) (by omega) (by omega) ?_
  refine Wp.aload_n rfl dL_law_966 ?_
  refine Wp.iload_n rfl dL_law_967 ?_
  refine Wp.iconst dL_law_968 ?_
  refine Wp.iadd dL_law_969 ?_
  refine Wp.sld rfl dL_law_970 (by omega) (by omega) (by omega) ?_
  refine Wp.aload_n rfl dL_law_971 ?_
  refine Wp.iload_n rfl dL_law_972 ?_
  refine Wp.iconst dL_law_973 ?_
  refine Wp.iadd dL_law_974 ?_
  refine Wp.sld rfl dL_law_975 (by omega) (by omega) (by omega) ?_
  refine Wp.callV (As := [_, _, _, _]) (ls0 := [_, _, _, _, _, _, _, _]) (bd := bq n) (bd' := (0, 0)) dL_law_976 kmX12_alike lkL_100 (Nat.le_of_ble_eq_true rfl) (Nat.le_of_ble_eq_true rfl) (Nat.le_of_ble_eq_true rfl) (by first | rfl | exact kd_b0 _ | exact kd_b1 _ | exact kd_b2 _ | exact kd_b3 _ | exact kd_b4 _ | exact kd_b5 _ | exact kd_b6 _) (by omega) rfl rfl (Nat.le_of_ble_eq_true rfl) rfl ?_
  refine ct_X12_alike hn hFx (w_rng _) (w_rng _) (w_rng _) (w_rng _) hkJ ?_
  show Wp _ _ _ (_ :: _) _ _ _
  refine Wp.icmp_same (tgt := 1309) dL_law_979 (by decide) ?_
  rw [hh.1.1.1, hh.1.1.2.1, hh.1.1.2.2.1, hh.1.1.2.2.2.1, hh.1.1.2.2.2.2]; exact hc _ L R n hh.2
theorem lw_friends (hN : N ≤ 3584) (hi0 : 0 ≤ i) (hi7 : i + 7 ≤ N) (hSR : SR I L R n) (hc : ∀ I' L' R' n', SR I' L' R' n' → Wp (mL_law N xs) 1309 [some (vr (some 1000000)), some (vr (some 0)), some (vr (some 32)), some (vi i)] [] (I', L', R', n') (bq n') Q) : Wp (mL_law N xs) 984 [some (vr (some 1000000)), some (vr (some 0)), some (vr (some 32)), some (vi i)] [] (I, L, R, n) (bq n) Q := by
  have hS := hSR.1
  have hn := hS.1
  have hFx := hS.2.1
  have hW := hS.2.2.1
  have h11 := hSR.2.2.2.2.2.1
  have hpu := hSR.2.1
  have hlk := hSR.2.2.1
  have ht := hSR.2.2.2.1
  refine Wp.aload_n rfl dL_law_984 ?_
  refine Wp.aload_n rfl dL_law_985 ?_
  refine Wp.iload_n rfl dL_law_986 ?_
  refine Wp.iconst dL_law_987 ?_
  refine Wp.iadd dL_law_988 ?_
  refine Wp.sld rfl dL_law_989 (by omega) (by omega) (by omega) ?_
  refine Wp.callV (As := [_]) (ls0 := [_, _, _, _]) (bd := bq n) (bd' := (0, 0)) dL_law_990 kmX11_friends lkL_101 (Nat.le_of_ble_eq_true rfl) (Nat.le_of_ble_eq_true rfl) (Nat.le_of_ble_eq_true rfl) (by first | rfl | exact kd_b0 _ | exact kd_b1 _ | exact kd_b2 _ | exact kd_b3 _ | exact kd_b4 _ | exact kd_b5 _ | exact kd_b6 _) (by omega) rfl rfl (Nat.le_of_ble_eq_true rfl) rfl ?_
  refine ct_X11_friends hS (AkW_A hlk) (w_rng _) ?_
  rw [aFriends_A hlk]
  show Wp _ _ _ (_ :: _) _ _ _
  refine Wp.aload_n rfl dL_law_993 ?_
  refine Wp.aload_n rfl dL_law_994 ?_
  refine Wp.iload_n rfl dL_law_995 ?_
  refine Wp.iconst dL_law_996 ?_
  refine Wp.iadd dL_law_997 ?_
  refine Wp.sld rfl dL_law_998 (by omega) (by omega) (by omega) ?_
  refine Wp.callV (As := [_]) (ls0 := [_, _, _, _]) (bd := bq n) (bd' := (0, 0)) dL_law_999 kmX12_friends lkL_104 (Nat.le_of_ble_eq_true rfl) (Nat.le_of_ble_eq_true rfl) (Nat.le_of_ble_eq_true rfl) (by first | rfl | exact kd_b0 _ | exact kd_b1 _ | exact kd_b2 _ | exact kd_b3 _ | exact kd_b4 _ | exact kd_b5 _ | exact kd_b6 _) (by omega) rfl rfl (Nat.le_of_ble_eq_true rfl) rfl ?_
  refine ct_X12_friends hn hFx hW hlk.2.2 (w_rng _) ?_
  rw [h11]
  show Wp _ _ _ (_ :: _) _ _ _
  refine Wp.icmp_same (tgt := 1309) dL_law_1002 (by decide) ?_
  exact hc I L R n hSR
theorem lw_pair (hN : N ≤ 3584) (hi0 : 0 ≤ i) (hi7 : i + 7 ≤ N) (hSR : SR I L R n) (hc : ∀ I' L' R' n', SR I' L' R' n' → Wp (mL_law N xs) 1309 [some (vr (some 1000000)), some (vr (some 0)), some (vr (some 32)), some (vi i)] [] (I', L', R', n') (bq n') Q) : Wp (mL_law N xs) 1007 [some (vr (some 1000000)), some (vr (some 0)), some (vr (some 32)), some (vi i)] [] (I, L, R, n) (bq n) Q := by
  have hS := hSR.1
  have hn := hS.1
  have hFx := hS.2.1
  have hW := hS.2.2.1
  have h11 := hSR.2.2.2.2.2.1
  have hpu := hSR.2.1
  have hlk := hSR.2.2.1
  have ht := hSR.2.2.2.1
  refine Wp.aload_n rfl dL_law_1007 ?_
  refine Wp.aload_n rfl dL_law_1008 ?_
  refine Wp.iload_n rfl dL_law_1009 ?_
  refine Wp.iconst dL_law_1010 ?_
  refine Wp.iadd dL_law_1011 ?_
  refine Wp.sld rfl dL_law_1012 (by omega) (by omega) (by omega) ?_
  refine Wp.aload_n rfl dL_law_1013 ?_
  refine Wp.iload_n rfl dL_law_1014 ?_
  refine Wp.iconst dL_law_1015 ?_
  refine Wp.iadd dL_law_1016 ?_
  refine Wp.sld rfl dL_law_1017 (by omega) (by omega) (by omega) ?_
  refine Wp.aload_n rfl dL_law_1018 ?_
  refine Wp.iload_n rfl dL_law_1019 ?_
  refine Wp.iconst dL_law_1020 ?_
  refine Wp.iadd dL_law_1021 ?_
  refine Wp.sld rfl dL_law_1022 (by omega) (by omega) (by omega) ?_
  refine Wp.aload_n rfl dL_law_1023 ?_
  refine Wp.iload_n rfl dL_law_1024 ?_
  refine Wp.iconst dL_law_1025 ?_
  refine Wp.iadd dL_law_1026 ?_
  refine Wp.sld rfl dL_law_1027 (by omega) (by omega) (by omega) ?_
  refine Wp.callV (As := [_, _, _, _]) (ls0 := [_, _, _, _, _]) (bd := bq n) (bd' := (0, 0)) dL_law_1028 kmX11_pair lkL_105 (Nat.le_of_ble_eq_true rfl) (Nat.le_of_ble_eq_true rfl) (Nat.le_of_ble_eq_true rfl) (by first | rfl | exact kd_b0 _ | exact kd_b1 _ | exact kd_b2 _ | exact kd_b3 _ | exact kd_b4 _ | exact kd_b5 _ | exact kd_b6 _) (by omega) rfl rfl (Nat.le_of_ble_eq_true rfl) rfl ?_
  refine pairC hSR (w_rng _) (w_rng _) (w_rng _) (w_rng _) (fun J hJ => ?_)
  have hh := SR_pair hSR hJ
  show Wp _ _ _ (_ :: _) _ _ _
  refine Wp.aload_n rfl dL_law_1031 ?_
  refine Wp.aload_n rfl dL_law_1032 ?_
  refine Wp.iload_n rfl dL_law_1033 ?_
  refine Wp.iconst dL_law_1034 ?_
  refine Wp.iadd dL_law_1035 ?_
  refine Wp.sld rfl dL_law_1036 (by omega) (by omega) (by omega) ?_
  refine Wp.aload_n rfl dL_law_1037 ?_
  refine Wp.iload_n rfl dL_law_1038 ?_
  refine Wp.iconst dL_law_1039 ?_
  refine Wp.iadd dL_law_1040 ?_
  refine Wp.sld rfl dL_law_1041 (by omega) (by omega) (by omega) ?_
  refine Wp.aload_n rfl dL_law_1042 ?_
  refine Wp.iload_n rfl dL_law_1043 ?_
  refine Wp.iconst dL_law_1044 ?_
  refine Wp.iadd dL_law_1045 ?_
  refine Wp.sld rfl dL_law_1046 (by omega) (by omega) (by omega) ?_
  refine Wp.aload_n rfl dL_law_1047 ?_
  refine Wp.iload_n rfl dL_law_1048 ?_
  refine Wp.iconst dL_law_1049 ?_
  refine Wp.iadd dL_law_1050 ?_
  refine Wp.sld rfl dL_law_1051 (by omega) (by omega) (by omega) ?_
  refine Wp.callV (As := [_, _, _, _]) (ls0 := [_, _, _, _, _]) (bd := bq n) (bd' := (0, 0)) dL_law_1052 kmX12_pair lkL_108 (Nat.le_of_ble_eq_true rfl) (Nat.le_of_ble_eq_true rfl) (Nat.le_of_ble_eq_true rfl) (by first | rfl | exact kd_b0 _ | exact kd_b1 _ | exact kd_b2 _ | exact kd_b3 _ | exact kd_b4 _ | exact kd_b5 _ | exact kd_b6 _) (by omega) rfl rfl (Nat.le_of_ble_eq_true rfl) rfl ?_
  refine ct_X12_pair hn hFx (w_rng _) (w_rng _) (w_rng _) (w_rng _) (by rw [hh.1.1]; exact hpu.2.2.2.2.2.1.1) (by rw [hh.1.1]; exact hpu.2.2.2.2.2.1.2.1) ?_
  show Wp _ _ _ (_ :: _) _ _ _
  refine Wp.icmp_same (tgt := 1309) dL_law_1055 (by decide) ?_
  exact hc _ L R n hh.2
theorem lw_say (hN : N ≤ 3584) (hi0 : 0 ≤ i) (hi7 : i + 7 ≤ N) (hSR : SR I L R n) (hc : ∀ I' L' R' n', SR I' L' R' n' → Wp (mL_law N xs) 1309 [some (vr (some 1000000)), some (vr (some 0)), some (vr (some 32)), some (vi i)] [] (I', L', R', n') (bq n') Q) : Wp (mL_law N xs) 1060 [some (vr (some 1000000)), some (vr (some 0)), some (vr (some 32)), some (vi i)] [] (I, L, R, n) (bq n) Q := by
  have hS := hSR.1
  have hn := hS.1
  have hFx := hS.2.1
  have hW := hS.2.2.1
  have h11 := hSR.2.2.2.2.2.1
  have hpu := hSR.2.1
  have hlk := hSR.2.2.1
  have ht := hSR.2.2.2.1
  refine Wp.aload_n rfl dL_law_1060 ?_
  refine Wp.aload_n rfl dL_law_1061 ?_
  refine Wp.iload_n rfl dL_law_1062 ?_
  refine Wp.iconst dL_law_1063 ?_
  refine Wp.iadd dL_law_1064 ?_
  refine Wp.sld rfl dL_law_1065 (by omega) (by omega) (by omega) ?_
  refine Wp.aload_n rfl dL_law_1066 ?_
  refine Wp.iload_n rfl dL_law_1067 ?_
  refine Wp.iconst dL_law_1068 ?_
  refine Wp.iadd dL_law_1069 ?_
  refine Wp.sld rfl dL_law_1070 (by omega) (by omega) (by omega) ?_
  refine Wp.callV (As := [_, _]) (ls0 := [_, _, _]) (bd := bq n) (bd' := (0, 0)) dL_law_1071 kmX11_say lkL_109 (Nat.le_of_ble_eq_true rfl) (Nat.le_of_ble_eq_true rfl) (Nat.le_of_ble_eq_true rfl) (by first | rfl | exact kd_b0 _ | exact kd_b1 _ | exact kd_b2 _ | exact kd_b3 _ | exact kd_b4 _ | exact kd_b5 _ | exact kd_b6 _) (by omega) rfl rfl (Nat.le_of_ble_eq_true rfl) rfl ?_
  refine sayC hSR (w_rng _) (w_rng _) (fun J hJ => ?_)
  have hh := SR_say (w_rng _) hSR hJ
  show Wp _ _ _ (_ :: _) _ _ _
  refine Wp.aload_n rfl dL_law_1074 ?_
  refine Wp.aload_n rfl dL_law_1075 ?_
  refine Wp.iload_n rfl dL_law_1076 ?_
  refine Wp.iconst dL_law_1077 ?_
  refine Wp.iadd dL_law_1078 ?_
  refine Wp.sld rfl dL_law_1079 (by omega) (by omega) (by omega) ?_
  refine Wp.aload_n rfl dL_law_1080 ?_
  refine Wp.iload_n rfl dL_law_1081 ?_
  refine Wp.iconst dL_law_1082 ?_
  refine Wp.iadd dL_law_1083 ?_
  refine Wp.sld rfl dL_law_1084 (by omega) (by omega) (by omega) ?_
  refine Wp.callV (As := [_, _]) (ls0 := [_, _, _]) (bd := bq n) (bd' := (0, 0)) dL_law_1085 kmX12_say lkL_112 (Nat.le_of_ble_eq_true rfl) (Nat.le_of_ble_eq_true rfl) (Nat.le_of_ble_eq_true rfl) (by first | rfl | exact kd_b0 _ | exact kd_b1 _ | exact kd_b2 _ | exact kd_b3 _ | exact kd_b4 _ | exact kd_b5 _ | exact kd_b6 _) (by omega) rfl rfl (Nat.le_of_ble_eq_true rfl) rfl ?_
  refine ct_X12_say hn hFx (w_rng _) (w_rng _) (by rw [hh.1.1]; exact hpu.2.2.2.2.2.2.1.1) (by rw [hh.1.1]; exact hpu.2.2.2.2.2.2.1.2) (by rw [hh.1.2.1]; exact hpu.2.2.2.2.2.2.2.1) ?_
  show Wp _ _ _ (_ :: _) _ _ _
  refine Wp.icmp_same (tgt := 1309) dL_law_1088 (by decide) ?_
  exact hc _ L R n hh.2
theorem lw_clear (hN : N ≤ 3584) (hi0 : 0 ≤ i) (hi7 : i + 7 ≤ N) (hSR : SR I L R n) (hc : ∀ I' L' R' n', SR I' L' R' n' → Wp (mL_law N xs) 1309 [some (vr (some 1000000)), some (vr (some 0)), some (vr (some 32)), some (vi i)] [] (I', L', R', n') (bq n') Q) : Wp (mL_law N xs) 1093 [some (vr (some 1000000)), some (vr (some 0)), some (vr (some 32)), some (vi i)] [] (I, L, R, n) (bq n) Q := by
  have hS := hSR.1
  have hn := hS.1
  have hFx := hS.2.1
  have hW := hS.2.2.1
  have h11 := hSR.2.2.2.2.2.1
  have hpu := hSR.2.1
  have hlk := hSR.2.2.1
  have ht := hSR.2.2.2.1
  refine Wp.aload_n rfl dL_law_1093 ?_
  refine Wp.callV (As := []) (ls0 := [_, _]) (bd := bq n) (bd' := (0, 0)) dL_law_1094 kmX11_clear lkL_113 (Nat.le_of_ble_eq_true rfl) (Nat.le_of_ble_eq_true rfl) (Nat.le_of_ble_eq_true rfl) (by first | rfl | exact kd_b0 _ | exact kd_b1 _ | exact kd_b2 _ | exact kd_b3 _ | exact kd_b4 _ | exact kd_b5 _ | exact kd_b6 _) (by omega) rfl rfl (Nat.le_of_ble_eq_true rfl) rfl ?_
  refine clearC hSR (fun J hJ => ?_)
  have hh := SR_clear hSR
  rw [← hJ] at hh
  show Wp _ _ _ (_ :: _) _ _ _
  refine Wp.aload_n rfl dL_law_1097 ?_
  refine Wp.callV (As := []) (ls0 := [_, _]) (bd := bq n) (bd' := (0, 0)) dL_law_1098 kmX12_clear lkL_116 (Nat.le_of_ble_eq_true rfl) (Nat.le_of_ble_eq_true rfl) (Nat.le_of_ble_eq_true rfl) (by first | rfl | exact kd_b0 _ | exact kd_b1 _ | exact kd_b2 _ | exact kd_b3 _ | exact kd_b4 _ | exact kd_b5 _ | exact kd_b6 _) (by omega) rfl rfl (Nat.le_of_ble_eq_true rfl) rfl ?_
  refine ct_X12_clear hn ?_
  show Wp _ _ _ (_ :: _) _ _ _
  refine Wp.icmp_same (tgt := 1309) dL_law_1101 (by decide) ?_
  exact hc _ L R n hh
theorem lw_put (hN : N ≤ 3584) (hi0 : 0 ≤ i) (hi7 : i + 7 ≤ N) (hSR : SR I L R n) (hc : ∀ I' L' R' n', SR I' L' R' n' → Wp (mL_law N xs) 1309 [some (vr (some 1000000)), some (vr (some 0)), some (vr (some 32)), some (vi i)] [] (I', L', R', n') (bq n') Q) : Wp (mL_law N xs) 1106 [some (vr (some 1000000)), some (vr (some 0)), some (vr (some 32)), some (vi i)] [] (I, L, R, n) (bq n) Q := by
  have hS := hSR.1
  have hn := hS.1
  have hFx := hS.2.1
  have hW := hS.2.2.1
  have h11 := hSR.2.2.2.2.2.1
  have hpu := hSR.2.1
  have hlk := hSR.2.2.1
  have ht := hSR.2.2.2.1
  refine Wp.aload_n rfl dL_law_1106 ?_
  refine Wp.aload_n rfl dL_law_1107 ?_
  refine Wp.iload_n rfl dL_law_1108 ?_
  refine Wp.iconst dL_law_1109 ?_
  refine Wp.iadd dL_law_1110 ?_
  refine Wp.sld rfl dL_law_1111 (by omega) (by omega) (by omega) ?_
  refine Wp.aload_n rfl dL_law_1112 ?_
  refine Wp.iload_n rfl dL_law_1113 ?_
  refine Wp.iconst dL_law_1114 ?_
  refine Wp.iadd dL_law_1115 ?_
  refine Wp.sld rfl dL_law_1116 (by omega) (by omega) (by omega) ?_
  refine Wp.aload_n rfl dL_law_1117 ?_
  refine Wp.iload_n rfl dL_law_1118 ?_
  refine Wp.iconst dL_law_1119 ?_
  refine Wp.iadd dL_law_1120 ?_
  refine Wp.sld rfl dL_law_1121 (by omega) (by omega) (by omega) ?_
  refine Wp.callV (As := [_, _, _]) (ls0 := [_, _, _, _]) (bd := bq n) (bd' := (0, 0)) dL_law_1122 kmX11_put lkL_117 (Nat.le_of_ble_eq_true rfl) (Nat.le_of_ble_eq_true rfl) (Nat.le_of_ble_eq_true rfl) (by first | rfl | exact kd_b0 _ | exact kd_b1 _ | exact kd_b2 _ | exact kd_b3 _ | exact kd_b4 _ | exact kd_b5 _ | exact kd_b6 _) (by omega) rfl rfl (Nat.le_of_ble_eq_true rfl) rfl ?_
  refine ct_X11_put hS hpu (w_rng _) (w_rng _) (w_rng _) (fun J eJ => ?_)
  have hSJ := SR_cg eJ (EqvL.rf L) hSR
  have hpj := hSJ.2.1
  show Wp _ _ _ (_ :: _) _ _ _
  refine Wp.aload_n rfl dL_law_1125 ?_
  refine Wp.aload_n rfl dL_law_1126 ?_
  refine Wp.iload_n rfl dL_law_1127 ?_
  refine Wp.iconst dL_law_1128 ?_
  refine Wp.iadd dL_law_1129 ?_
  refine Wp.sld rfl dL_law_1130 (by omega) (by omega) (by omega) ?_
  refine Wp.aload_n rfl dL_law_1131 ?_
  refine Wp.iload_n rfl dL_law_1132 ?_
  refine Wp.iconst dL_law_1133 ?_
  refine Wp.iadd dL_law_1134 ?_
  refine Wp.sld rfl dL_law_1135 (by omega) (by omega) (by omega) ?_
  refine Wp.aload_n rfl dL_law_1136 ?_
  refine Wp.iload_n rfl dL_law_1137 ?_
  refine Wp.iconst dL_law_1138 ?_
  refine Wp.iadd dL_law_1139 ?_
  refine Wp.sld rfl dL_law_1140 (by omega) (by omega) (by omega) ?_
  refine Wp.callV (As := [_, _, _]) (ls0 := [_, _, _, _, _, _, _, _, _, _, _, _]) (bd := bq n) (bd' := (0, 0)) dL_law_1141 kmX12_put lkL_120 (Nat.le_of_ble_eq_true rfl) (Nat.le_of_ble_eq_true rfl) (Nat.le_of_ble_eq_true rfl) (by first | rfl | exact kd_b0 _ | exact kd_b1 _ | exact kd_b2 _ | exact kd_b3 _ | exact kd_b4 _ | exact kd_b5 _ | exact kd_b6 _) (by omega) rfl rfl (Nat.le_of_ble_eq_true rfl) rfl ?_
  refine ct_X12_put hSJ.1.1 hSJ.1.2.1 hSJ.1.2.2.1 hpj.2.2.2.2.2.1 (w_rng _) (w_rng _) (w_rng _) hpj.2.2.2.2.2.2.1.1 hpj.2.2.2.2.2.2.1.2 hpj.2.2.2.2.2.2.2.1 (fun j hj => (hpj.2.2.1 j hj).2) (fun J2 eJ2 => ?_)
  rw [hSJ.2.2.2.2.2.1, aPut_cg eJ]
  show Wp _ _ _ (_ :: _) _ _ _
  refine Wp.icmp_same (tgt := 1309) dL_law_1144 (by decide) ?_
  exact hc J2 L R n (SR_cg eJ2 (EqvL.rf L) hSJ)
theorem lw_chain (hN : N ≤ 3584) (hi0 : 0 ≤ i) (hi7 : i + 7 ≤ N) (hSR : SR I L R n) (hc : ∀ I' L' R' n', SR I' L' R' n' → Wp (mL_law N xs) 1309 [some (vr (some 1000000)), some (vr (some 0)), some (vr (some 32)), some (vi i)] [] (I', L', R', n') (bq n') Q) : Wp (mL_law N xs) 1149 [some (vr (some 1000000)), some (vr (some 0)), some (vr (some 32)), some (vi i)] [] (I, L, R, n) (bq n) Q := by
  have hS := hSR.1
  have hn := hS.1
  have hFx := hS.2.1
  have hW := hS.2.2.1
  have h11 := hSR.2.2.2.2.2.1
  have hpu := hSR.2.1
  have hlk := hSR.2.2.1
  have ht := hSR.2.2.2.1
  refine Wp.aload_n rfl dL_law_1149 ?_
  refine Wp.aload_n rfl dL_law_1150 ?_
  refine Wp.iload_n rfl dL_law_1151 ?_
  refine Wp.iconst dL_law_1152 ?_
  refine Wp.iadd dL_law_1153 ?_
  refine Wp.sld rfl dL_law_1154 (by omega) (by omega) (by omega) ?_
  refine Wp.aload_n rfl dL_law_1155 ?_
  refine Wp.iload_n rfl dL_law_1156 ?_
  refine Wp.iconst dL_law_1157 ?_
  refine Wp.iadd dL_law_1158 ?_
  refine Wp.sld rfl dL_law_1159 (by omega) (by omega) (by omega) ?_
  refine Wp.aload_n rfl dL_law_1160 ?_
  refine Wp.iload_n rfl dL_law_1161 ?_
  refine Wp.iconst dL_law_1162 ?_
  refine Wp.iadd dL_law_1163 ?_
  refine Wp.sld rfl dL_law_1164 (by omega) (by omega) (by omega) ?_
  refine Wp.callV (As := [_, _, _]) (ls0 := [_, _, _, _]) (bd := bq n) (bd' := (0, 0)) dL_law_1165 kmX11_chain lkL_121 (Nat.le_of_ble_eq_true rfl) (Nat.le_of_ble_eq_true rfl) (Nat.le_of_ble_eq_true rfl) (by first | rfl | exact kd_b0 _ | exact kd_b1 _ | exact kd_b2 _ | exact kd_b3 _ | exact kd_b4 _ | exact kd_b5 _ | exact kd_b6 _) (by omega) rfl rfl (Nat.le_of_ble_eq_true rfl) rfl ?_
  refine ct_X11_chain hS (w_rng _) (w_rng _) (w_rng _) (fun J eJ => ?_)
  have hSJ := SR_cg eJ (EqvL.rf L) hSR
  show Wp _ _ _ (_ :: _) _ _ _
  refine Wp.aload_n rfl dL_law_1168 ?_
  refine Wp.aload_n rfl dL_law_1169 ?_
  refine Wp.iload_n rfl dL_law_1170 ?_
  refine Wp.iconst dL_law_1171 ?_
  refine Wp.iadd dL_law_1172 ?_
  refine Wp.sld rfl dL_law_1173 (by omega) (by omega) (by omega) ?_
  refine Wp.aload_n rfl dL_law_1174 ?_
  refine Wp.iload_n rfl dL_law_1175 ?_
  refine Wp.iconst dL_law_1176 ?_
  refine Wp.iadd dL_law_1177 ?_
  refine Wp.sld rfl dL_law_1178 (by omega) (by omega) (by omega) ?_
  refine Wp.aload_n rfl dL_law_1179 ?_
  refine Wp.iload_n rfl dL_law_1180 ?_
  refine Wp.iconst dL_law_1181 ?_
  refine Wp.iadd dL_law_1182 ?_
  refine Wp.sld rfl dL_law_1183 (by omega) (by omega) (by omega) ?_
  refine Wp.callV (As := [_, _, _]) (ls0 := [_, _, _, _]) (bd := bq n) (bd' := (0, 0)) dL_law_1184 kmX12_chain lkL_124 (Nat.le_of_ble_eq_true rfl) (Nat.le_of_ble_eq_true rfl) (Nat.le_of_ble_eq_true rfl) (by first | rfl | exact kd_b0 _ | exact kd_b1 _ | exact kd_b2 _ | exact kd_b3 _ | exact kd_b4 _ | exact kd_b5 _ | exact kd_b6 _) (by omega) rfl rfl (Nat.le_of_ble_eq_true rfl) rfl ?_
  refine ct_X12_chain hSJ.1.1 hSJ.1.2.1 hSJ.1.2.2.1 (w_rng _) (w_rng _) (w_rng _) (fun J2 eJ2 => ?_)
  rw [hSJ.2.2.2.2.2.1, ldB_f eJ.se]
  show Wp _ _ _ (_ :: _) _ _ _
  refine Wp.icmp_same (tgt := 1309) dL_law_1187 (by decide) ?_
  exact hc J2 L R n (SR_cg eJ2 (EqvL.rf L) hSJ)
theorem lw_across (hN : N ≤ 3584) (hi0 : 0 ≤ i) (hi7 : i + 7 ≤ N) (hSR : SR I L R n) (hc : ∀ I' L' R' n', SR I' L' R' n' → Wp (mL_law N xs) 1309 [some (vr (some 1000000)), some (vr (some 0)), some (vr (some 32)), some (vi i)] [] (I', L', R', n') (bq n') Q) : Wp (mL_law N xs) 1192 [some (vr (some 1000000)), some (vr (some 0)), some (vr (some 32)), some (vi i)] [] (I, L, R, n) (bq n) Q := by
  have hS := hSR.1
  have hn := hS.1
  have hFx := hS.2.1
  have hW := hS.2.2.1
  have h11 := hSR.2.2.2.2.2.1
  have hpu := hSR.2.1
  have hlk := hSR.2.2.1
  have ht := hSR.2.2.2.1
  refine Wp.aload_n rfl dL_law_1192 ?_
  refine Wp.aload_n rfl dL_law_1193 ?_
  refine Wp.iload_n rfl dL_law_1194 ?_
  refine Wp.iconst dL_law_1195 ?_
  refine Wp.iadd dL_law_1196 ?_
  refine Wp.sld rfl dL_law_1197 (by omega) (by omega) (by omega) ?_
  refine Wp.aload_n rfl dL_law_1198 ?_
  refine Wp.iload_n rfl dL_law_1199 ?_
  refine Wp.iconst dL_law_1200 ?_
  refine Wp.iadd dL_law_1201 ?_
  refine Wp.sld rfl dL_law_1202 (by omega) (by omega) (by omega) ?_
  refine Wp.aload_n rfl dL_law_1203 ?_
  refine Wp.iload_n rfl dL_law_1204 ?_
  refine Wp.iconst dL_law_1205 ?_
  refine Wp.iadd dL_law_1206 ?_
  refine Wp.sld rfl dL_law_1207 (by omega) (by omega) (by omega) ?_
  refine Wp.callV (As := [_, _, _]) (ls0 := [_, _, _, _]) (bd := bq n) (bd' := (0, 0)) dL_law_1208 kmX11_across lkL_125 (Nat.le_of_ble_eq_true rfl) (Nat.le_of_ble_eq_true rfl) (Nat.le_of_ble_eq_true rfl) (by first | rfl | exact kd_b0 _ | exact kd_b1 _ | exact kd_b2 _ | exact kd_b3 _ | exact kd_b4 _ | exact kd_b5 _ | exact kd_b6 _) (by omega) rfl rfl (Nat.le_of_ble_eq_true rfl) rfl ?_
  refine ct_X11_across hS (w_rng _) (w_rng _) (w_rng _) (fun J eJ => ?_)
  have hSJ := SR_cg eJ (EqvL.rf L) hSR
  show Wp _ _ _ (_ :: _) _ _ _
  refine Wp.aload_n rfl dL_law_1211 ?_
  refine Wp.aload_n rfl dL_law_1212 ?_
  refine Wp.iload_n rfl dL_law_1213 ?_
  refine Wp.iconst dL_law_1214 ?_
  refine Wp.iadd dL_law_1215 ?_
  refine Wp.sld rfl dL_law_1216 (by omega) (by omega) (by omega) ?_
  refine Wp.aload_n rfl dL_law_1217 ?_
  refine Wp.iload_n rfl dL_law_1218 ?_
  refine Wp.iconst dL_law_1219 ?_
  refine Wp.iadd dL_law_1220 ?_
  refine Wp.sld rfl dL_law_1221 (by omega) (by omega) (by omega) ?_
  refine Wp.aload_n rfl dL_law_1222 ?_
  refine Wp.iload_n rfl dL_law_1223 ?_
  refine Wp.iconst dL_law_1224 ?_
  refine Wp.iadd dL_law_1225 ?_
  refine Wp.sld rfl dL_law_1226 (by omega) (by omega) (by omega) ?_
  refine Wp.callV (As := [_, _, _]) (ls0 := [_, _, _, _, _, _, _, _, _, _]) (bd := bq n) (bd' := (0, 0)) dL_law_1227 kmX12_across lkL_128 (Nat.le_of_ble_eq_true rfl) (Nat.le_of_ble_eq_true rfl) (Nat.le_of_ble_eq_true rfl) (by first | rfl | exact kd_b0 _ | exact kd_b1 _ | exact kd_b2 _ | exact kd_b3 _ | exact kd_b4 _ | exact kd_b5 _ | exact kd_b6 _) (by omega) rfl rfl (Nat.le_of_ble_eq_true rfl) rfl ?_
  refine ct_X12_across hSJ.1.1 hSJ.1.2.1 hSJ.1.2.2.1 (w_rng _) (w_rng _) (w_rng _) (fun J2 eJ2 => ?_)
  rw [hSJ.2.2.2.2.2.1, aAcross_cg eJ.se]
  show Wp _ _ _ (_ :: _) _ _ _
  refine Wp.lcmp dL_law_1230 ?_
  refine Wp.if_eqC (tgt := 1309) dL_law_1231 (by decide) (fun _ => ?_) (fun q => absurd rfl q)
  exact hc J2 L R n (SR_cg eJ2 (EqvL.rf L) hSJ)
theorem lw_fewest (hN : N ≤ 3584) (hi0 : 0 ≤ i) (hi7 : i + 7 ≤ N) (hSR : SR I L R n) (hc : ∀ I' L' R' n', SR I' L' R' n' → Wp (mL_law N xs) 1309 [some (vr (some 1000000)), some (vr (some 0)), some (vr (some 32)), some (vi i)] [] (I', L', R', n') (bq n') Q) : Wp (mL_law N xs) 1236 [some (vr (some 1000000)), some (vr (some 0)), some (vr (some 32)), some (vi i)] [] (I, L, R, n) (bq n) Q := by
  have hS := hSR.1
  have hn := hS.1
  have hFx := hS.2.1
  have hW := hS.2.2.1
  have h11 := hSR.2.2.2.2.2.1
  have hpu := hSR.2.1
  have hlk := hSR.2.2.1
  have ht := hSR.2.2.2.1
  refine Wp.aload_n rfl dL_law_1236 ?_
  refine Wp.aload_n rfl dL_law_1237 ?_
  refine Wp.iload_n rfl dL_law_1238 ?_
  refine Wp.iconst dL_law_1239 ?_
  refine Wp.iadd dL_law_1240 ?_
  refine Wp.sld rfl dL_law_1241 (by omega) (by omega) (by omega) ?_
  refine Wp.aload_n rfl dL_law_1242 ?_
  refine Wp.iload_n rfl dL_law_1243 ?_
  refine Wp.iconst dL_law_1244 ?_
  refine Wp.iadd dL_law_1245 ?_
  refine Wp.sld rfl dL_law_1246 (by omega) (by omega) (by omega) ?_
  refine Wp.aload_n rfl dL_law_1247 ?_
  refine Wp.iload_n rfl dL_law_1248 ?_
  refine Wp.iconst dL_law_1249 ?_
  refine Wp.iadd dL_law_1250 ?_
  refine Wp.sld rfl dL_law_1251 (by omega) (by omega) (by omega) ?_
  refine Wp.i2l (w_rng _) dL_law_1252 ?_
  refine Wp.bipush rfl dL_law_1253 ?_
  refine Wp.lshl (by omega) (by omega) dL_law_1255 ?_
  refine Wp.aload_n rfl dL_law_1256 ?_
  refine Wp.iload_n rfl dL_law_1257 ?_
  refine Wp.iconst dL_law_1258 ?_
  refine Wp.iadd dL_law_1259 ?_
  refine Wp.sld rfl dL_law_1260 (by omega) (by omega) (by omega) ?_
  refine Wp.i2l (w_rng _) dL_law_1261 ?_
  refine Wp.ldc2_w (b := 4294967295#64) ckL_13 rfl dL_law_1262 ?_
  refine Wp.land dL_law_1265 ?_
  refine Wp.lor dL_law_1266 ?_
  refine Wp.callV (As := [_, _, _]) (ls0 := [_, _, _, _, _]) (bd := bq n) (bd' := (0, 0)) dL_law_1267 kmX11_fewest lkL_129 (Nat.le_of_ble_eq_true rfl) (Nat.le_of_ble_eq_true rfl) (Nat.le_of_ble_eq_true rfl) (by first | rfl | exact kd_b0 _ | exact kd_b1 _ | exact kd_b2 _ | exact kd_b3 _ | exact kd_b4 _ | exact kd_b5 _ | exact kd_b6 _) (by omega) rfl rfl (Nat.le_of_ble_eq_true rfl) rfl ?_
  refine ct_X11_fewest hS (w_rng _) (w_rng _) (fun K eK => ?_)
  have hSK := SR_cg (Eqv.rf I) eK hSR
  show Wp _ _ _ (_ :: _) _ _ _
  refine Wp.aload_n rfl dL_law_1270 ?_
  refine Wp.aload_n rfl dL_law_1271 ?_
  refine Wp.iload_n rfl dL_law_1272 ?_
  refine Wp.iconst dL_law_1273 ?_
  refine Wp.iadd dL_law_1274 ?_
  refine Wp.sld rfl dL_law_1275 (by omega) (by omega) (by omega) ?_
  refine Wp.aload_n rfl dL_law_1276 ?_
  refine Wp.iload_n rfl dL_law_1277 ?_
  refine Wp.iconst dL_law_1278 ?_
  refine Wp.iadd dL_law_1279 ?_
  refine Wp.sld rfl dL_law_1280 (by omega) (by omega) (by omega) ?_
  refine Wp.aload_n rfl dL_law_1281 ?_
  refine Wp.iload_n rfl dL_law_1282 ?_
  refine Wp.iconst dL_law_1283 ?_
  refine Wp.iadd dL_law_1284 ?_
  refine Wp.sld rfl dL_law_1285 (by omega) (by omega) (by omega) ?_
  refine Wp.i2l (w_rng _) dL_law_1286 ?_
  refine Wp.bipush rfl dL_law_1287 ?_
  refine Wp.lshl (by omega) (by omega) dL_law_1289 ?_
  refine Wp.aload_n rfl dL_law_1290 ?_
  refine Wp.iload_n rfl dL_law_1291 ?_
  refine Wp.iconst dL_law_1292 ?_
  refine Wp.iadd dL_law_1293 ?_
  refine Wp.sld rfl dL_law_1294 (by omega) (by omega) (by omega) ?_
  refine Wp.i2l (w_rng _) dL_law_1295 ?_
  refine Wp.ldc2_w (b := 4294967295#64) ckL_13 rfl dL_law_1296 ?_
  refine Wp.land dL_law_1299 ?_
  refine Wp.lor dL_law_1300 ?_
  refine Wp.callV (As := [_, _, _]) (ls0 := [_, _, _, _, _, _, _, _, _]) (bd := bq n) (bd' := (0, 0)) dL_law_1301 kmX12_fewest lkL_133 (Nat.le_of_ble_eq_true rfl) (Nat.le_of_ble_eq_true rfl) (Nat.le_of_ble_eq_true rfl) (by first | rfl | exact kd_b0 _ | exact kd_b1 _ | exact kd_b2 _ | exact kd_b3 _ | exact kd_b4 _ | exact kd_b5 _ | exact kd_b6 _) (by omega) rfl rfl (Nat.le_of_ble_eq_true rfl) rfl ?_
  refine ct_X12_fewest hSK.1.1 hSK.1.2.1 hSK.1.2.2.1 (w_rng _) (w_rng _) h11 (fun K2 eK2 => ?_)
  show Wp _ _ _ (_ :: _) _ _ _
  refine Wp.icmp_same (tgt := 1309) dL_law_1304 (by decide) ?_
  exact hc I K2 R n (SR_cg (Eqv.rf I) eK2 hSK)
end

