/-! ===== the law: what is made at its entry ===== -/
section
variable {N : Nat} {xs : Nat → Int32}
set_option maxHeartbeats 4000000 in
set_option maxRecDepth 100000 in
theorem lw_all (hN : N ≤ 3584) : Wp (mL_law N xs) 0 [some (vr (some 1000000)), none, none, none] [] (fun _ _ => 0, fun _ _ => 0#64, fun _ _ => none, 0) (112897, 8763558) (fun r _ => r = some (vi 1)) := by
  refine Wp.spend (bd := (113, 37911)) ?_ (by decide) (by decide)
  refine Wp.new (c := 11) (bd := (112, 37900)) dL_law_0 nkL_7 (by first | rfl | exact kd_b0 _ | exact kd_b1 _ | exact kd_b2 _ | exact kd_b3 _ | exact kd_b4 _ | exact kd_b5 _ | exact kd_b6 _) (by omega) ?_
  first | refine Wp.dupR dL_law_3 ?_ | refine Wp.dupI dL_law_3 ?_
  refine Wp.callI (As := []) (ls0 := [_]) (bd := (81, 36678)) (bd' := (31, 1222)) dL_law_4 kmX11_init lkL_9 (Nat.le_of_ble_eq_true rfl) (Nat.le_of_ble_eq_true rfl) (Nat.le_of_ble_eq_true rfl) (by omega) rfl rfl (Nat.le_of_ble_eq_true rfl) rfl ?_
  refine Wp.aload_n rfl dX11_init_0 ?_
  refine Wp.objInit dX11_init_1 loX11_3 lo_i lo_c (by decide) (by decide) ?_
  refine Wp.aload_n rfl dX11_init_4 ?_
  refine Wp.new (c := 9) (bd := (30, 1220)) dX11_init_5 nkX11_9 (by first | rfl | exact kd_b0 _ | exact kd_b1 _ | exact kd_b2 _ | exact kd_b3 _ | exact kd_b4 _ | exact kd_b5 _ | exact kd_b6 _) (by omega) ?_
  first | refine Wp.dupR dX11_init_8 ?_ | refine Wp.dupI dX11_init_8 ?_
  refine Wp.callI (As := []) (ls0 := [_]) (bd := (29, 980)) (bd' := (1, 240)) dX11_init_9 kmX9_init lkX11_11 (by decide) (by decide) (Nat.le_of_ble_eq_true rfl) (by omega) rfl rfl (Nat.le_of_ble_eq_true rfl) rfl ?_
  refine Wp.aload_n rfl dX9_init_0 ?_
  refine Wp.objInit dX9_init_1 loX9_3 lo_i lo_c (by decide) (by decide) ?_
  refine Wp.aload_n rfl dX9_init_4 ?_
  refine Wp.sipush rfl dX9_init_5 ?_
  refine Wp.newI (bd := (0, 0)) dX9_init_8 ka_int (by first | rfl | exact kd_b0 _ | exact kd_b1 _ | exact kd_b2 _ | exact kd_b3 _ | exact kd_b4 _ | exact kd_b5 _ | exact kd_b6 _) rfl (by omega) ?_
  refine Wp.pr (kz := 0) rfl dX9_init_10 fkX9_9 fnX9_9 (by first | rfl | exact kd_b0 _ | exact kd_b1 _ | exact kd_b2 _ | exact kd_b3 _ | exact kd_b4 _ | exact kd_b5 _ | exact kd_b6 _) (by omega) ?_
  refine Wp.aload_n rfl dX9_init_13 ?_
  refine Wp.iconst dX9_init_14 ?_
  refine Wp.pi (kz := 1) rfl dX9_init_15 fkX9_15 (Or.inl rfl) (Or.inl rfl) (by first | rfl | exact kd_b0 _ | exact kd_b1 _ | exact kd_b2 _ | exact kd_b3 _ | exact kd_b4 _ | exact kd_b5 _ | exact kd_b6 _) (by omega) ?_
  refine Wp.vreturn dX9_init_18 rfl ?_
  skip
  show Wp _ _ _ _ _ _ _
  refine Wp.pr (kz := 0) rfl dX11_init_12 fkX11_12 fnX11_12 (by first | rfl | exact kd_b0 _ | exact kd_b1 _ | exact kd_b2 _ | exact kd_b3 _ | exact kd_b4 _ | exact kd_b5 _ | exact kd_b6 _) (by omega) ?_
  refine Wp.aload_n rfl dX11_init_15 ?_
  refine Wp.new (c := 5) (bd := (28, 976)) dX11_init_16 nkX11_16 (by first | rfl | exact kd_b0 _ | exact kd_b1 _ | exact kd_b2 _ | exact kd_b3 _ | exact kd_b4 _ | exact kd_b5 _ | exact kd_b6 _) (by omega) ?_
  first | refine Wp.dupR dX11_init_19 ?_ | refine Wp.dupI dX11_init_19 ?_
  refine Wp.callI (As := []) (ls0 := [_]) (bd := (28, 976)) (bd' := (0, 0)) dX11_init_20 kmX5_init lkX11_18 (by decide) (by decide) (Nat.le_of_ble_eq_true rfl) (by omega) rfl rfl (Nat.le_of_ble_eq_true rfl) rfl ?_
  refine Wp.aload_n rfl dX5_init_0 ?_
  refine Wp.objInit dX5_init_1 loX5_3 lo_i lo_c (by decide) (by decide) ?_
  refine Wp.aload_n rfl dX5_init_4 ?_
  refine Wp.iconst dX5_init_5 ?_
  refine Wp.pi (kz := 0) rfl dX5_init_6 fkX5_11 (Or.inl rfl) (Or.inl rfl) (by first | rfl | exact kd_b0 _ | exact kd_b1 _ | exact kd_b2 _ | exact kd_b3 _ | exact kd_b4 _ | exact kd_b5 _ | exact kd_b6 _) (by omega) ?_
  refine Wp.aload_n rfl dX5_init_9 ?_
  refine Wp.iconst dX5_init_10 ?_
  refine Wp.pi (kz := 1) rfl dX5_init_11 fkX5_15 (Or.inl rfl) (Or.inl rfl) (by first | rfl | exact kd_b0 _ | exact kd_b1 _ | exact kd_b2 _ | exact kd_b3 _ | exact kd_b4 _ | exact kd_b5 _ | exact kd_b6 _) (by omega) ?_
  refine Wp.aload_n rfl dX5_init_14 ?_
  refine Wp.iconst dX5_init_15 ?_
  refine Wp.pi (kz := 2) rfl dX5_init_16 fkX5_18 (Or.inl rfl) (Or.inl rfl) (by first | rfl | exact kd_b0 _ | exact kd_b1 _ | exact kd_b2 _ | exact kd_b3 _ | exact kd_b4 _ | exact kd_b5 _ | exact kd_b6 _) (by omega) ?_
  refine Wp.aload_n rfl dX5_init_19 ?_
  refine Wp.iconst dX5_init_20 ?_
  refine Wp.pi (kz := 3) rfl dX5_init_21 fkX5_21 (Or.inl rfl) (Or.inl rfl) (by first | rfl | exact kd_b0 _ | exact kd_b1 _ | exact kd_b2 _ | exact kd_b3 _ | exact kd_b4 _ | exact kd_b5 _ | exact kd_b6 _) (by omega) ?_
  refine Wp.vreturn dX5_init_24 rfl ?_
  skip
  show Wp _ _ _ _ _ _ _
  refine Wp.pr (kz := 1) rfl dX11_init_23 fkX11_19 fnX11_19 (by first | rfl | exact kd_b0 _ | exact kd_b1 _ | exact kd_b2 _ | exact kd_b3 _ | exact kd_b4 _ | exact kd_b5 _ | exact kd_b6 _) (by omega) ?_
  refine Wp.aload_n rfl dX11_init_26 ?_
  refine Wp.new (c := 8) (bd := (27, 971)) dX11_init_27 nkX11_23 (by first | rfl | exact kd_b0 _ | exact kd_b1 _ | exact kd_b2 _ | exact kd_b3 _ | exact kd_b4 _ | exact kd_b5 _ | exact kd_b6 _) (by omega) ?_
  first | refine Wp.dupR dX11_init_30 ?_ | refine Wp.dupI dX11_init_30 ?_
  refine Wp.callI (As := []) (ls0 := [_]) (bd := (26, 963)) (bd' := (1, 8)) dX11_init_31 kmX8_init lkX11_25 (by decide) (by decide) (Nat.le_of_ble_eq_true rfl) (by omega) rfl rfl (Nat.le_of_ble_eq_true rfl) rfl ?_
  refine Wp.aload_n rfl dX8_init_0 ?_
  refine Wp.objInit dX8_init_1 loX8_3 lo_i lo_c (by decide) (by decide) ?_
  refine Wp.aload_n rfl dX8_init_4 ?_
  refine Wp.bipush rfl dX8_init_5 ?_
  refine Wp.newR (bd := (0, 0)) dX8_init_7 naX8_9 ka_over (by first | rfl | exact kd_b0 _ | exact kd_b1 _ | exact kd_b2 _ | exact kd_b3 _ | exact kd_b4 _ | exact kd_b5 _ | exact kd_b6 _) rfl (by omega) ?_
  refine Wp.pr (kz := 0) rfl dX8_init_10 fkX8_11 fnX8_11 (by first | rfl | exact kd_b0 _ | exact kd_b1 _ | exact kd_b2 _ | exact kd_b3 _ | exact kd_b4 _ | exact kd_b5 _ | exact kd_b6 _) (by omega) ?_
  refine Wp.aload_n rfl dX8_init_13 ?_
  refine Wp.aconst_null dX8_init_14 ?_
  refine Wp.pr (kz := 1) rfl dX8_init_15 fkX8_17 (Or.inl rfl) (by first | rfl | exact kd_b0 _ | exact kd_b1 _ | exact kd_b2 _ | exact kd_b3 _ | exact kd_b4 _ | exact kd_b5 _ | exact kd_b6 _) (by omega) ?_
  refine Wp.aload_n rfl dX8_init_18 ?_
  refine Wp.iconst dX8_init_19 ?_
  refine Wp.pi (kz := 2) rfl dX8_init_20 fkX8_21 (Or.inl rfl) (Or.inl rfl) (by first | rfl | exact kd_b0 _ | exact kd_b1 _ | exact kd_b2 _ | exact kd_b3 _ | exact kd_b4 _ | exact kd_b5 _ | exact kd_b6 _) (by omega) ?_
  refine Wp.aload_n rfl dX8_init_23 ?_
  refine Wp.sipush rfl dX8_init_24 ?_
  refine Wp.pi (kz := 3) rfl dX8_init_27 fkX8_25 (Or.inl rfl) (Or.inl rfl) (by first | rfl | exact kd_b0 _ | exact kd_b1 _ | exact kd_b2 _ | exact kd_b3 _ | exact kd_b4 _ | exact kd_b5 _ | exact kd_b6 _) (by omega) ?_
  refine Wp.aload_n rfl dX8_init_30 ?_
  refine Wp.iconst dX8_init_31 ?_
  refine Wp.pi (kz := 4) rfl dX8_init_32 fkX8_28 (Or.inl rfl) (Or.inr (by omega)) (by first | rfl | exact kd_b0 _ | exact kd_b1 _ | exact kd_b2 _ | exact kd_b3 _ | exact kd_b4 _ | exact kd_b5 _ | exact kd_b6 _) (by omega) ?_
  refine Wp.vreturn dX8_init_35 rfl ?_
  skip
  show Wp _ _ _ _ _ _ _
  refine Wp.pr (kz := 2) rfl dX11_init_34 fkX11_26 fnX11_26 (by first | rfl | exact kd_b0 _ | exact kd_b1 _ | exact kd_b2 _ | exact kd_b3 _ | exact kd_b4 _ | exact kd_b5 _ | exact kd_b6 _) (by omega) ?_
  refine Wp.aload_n rfl dX11_init_37 ?_
  refine Wp.new (c := 10) (bd := (25, 956)) dX11_init_38 nkX11_30 (by first | rfl | exact kd_b0 _ | exact kd_b1 _ | exact kd_b2 _ | exact kd_b3 _ | exact kd_b4 _ | exact kd_b5 _ | exact kd_b6 _) (by omega) ?_
  first | refine Wp.dupR dX11_init_41 ?_ | refine Wp.dupI dX11_init_41 ?_
  refine Wp.callI (As := []) (ls0 := [_]) (bd := (25, 956)) (bd' := (0, 0)) dX11_init_42 kmX10_init lkX11_32 (by decide) (by decide) (Nat.le_of_ble_eq_true rfl) (by omega) rfl rfl (Nat.le_of_ble_eq_true rfl) rfl ?_
  refine Wp.aload_n rfl dX10_init_0 ?_
  refine Wp.objInit dX10_init_1 loX10_3 lo_i lo_c (by decide) (by decide) ?_
  refine Wp.aload_n rfl dX10_init_4 ?_
  refine Wp.iconst dX10_init_5 ?_
  refine Wp.pi (kz := 0) rfl dX10_init_6 fkX10_9 (Or.inl rfl) (Or.inl rfl) (by first | rfl | exact kd_b0 _ | exact kd_b1 _ | exact kd_b2 _ | exact kd_b3 _ | exact kd_b4 _ | exact kd_b5 _ | exact kd_b6 _) (by omega) ?_
  refine Wp.aload_n rfl dX10_init_9 ?_
  refine Wp.iconst dX10_init_10 ?_
  refine Wp.pi (kz := 1) rfl dX10_init_11 fkX10_15 (Or.inl rfl) (Or.inl rfl) (by first | rfl | exact kd_b0 _ | exact kd_b1 _ | exact kd_b2 _ | exact kd_b3 _ | exact kd_b4 _ | exact kd_b5 _ | exact kd_b6 _) (by omega) ?_
  refine Wp.aload_n rfl dX10_init_14 ?_
  refine Wp.iconst dX10_init_15 ?_
  refine Wp.pi (kz := 2) rfl dX10_init_16 fkX10_18 (Or.inl rfl) (Or.inl rfl) (by first | rfl | exact kd_b0 _ | exact kd_b1 _ | exact kd_b2 _ | exact kd_b3 _ | exact kd_b4 _ | exact kd_b5 _ | exact kd_b6 _) (by omega) ?_
  refine Wp.aload_n rfl dX10_init_19 ?_
  refine Wp.iconst dX10_init_20 ?_
  refine Wp.pi (kz := 3) rfl dX10_init_21 fkX10_21 (Or.inl rfl) (Or.inl rfl) (by first | rfl | exact kd_b0 _ | exact kd_b1 _ | exact kd_b2 _ | exact kd_b3 _ | exact kd_b4 _ | exact kd_b5 _ | exact kd_b6 _) (by omega) ?_
  refine Wp.aload_n rfl dX10_init_24 ?_
  refine Wp.iconst dX10_init_25 ?_
  refine Wp.pi (kz := 4) rfl dX10_init_26 fkX10_24 (Or.inl rfl) (Or.inl rfl) (by first | rfl | exact kd_b0 _ | exact kd_b1 _ | exact kd_b2 _ | exact kd_b3 _ | exact kd_b4 _ | exact kd_b5 _ | exact kd_b6 _) (by omega) ?_
  refine Wp.aload_n rfl dX10_init_29 ?_
  refine Wp.iconst dX10_init_30 ?_
  refine Wp.pi (kz := 5) rfl dX10_init_31 fkX10_27 (Or.inl rfl) (Or.inl rfl) (by first | rfl | exact kd_b0 _ | exact kd_b1 _ | exact kd_b2 _ | exact kd_b3 _ | exact kd_b4 _ | exact kd_b5 _ | exact kd_b6 _) (by omega) ?_
  refine Wp.aload_n rfl dX10_init_34 ?_
  refine Wp.iconst dX10_init_35 ?_
  refine Wp.pi (kz := 6) rfl dX10_init_36 fkX10_30 (Or.inl rfl) (Or.inl rfl) (by first | rfl | exact kd_b0 _ | exact kd_b1 _ | exact kd_b2 _ | exact kd_b3 _ | exact kd_b4 _ | exact kd_b5 _ | exact kd_b6 _) (by omega) ?_
  refine Wp.vreturn dX10_init_39 rfl ?_
  skip
  show Wp _ _ _ _ _ _ _
  refine Wp.pr (kz := 3) rfl dX11_init_45 fkX11_33 fnX11_33 (by first | rfl | exact kd_b0 _ | exact kd_b1 _ | exact kd_b2 _ | exact kd_b3 _ | exact kd_b4 _ | exact kd_b5 _ | exact kd_b6 _) (by omega) ?_
  refine Wp.aload_n rfl dX11_init_48 ?_
  refine Wp.new (c := 2) (bd := (24, 951)) dX11_init_49 nkX11_37 (by first | rfl | exact kd_b0 _ | exact kd_b1 _ | exact kd_b2 _ | exact kd_b3 _ | exact kd_b4 _ | exact kd_b5 _ | exact kd_b6 _) (by omega) ?_
  first | refine Wp.dupR dX11_init_52 ?_ | refine Wp.dupI dX11_init_52 ?_
  refine Wp.callI (As := []) (ls0 := [_]) (bd := (20, 831)) (bd' := (4, 120)) dX11_init_53 kmX2_init lkX11_39 (by decide) (by decide) (Nat.le_of_ble_eq_true rfl) (by omega) rfl rfl (Nat.le_of_ble_eq_true rfl) rfl ?_
  refine Wp.aload_n rfl dX2_init_0 ?_
  refine Wp.objInit dX2_init_1 loX2_3 lo_i lo_c (by decide) (by decide) ?_
  refine Wp.aload_n rfl dX2_init_4 ?_
  refine Wp.bipush rfl dX2_init_5 ?_
  refine Wp.newI (bd := (3, 90)) dX2_init_7 ka_int (by first | rfl | exact kd_b0 _ | exact kd_b1 _ | exact kd_b2 _ | exact kd_b3 _ | exact kd_b4 _ | exact kd_b5 _ | exact kd_b6 _) rfl (by omega) ?_
  refine Wp.pr (kz := 0) rfl dX2_init_9 fkX2_9 fnX2_9 (by first | rfl | exact kd_b0 _ | exact kd_b1 _ | exact kd_b2 _ | exact kd_b3 _ | exact kd_b4 _ | exact kd_b5 _ | exact kd_b6 _) (by omega) ?_
  refine Wp.aload_n rfl dX2_init_12 ?_
  refine Wp.bipush rfl dX2_init_13 ?_
  refine Wp.newI (bd := (2, 60)) dX2_init_15 ka_int (by first | rfl | exact kd_b0 _ | exact kd_b1 _ | exact kd_b2 _ | exact kd_b3 _ | exact kd_b4 _ | exact kd_b5 _ | exact kd_b6 _) rfl (by omega) ?_
  refine Wp.pr (kz := 1) rfl dX2_init_17 fkX2_15 fnX2_15 (by first | rfl | exact kd_b0 _ | exact kd_b1 _ | exact kd_b2 _ | exact kd_b3 _ | exact kd_b4 _ | exact kd_b5 _ | exact kd_b6 _) (by omega) ?_
  refine Wp.aload_n rfl dX2_init_20 ?_
  refine Wp.bipush rfl dX2_init_21 ?_
  refine Wp.newI (bd := (1, 30)) dX2_init_23 ka_int (by first | rfl | exact kd_b0 _ | exact kd_b1 _ | exact kd_b2 _ | exact kd_b3 _ | exact kd_b4 _ | exact kd_b5 _ | exact kd_b6 _) rfl (by omega) ?_
  refine Wp.pr (kz := 2) rfl dX2_init_25 fkX2_18 fnX2_18 (by first | rfl | exact kd_b0 _ | exact kd_b1 _ | exact kd_b2 _ | exact kd_b3 _ | exact kd_b4 _ | exact kd_b5 _ | exact kd_b6 _) (by omega) ?_
  refine Wp.aload_n rfl dX2_init_28 ?_
  refine Wp.bipush rfl dX2_init_29 ?_
  refine Wp.newI (bd := (0, 0)) dX2_init_31 ka_int (by first | rfl | exact kd_b0 _ | exact kd_b1 _ | exact kd_b2 _ | exact kd_b3 _ | exact kd_b4 _ | exact kd_b5 _ | exact kd_b6 _) rfl (by omega) ?_
  refine Wp.pr (kz := 3) rfl dX2_init_33 fkX2_21 fnX2_21 (by first | rfl | exact kd_b0 _ | exact kd_b1 _ | exact kd_b2 _ | exact kd_b3 _ | exact kd_b4 _ | exact kd_b5 _ | exact kd_b6 _) (by omega) ?_
  refine Wp.aload_n rfl dX2_init_36 ?_
  refine Wp.iconst dX2_init_37 ?_
  refine Wp.pi (kz := 4) rfl dX2_init_38 fkX2_24 (Or.inl rfl) (Or.inl rfl) (by first | rfl | exact kd_b0 _ | exact kd_b1 _ | exact kd_b2 _ | exact kd_b3 _ | exact kd_b4 _ | exact kd_b5 _ | exact kd_b6 _) (by omega) ?_
  refine Wp.vreturn dX2_init_41 rfl ?_
  skip
  show Wp _ _ _ _ _ _ _
  refine Wp.pr (kz := 4) rfl dX11_init_56 fkX11_40 fnX11_40 (by first | rfl | exact kd_b0 _ | exact kd_b1 _ | exact kd_b2 _ | exact kd_b3 _ | exact kd_b4 _ | exact kd_b5 _ | exact kd_b6 _) (by omega) ?_
  refine Wp.aload_n rfl dX11_init_59 ?_
  refine Wp.new (c := 4) (bd := (19, 826)) dX11_init_60 nkX11_44 (by first | rfl | exact kd_b0 _ | exact kd_b1 _ | exact kd_b2 _ | exact kd_b3 _ | exact kd_b4 _ | exact kd_b5 _ | exact kd_b6 _) (by omega) ?_
  first | refine Wp.dupR dX11_init_63 ?_ | refine Wp.dupI dX11_init_63 ?_
  refine Wp.callI (As := []) (ls0 := [_]) (bd := (15, 666)) (bd' := (4, 160)) dX11_init_64 kmX4_init lkX11_46 (by decide) (by decide) (Nat.le_of_ble_eq_true rfl) (by omega) rfl rfl (Nat.le_of_ble_eq_true rfl) rfl ?_
  refine Wp.aload_n rfl dX4_init_0 ?_
  refine Wp.objInit dX4_init_1 loX4_3 lo_i lo_c (by decide) (by decide) ?_
  refine Wp.aload_n rfl dX4_init_4 ?_
  refine Wp.bipush rfl dX4_init_5 ?_
  refine Wp.newI (bd := (3, 120)) dX4_init_7 ka_int (by first | rfl | exact kd_b0 _ | exact kd_b1 _ | exact kd_b2 _ | exact kd_b3 _ | exact kd_b4 _ | exact kd_b5 _ | exact kd_b6 _) rfl (by omega) ?_
  refine Wp.pr (kz := 0) rfl dX4_init_9 fkX4_9 fnX4_9 (by first | rfl | exact kd_b0 _ | exact kd_b1 _ | exact kd_b2 _ | exact kd_b3 _ | exact kd_b4 _ | exact kd_b5 _ | exact kd_b6 _) (by omega) ?_
  refine Wp.aload_n rfl dX4_init_12 ?_
  refine Wp.bipush rfl dX4_init_13 ?_
  refine Wp.newI (bd := (2, 80)) dX4_init_15 ka_int (by first | rfl | exact kd_b0 _ | exact kd_b1 _ | exact kd_b2 _ | exact kd_b3 _ | exact kd_b4 _ | exact kd_b5 _ | exact kd_b6 _) rfl (by omega) ?_
  refine Wp.pr (kz := 1) rfl dX4_init_17 fkX4_15 fnX4_15 (by first | rfl | exact kd_b0 _ | exact kd_b1 _ | exact kd_b2 _ | exact kd_b3 _ | exact kd_b4 _ | exact kd_b5 _ | exact kd_b6 _) (by omega) ?_
  refine Wp.aload_n rfl dX4_init_20 ?_
  refine Wp.bipush rfl dX4_init_21 ?_
  refine Wp.newI (bd := (1, 40)) dX4_init_23 ka_int (by first | rfl | exact kd_b0 _ | exact kd_b1 _ | exact kd_b2 _ | exact kd_b3 _ | exact kd_b4 _ | exact kd_b5 _ | exact kd_b6 _) rfl (by omega) ?_
  refine Wp.pr (kz := 2) rfl dX4_init_25 fkX4_18 fnX4_18 (by first | rfl | exact kd_b0 _ | exact kd_b1 _ | exact kd_b2 _ | exact kd_b3 _ | exact kd_b4 _ | exact kd_b5 _ | exact kd_b6 _) (by omega) ?_
  refine Wp.aload_n rfl dX4_init_28 ?_
  refine Wp.bipush rfl dX4_init_29 ?_
  refine Wp.newI (bd := (0, 0)) dX4_init_31 ka_int (by first | rfl | exact kd_b0 _ | exact kd_b1 _ | exact kd_b2 _ | exact kd_b3 _ | exact kd_b4 _ | exact kd_b5 _ | exact kd_b6 _) rfl (by omega) ?_
  refine Wp.pr (kz := 3) rfl dX4_init_33 fkX4_21 fnX4_21 (by first | rfl | exact kd_b0 _ | exact kd_b1 _ | exact kd_b2 _ | exact kd_b3 _ | exact kd_b4 _ | exact kd_b5 _ | exact kd_b6 _) (by omega) ?_
  refine Wp.aload_n rfl dX4_init_36 ?_
  refine Wp.iconst dX4_init_37 ?_
  refine Wp.pi (kz := 4) rfl dX4_init_38 fkX4_24 (Or.inl rfl) (Or.inl rfl) (by first | rfl | exact kd_b0 _ | exact kd_b1 _ | exact kd_b2 _ | exact kd_b3 _ | exact kd_b4 _ | exact kd_b5 _ | exact kd_b6 _) (by omega) ?_
  refine Wp.vreturn dX4_init_41 rfl ?_
  skip
  show Wp _ _ _ _ _ _ _
  refine Wp.pr (kz := 5) rfl dX11_init_67 fkX11_47 fnX11_47 (by first | rfl | exact kd_b0 _ | exact kd_b1 _ | exact kd_b2 _ | exact kd_b3 _ | exact kd_b4 _ | exact kd_b5 _ | exact kd_b6 _) (by omega) ?_
  refine Wp.aload_n rfl dX11_init_70 ?_
  refine Wp.new (c := 7) (bd := (14, 663)) dX11_init_71 nkX11_51 (by first | rfl | exact kd_b0 _ | exact kd_b1 _ | exact kd_b2 _ | exact kd_b3 _ | exact kd_b4 _ | exact kd_b5 _ | exact kd_b6 _) (by omega) ?_
  first | refine Wp.dupR dX11_init_74 ?_ | refine Wp.dupI dX11_init_74 ?_
  refine Wp.callI (As := []) (ls0 := [_]) (bd := (13, 653)) (bd' := (1, 10)) dX11_init_75 kmX7_init lkX11_53 (by decide) (by decide) (Nat.le_of_ble_eq_true rfl) (by omega) rfl rfl (Nat.le_of_ble_eq_true rfl) rfl ?_
  refine Wp.aload_n rfl dX7_init_0 ?_
  refine Wp.objInit dX7_init_1 loX7_3 lo_i lo_c (by decide) (by decide) ?_
  refine Wp.aload_n rfl dX7_init_4 ?_
  refine Wp.bipush rfl dX7_init_5 ?_
  refine Wp.newI (bd := (0, 0)) dX7_init_7 ka_int (by first | rfl | exact kd_b0 _ | exact kd_b1 _ | exact kd_b2 _ | exact kd_b3 _ | exact kd_b4 _ | exact kd_b5 _ | exact kd_b6 _) rfl (by omega) ?_
  refine Wp.pr (kz := 0) rfl dX7_init_9 fkX7_9 fnX7_9 (by first | rfl | exact kd_b0 _ | exact kd_b1 _ | exact kd_b2 _ | exact kd_b3 _ | exact kd_b4 _ | exact kd_b5 _ | exact kd_b6 _) (by omega) ?_
  refine Wp.aload_n rfl dX7_init_12 ?_
  refine Wp.iconst dX7_init_13 ?_
  refine Wp.pi (kz := 1) rfl dX7_init_14 fkX7_15 (Or.inl rfl) (Or.inl rfl) (by first | rfl | exact kd_b0 _ | exact kd_b1 _ | exact kd_b2 _ | exact kd_b3 _ | exact kd_b4 _ | exact kd_b5 _ | exact kd_b6 _) (by omega) ?_
  refine Wp.aload_n rfl dX7_init_17 ?_
  refine Wp.iconst dX7_init_18 ?_
  refine Wp.pi (kz := 2) rfl dX7_init_19 fkX7_19 (Or.inl rfl) (Or.inl rfl) (by first | rfl | exact kd_b0 _ | exact kd_b1 _ | exact kd_b2 _ | exact kd_b3 _ | exact kd_b4 _ | exact kd_b5 _ | exact kd_b6 _) (by omega) ?_
  refine Wp.vreturn dX7_init_22 rfl ?_
  skip
  show Wp _ _ _ _ _ _ _
  refine Wp.pr (kz := 6) rfl dX11_init_78 fkX11_54 fnX11_54 (by first | rfl | exact kd_b0 _ | exact kd_b1 _ | exact kd_b2 _ | exact kd_b3 _ | exact kd_b4 _ | exact kd_b5 _ | exact kd_b6 _) (by omega) ?_
  refine Wp.aload_n rfl dX11_init_81 ?_
  refine Wp.new (c := 3) (bd := (12, 645)) dX11_init_82 nkX11_58 (by first | rfl | exact kd_b0 _ | exact kd_b1 _ | exact kd_b2 _ | exact kd_b3 _ | exact kd_b4 _ | exact kd_b5 _ | exact kd_b6 _) (by omega) ?_
  first | refine Wp.dupR dX11_init_85 ?_ | refine Wp.dupI dX11_init_85 ?_
  refine Wp.callI (As := []) (ls0 := [_]) (bd := (6, 25)) (bd' := (6, 620)) dX11_init_86 kmX3_init lkX11_60 (by decide) (by decide) (Nat.le_of_ble_eq_true rfl) (by omega) rfl rfl (Nat.le_of_ble_eq_true rfl) rfl ?_
  refine Wp.aload_n rfl dX3_init_0 ?_
  refine Wp.objInit dX3_init_1 loX3_3 lo_i lo_c (by decide) (by decide) ?_
  refine Wp.aload_n rfl dX3_init_4 ?_
  refine Wp.sipush rfl dX3_init_5 ?_
  refine Wp.newI (bd := (5, 440)) dX3_init_8 ka_int (by first | rfl | exact kd_b0 _ | exact kd_b1 _ | exact kd_b2 _ | exact kd_b3 _ | exact kd_b4 _ | exact kd_b5 _ | exact kd_b6 _) rfl (by omega) ?_
  refine Wp.pr (kz := 0) rfl dX3_init_10 fkX3_11 fnX3_11 (by first | rfl | exact kd_b0 _ | exact kd_b1 _ | exact kd_b2 _ | exact kd_b3 _ | exact kd_b4 _ | exact kd_b5 _ | exact kd_b6 _) (by omega) ?_
  refine Wp.aload_n rfl dX3_init_13 ?_
  refine Wp.sipush rfl dX3_init_14 ?_
  refine Wp.newI (bd := (4, 260)) dX3_init_17 ka_int (by first | rfl | exact kd_b0 _ | exact kd_b1 _ | exact kd_b2 _ | exact kd_b3 _ | exact kd_b4 _ | exact kd_b5 _ | exact kd_b6 _) rfl (by omega) ?_
  refine Wp.pr (kz := 1) rfl dX3_init_19 fkX3_15 fnX3_15 (by first | rfl | exact kd_b0 _ | exact kd_b1 _ | exact kd_b2 _ | exact kd_b3 _ | exact kd_b4 _ | exact kd_b5 _ | exact kd_b6 _) (by omega) ?_
  refine Wp.aload_n rfl dX3_init_22 ?_
  refine Wp.sipush rfl dX3_init_23 ?_
  refine Wp.newI (bd := (3, 80)) dX3_init_26 ka_int (by first | rfl | exact kd_b0 _ | exact kd_b1 _ | exact kd_b2 _ | exact kd_b3 _ | exact kd_b4 _ | exact kd_b5 _ | exact kd_b6 _) rfl (by omega) ?_
  refine Wp.pr (kz := 2) rfl dX3_init_28 fkX3_18 fnX3_18 (by first | rfl | exact kd_b0 _ | exact kd_b1 _ | exact kd_b2 _ | exact kd_b3 _ | exact kd_b4 _ | exact kd_b5 _ | exact kd_b6 _) (by omega) ?_
  refine Wp.aload_n rfl dX3_init_31 ?_
  refine Wp.bipush rfl dX3_init_32 ?_
  refine Wp.newI (bd := (2, 70)) dX3_init_34 ka_int (by first | rfl | exact kd_b0 _ | exact kd_b1 _ | exact kd_b2 _ | exact kd_b3 _ | exact kd_b4 _ | exact kd_b5 _ | exact kd_b6 _) rfl (by omega) ?_
  refine Wp.pr (kz := 3) rfl dX3_init_36 fkX3_21 fnX3_21 (by first | rfl | exact kd_b0 _ | exact kd_b1 _ | exact kd_b2 _ | exact kd_b3 _ | exact kd_b4 _ | exact kd_b5 _ | exact kd_b6 _) (by omega) ?_
  refine Wp.aload_n rfl dX3_init_39 ?_
  refine Wp.bipush rfl dX3_init_40 ?_
  refine Wp.newI (bd := (1, 60)) dX3_init_42 ka_int (by first | rfl | exact kd_b0 _ | exact kd_b1 _ | exact kd_b2 _ | exact kd_b3 _ | exact kd_b4 _ | exact kd_b5 _ | exact kd_b6 _) rfl (by omega) ?_
  refine Wp.pr (kz := 4) rfl dX3_init_44 fkX3_24 fnX3_24 (by first | rfl | exact kd_b0 _ | exact kd_b1 _ | exact kd_b2 _ | exact kd_b3 _ | exact kd_b4 _ | exact kd_b5 _ | exact kd_b6 _) (by omega) ?_
  refine Wp.aload_n rfl dX3_init_47 ?_
  refine Wp.bipush rfl dX3_init_48 ?_
  refine Wp.newI (bd := (0, 0)) dX3_init_50 ka_int (by first | rfl | exact kd_b0 _ | exact kd_b1 _ | exact kd_b2 _ | exact kd_b3 _ | exact kd_b4 _ | exact kd_b5 _ | exact kd_b6 _) rfl (by omega) ?_
  refine Wp.pr (kz := 5) rfl dX3_init_52 fkX3_27 fnX3_27 (by first | rfl | exact kd_b0 _ | exact kd_b1 _ | exact kd_b2 _ | exact kd_b3 _ | exact kd_b4 _ | exact kd_b5 _ | exact kd_b6 _) (by omega) ?_
  refine Wp.aload_n rfl dX3_init_55 ?_
  refine Wp.iconst dX3_init_56 ?_
  refine Wp.pi (kz := 6) rfl dX3_init_57 fkX3_30 (Or.inl rfl) (Or.inl rfl) (by first | rfl | exact kd_b0 _ | exact kd_b1 _ | exact kd_b2 _ | exact kd_b3 _ | exact kd_b4 _ | exact kd_b5 _ | exact kd_b6 _) (by omega) ?_
  refine Wp.aload_n rfl dX3_init_60 ?_
  refine Wp.iconst dX3_init_61 ?_
  refine Wp.pi (kz := 7) rfl dX3_init_62 fkX3_34 (Or.inl rfl) (Or.inl rfl) (by first | rfl | exact kd_b0 _ | exact kd_b1 _ | exact kd_b2 _ | exact kd_b3 _ | exact kd_b4 _ | exact kd_b5 _ | exact kd_b6 _) (by omega) ?_
  refine Wp.vreturn dX3_init_65 rfl ?_
  skip
  show Wp _ _ _ _ _ _ _
  refine Wp.pr (kz := 7) rfl dX11_init_89 fkX11_61 fnX11_61 (by first | rfl | exact kd_b0 _ | exact kd_b1 _ | exact kd_b2 _ | exact kd_b3 _ | exact kd_b4 _ | exact kd_b5 _ | exact kd_b6 _) (by omega) ?_
  refine Wp.aload_n rfl dX11_init_92 ?_
  refine Wp.new (c := 6) (bd := (5, 22)) dX11_init_93 nkX11_65 (by first | rfl | exact kd_b0 _ | exact kd_b1 _ | exact kd_b2 _ | exact kd_b3 _ | exact kd_b4 _ | exact kd_b5 _ | exact kd_b6 _) (by omega) ?_
  first | refine Wp.dupR dX11_init_96 ?_ | refine Wp.dupI dX11_init_96 ?_
  refine Wp.callI (As := []) (ls0 := [_]) (bd := (3, 14)) (bd' := (2, 8)) dX11_init_97 kmX6_init lkX11_67 (by decide) (by decide) (Nat.le_of_ble_eq_true rfl) (by omega) rfl rfl (Nat.le_of_ble_eq_true rfl) rfl ?_
  refine Wp.aload_n rfl dX6_init_0 ?_
  refine Wp.objInit dX6_init_1 loX6_3 lo_i lo_c (by decide) (by decide) ?_
  refine Wp.aload_n rfl dX6_init_4 ?_
  refine Wp.iconst dX6_init_5 ?_
  refine Wp.newI (bd := (1, 4)) dX6_init_6 ka_int (by first | rfl | exact kd_b0 _ | exact kd_b1 _ | exact kd_b2 _ | exact kd_b3 _ | exact kd_b4 _ | exact kd_b5 _ | exact kd_b6 _) rfl (by omega) ?_
  refine Wp.pr (kz := 0) rfl dX6_init_8 fkX6_9 fnX6_9 (by first | rfl | exact kd_b0 _ | exact kd_b1 _ | exact kd_b2 _ | exact kd_b3 _ | exact kd_b4 _ | exact kd_b5 _ | exact kd_b6 _) (by omega) ?_
  refine Wp.aload_n rfl dX6_init_11 ?_
  refine Wp.iconst dX6_init_12 ?_
  refine Wp.newI (bd := (0, 0)) dX6_init_13 ka_int (by first | rfl | exact kd_b0 _ | exact kd_b1 _ | exact kd_b2 _ | exact kd_b3 _ | exact kd_b4 _ | exact kd_b5 _ | exact kd_b6 _) rfl (by omega) ?_
  refine Wp.pr (kz := 1) rfl dX6_init_15 fkX6_15 fnX6_15 (by first | rfl | exact kd_b0 _ | exact kd_b1 _ | exact kd_b2 _ | exact kd_b3 _ | exact kd_b4 _ | exact kd_b5 _ | exact kd_b6 _) (by omega) ?_
  refine Wp.aload_n rfl dX6_init_18 ?_
  refine Wp.iconst dX6_init_19 ?_
  refine Wp.pi (kz := 2) rfl dX6_init_20 fkX6_18 (Or.inl rfl) (Or.inl rfl) (by first | rfl | exact kd_b0 _ | exact kd_b1 _ | exact kd_b2 _ | exact kd_b3 _ | exact kd_b4 _ | exact kd_b5 _ | exact kd_b6 _) (by omega) ?_
  refine Wp.vreturn dX6_init_23 rfl ?_
  skip
  show Wp _ _ _ _ _ _ _
  refine Wp.pr (kz := 8) rfl dX11_init_100 fkX11_68 fnX11_68 (by first | rfl | exact kd_b0 _ | exact kd_b1 _ | exact kd_b2 _ | exact kd_b3 _ | exact kd_b4 _ | exact kd_b5 _ | exact kd_b6 _) (by omega) ?_
  refine Wp.aload_n rfl dX11_init_103 ?_
  refine Wp.new (c := 1) (bd := (2, 12)) dX11_init_104 nkX11_72 (by first | rfl | exact kd_b0 _ | exact kd_b1 _ | exact kd_b2 _ | exact kd_b3 _ | exact kd_b4 _ | exact kd_b5 _ | exact kd_b6 _) (by omega) ?_
  first | refine Wp.dupR dX11_init_107 ?_ | refine Wp.dupI dX11_init_107 ?_
  refine Wp.callI (As := []) (ls0 := [_]) (bd := (0, 0)) (bd' := (2, 12)) dX11_init_108 kmX1_init lkX11_74 (by decide) (by decide) (Nat.le_of_ble_eq_true rfl) (by omega) rfl rfl (Nat.le_of_ble_eq_true rfl) rfl ?_
  refine Wp.aload_n rfl dX1_init_0 ?_
  refine Wp.objInit dX1_init_1 loX1_3 lo_i lo_c (by decide) (by decide) ?_
  refine Wp.aload_n rfl dX1_init_4 ?_
  refine Wp.bipush rfl dX1_init_5 ?_
  refine Wp.newL (bd := (1, 4)) dX1_init_7 ka_long (by first | rfl | exact kd_b0 _ | exact kd_b1 _ | exact kd_b2 _ | exact kd_b3 _ | exact kd_b4 _ | exact kd_b5 _ | exact kd_b6 _) rfl (by omega) ?_
  refine Wp.pr (kz := 0) rfl dX1_init_9 fkX1_9 fnX1_9 (by first | rfl | exact kd_b0 _ | exact kd_b1 _ | exact kd_b2 _ | exact kd_b3 _ | exact kd_b4 _ | exact kd_b5 _ | exact kd_b6 _) (by omega) ?_
  refine Wp.aload_n rfl dX1_init_12 ?_
  refine Wp.iconst dX1_init_13 ?_
  refine Wp.newL (bd := (0, 0)) dX1_init_14 ka_long (by first | rfl | exact kd_b0 _ | exact kd_b1 _ | exact kd_b2 _ | exact kd_b3 _ | exact kd_b4 _ | exact kd_b5 _ | exact kd_b6 _) rfl (by omega) ?_
  refine Wp.pr (kz := 1) rfl dX1_init_16 fkX1_15 fnX1_15 (by first | rfl | exact kd_b0 _ | exact kd_b1 _ | exact kd_b2 _ | exact kd_b3 _ | exact kd_b4 _ | exact kd_b5 _ | exact kd_b6 _) (by omega) ?_
  refine Wp.vreturn dX1_init_19 rfl ?_
  skip
  show Wp _ _ _ _ _ _ _
  refine Wp.pr (kz := 9) rfl dX11_init_111 fkX11_75 fnX11_75 (by first | rfl | exact kd_b0 _ | exact kd_b1 _ | exact kd_b2 _ | exact kd_b3 _ | exact kd_b4 _ | exact kd_b5 _ | exact kd_b6 _) (by omega) ?_
  refine Wp.aload_n rfl dX11_init_114 ?_
  refine Wp.iconst dX11_init_115 ?_
  refine Wp.pi (kz := 10) rfl dX11_init_116 fkX11_79 (Or.inl rfl) (Or.inl rfl) (by first | rfl | exact kd_b0 _ | exact kd_b1 _ | exact kd_b2 _ | exact kd_b3 _ | exact kd_b4 _ | exact kd_b5 _ | exact kd_b6 _) (by omega) ?_
  refine Wp.vreturn dX11_init_119 rfl ?_
  skip
  show Wp _ _ _ _ _ _ _
  refine Wp.astore_n (ls' := [_, _, _, _]) dL_law_7 (show _ < 4 by decide) rfl ?_
  refine Wp.new (c := 12) (bd := (80, 36634)) dL_law_8 nkL_10 (by first | rfl | exact kd_b0 _ | exact kd_b1 _ | exact kd_b2 _ | exact kd_b3 _ | exact kd_b4 _ | exact kd_b5 _ | exact kd_b6 _) (by omega) ?_
  first | refine Wp.dupR dL_law_11 ?_ | refine Wp.dupI dL_law_11 ?_
  refine Wp.callI (As := []) (ls0 := [_]) (bd := (56, 14984)) (bd' := (24, 21650)) dL_law_12 kmX12_init lkL_12 (Nat.le_of_ble_eq_true rfl) (Nat.le_of_ble_eq_true rfl) (Nat.le_of_ble_eq_true rfl) (by omega) rfl rfl (Nat.le_of_ble_eq_true rfl) rfl ?_
  refine Wp.aload_n rfl dX12_init_0 ?_
  refine Wp.objInit dX12_init_1 loX12_1 lo_i lo_c (by decide) (by decide) ?_
  refine Wp.aload_n rfl dX12_init_4 ?_
  refine Wp.bipush rfl dX12_init_5 ?_
  refine Wp.newI (bd := (23, 21642)) dX12_init_7 ka_int (by first | rfl | exact kd_b0 _ | exact kd_b1 _ | exact kd_b2 _ | exact kd_b3 _ | exact kd_b4 _ | exact kd_b5 _ | exact kd_b6 _) rfl (by omega) ?_
  refine Wp.pr (kz := 1) rfl dX12_init_9 fkX12_7 fnX12_7 (by first | rfl | exact kd_b0 _ | exact kd_b1 _ | exact kd_b2 _ | exact kd_b3 _ | exact kd_b4 _ | exact kd_b5 _ | exact kd_b6 _) (by omega) ?_
  refine Wp.aload_n rfl dX12_init_12 ?_
  refine Wp.bipush rfl dX12_init_13 ?_
  refine Wp.newI (bd := (22, 21634)) dX12_init_15 ka_int (by first | rfl | exact kd_b0 _ | exact kd_b1 _ | exact kd_b2 _ | exact kd_b3 _ | exact kd_b4 _ | exact kd_b5 _ | exact kd_b6 _) rfl (by omega) ?_
  refine Wp.pr (kz := 2) rfl dX12_init_17 fkX12_13 fnX12_13 (by first | rfl | exact kd_b0 _ | exact kd_b1 _ | exact kd_b2 _ | exact kd_b3 _ | exact kd_b4 _ | exact kd_b5 _ | exact kd_b6 _) (by omega) ?_
  refine Wp.aload_n rfl dX12_init_20 ?_
  refine Wp.bipush rfl dX12_init_21 ?_
  refine Wp.newI (bd := (21, 21626)) dX12_init_23 ka_int (by first | rfl | exact kd_b0 _ | exact kd_b1 _ | exact kd_b2 _ | exact kd_b3 _ | exact kd_b4 _ | exact kd_b5 _ | exact kd_b6 _) rfl (by omega) ?_
  refine Wp.pr (kz := 3) rfl dX12_init_25 fkX12_16 fnX12_16 (by first | rfl | exact kd_b0 _ | exact kd_b1 _ | exact kd_b2 _ | exact kd_b3 _ | exact kd_b4 _ | exact kd_b5 _ | exact kd_b6 _) (by omega) ?_
  refine Wp.aload_n rfl dX12_init_28 ?_
  refine Wp.sipush rfl dX12_init_29 ?_
  refine Wp.newI (bd := (20, 21146)) dX12_init_32 ka_int (by first | rfl | exact kd_b0 _ | exact kd_b1 _ | exact kd_b2 _ | exact kd_b3 _ | exact kd_b4 _ | exact kd_b5 _ | exact kd_b6 _) rfl (by omega) ?_
  refine Wp.pr (kz := 4) rfl dX12_init_34 fkX12_19 fnX12_19 (by first | rfl | exact kd_b0 _ | exact kd_b1 _ | exact kd_b2 _ | exact kd_b3 _ | exact kd_b4 _ | exact kd_b5 _ | exact kd_b6 _) (by omega) ?_
  refine Wp.aload_n rfl dX12_init_37 ?_
  refine Wp.sipush rfl dX12_init_38 ?_
  refine Wp.newI (bd := (19, 19706)) dX12_init_41 ka_int (by first | rfl | exact kd_b0 _ | exact kd_b1 _ | exact kd_b2 _ | exact kd_b3 _ | exact kd_b4 _ | exact kd_b5 _ | exact kd_b6 _) rfl (by omega) ?_
  refine Wp.pr (kz := 5) rfl dX12_init_43 fkX12_22 fnX12_22 (by first | rfl | exact kd_b0 _ | exact kd_b1 _ | exact kd_b2 _ | exact kd_b3 _ | exact kd_b4 _ | exact kd_b5 _ | exact kd_b6 _) (by omega) ?_
  refine Wp.aload_n rfl dX12_init_46 ?_
  refine Wp.sipush rfl dX12_init_47 ?_
  refine Wp.newI (bd := (18, 18266)) dX12_init_50 ka_int (by first | rfl | exact kd_b0 _ | exact kd_b1 _ | exact kd_b2 _ | exact kd_b3 _ | exact kd_b4 _ | exact kd_b5 _ | exact kd_b6 _) rfl (by omega) ?_
  refine Wp.pr (kz := 6) rfl dX12_init_52 fkX12_25 fnX12_25 (by first | rfl | exact kd_b0 _ | exact kd_b1 _ | exact kd_b2 _ | exact kd_b3 _ | exact kd_b4 _ | exact kd_b5 _ | exact kd_b6 _) (by omega) ?_
  refine Wp.aload_n rfl dX12_init_55 ?_
  refine Wp.sipush rfl dX12_init_56 ?_
  refine Wp.newI (bd := (17, 9626)) dX12_init_59 ka_int (by first | rfl | exact kd_b0 _ | exact kd_b1 _ | exact kd_b2 _ | exact kd_b3 _ | exact kd_b4 _ | exact kd_b5 _ | exact kd_b6 _) rfl (by omega) ?_
  refine Wp.pr (kz := 7) rfl dX12_init_61 fkX12_28 fnX12_28 (by first | rfl | exact kd_b0 _ | exact kd_b1 _ | exact kd_b2 _ | exact kd_b3 _ | exact kd_b4 _ | exact kd_b5 _ | exact kd_b6 _) (by omega) ?_
  refine Wp.aload_n rfl dX12_init_64 ?_
  refine Wp.sipush rfl dX12_init_65 ?_
  refine Wp.newZ (bd := (16, 986)) dX12_init_68 ka_boolean (by first | rfl | exact kd_b0 _ | exact kd_b1 _ | exact kd_b2 _ | exact kd_b3 _ | exact kd_b4 _ | exact kd_b5 _ | exact kd_b6 _) rfl (by omega) ?_
  refine Wp.pr (kz := 8) rfl dX12_init_70 fkX12_31 fnX12_31 (by first | rfl | exact kd_b0 _ | exact kd_b1 _ | exact kd_b2 _ | exact kd_b3 _ | exact kd_b4 _ | exact kd_b5 _ | exact kd_b6 _) (by omega) ?_
  refine Wp.aload_n rfl dX12_init_73 ?_
  refine Wp.sipush rfl dX12_init_74 ?_
  refine Wp.pi (kz := 9) rfl dX12_init_77 fkX12_35 (Or.inl rfl) (Or.inl rfl) (by first | rfl | exact kd_b0 _ | exact kd_b1 _ | exact kd_b2 _ | exact kd_b3 _ | exact kd_b4 _ | exact kd_b5 _ | exact kd_b6 _) (by omega) ?_
  refine Wp.aload_n rfl dX12_init_80 ?_
  refine Wp.iconst dX12_init_81 ?_
  refine Wp.pi (kz := 10) rfl dX12_init_82 fkX12_39 (Or.inl rfl) (Or.inr (by omega)) (by first | rfl | exact kd_b0 _ | exact kd_b1 _ | exact kd_b2 _ | exact kd_b3 _ | exact kd_b4 _ | exact kd_b5 _ | exact kd_b6 _) (by omega) ?_
  refine Wp.aload_n rfl dX12_init_85 ?_
  refine Wp.sipush rfl dX12_init_86 ?_
  refine Wp.pi (kz := 11) rfl dX12_init_89 fkX12_43 (Or.inl rfl) (Or.inl rfl) (by first | rfl | exact kd_b0 _ | exact kd_b1 _ | exact kd_b2 _ | exact kd_b3 _ | exact kd_b4 _ | exact kd_b5 _ | exact kd_b6 _) (by omega) ?_
  refine Wp.aload_n rfl dX12_init_92 ?_
  refine Wp.sipush rfl dX12_init_93 ?_
  refine Wp.newI (bd := (15, 746)) dX12_init_96 ka_int (by first | rfl | exact kd_b0 _ | exact kd_b1 _ | exact kd_b2 _ | exact kd_b3 _ | exact kd_b4 _ | exact kd_b5 _ | exact kd_b6 _) rfl (by omega) ?_
  refine Wp.pr (kz := 12) rfl dX12_init_98 fkX12_46 fnX12_46 (by first | rfl | exact kd_b0 _ | exact kd_b1 _ | exact kd_b2 _ | exact kd_b3 _ | exact kd_b4 _ | exact kd_b5 _ | exact kd_b6 _) (by omega) ?_
  refine Wp.aload_n rfl dX12_init_101 ?_
  refine Wp.iconst dX12_init_102 ?_
  refine Wp.pi (kz := 14) rfl dX12_init_103 fkX12_49 (Or.inl rfl) (Or.inl rfl) (by first | rfl | exact kd_b0 _ | exact kd_b1 _ | exact kd_b2 _ | exact kd_b3 _ | exact kd_b4 _ | exact kd_b5 _ | exact kd_b6 _) (by omega) ?_
  refine Wp.aload_n rfl dX12_init_106 ?_
  refine Wp.bipush rfl dX12_init_107 ?_
  refine Wp.newL (bd := (14, 686)) dX12_init_109 ka_long (by first | rfl | exact kd_b0 _ | exact kd_b1 _ | exact kd_b2 _ | exact kd_b3 _ | exact kd_b4 _ | exact kd_b5 _ | exact kd_b6 _) rfl (by omega) ?_
  refine Wp.pr (kz := 18) rfl dX12_init_111 fkX12_52 fnX12_52 (by first | rfl | exact kd_b0 _ | exact kd_b1 _ | exact kd_b2 _ | exact kd_b3 _ | exact kd_b4 _ | exact kd_b5 _ | exact kd_b6 _) (by omega) ?_
  refine Wp.aload_n rfl dX12_init_114 ?_
  refine Wp.bipush rfl dX12_init_115 ?_
  refine Wp.newI (bd := (13, 656)) dX12_init_117 ka_int (by first | rfl | exact kd_b0 _ | exact kd_b1 _ | exact kd_b2 _ | exact kd_b3 _ | exact kd_b4 _ | exact kd_b5 _ | exact kd_b6 _) rfl (by omega) ?_
  refine Wp.pr (kz := 26) rfl dX12_init_119 fkX12_56 fnX12_56 (by first | rfl | exact kd_b0 _ | exact kd_b1 _ | exact kd_b2 _ | exact kd_b3 _ | exact kd_b4 _ | exact kd_b5 _ | exact kd_b6 _) (by omega) ?_
  refine Wp.aload_n rfl dX12_init_122 ?_
  refine Wp.bipush rfl dX12_init_123 ?_
  refine Wp.newI (bd := (12, 626)) dX12_init_125 ka_int (by first | rfl | exact kd_b0 _ | exact kd_b1 _ | exact kd_b2 _ | exact kd_b3 _ | exact kd_b4 _ | exact kd_b5 _ | exact kd_b6 _) rfl (by omega) ?_
  refine Wp.pr (kz := 27) rfl dX12_init_127 fkX12_59 fnX12_59 (by first | rfl | exact kd_b0 _ | exact kd_b1 _ | exact kd_b2 _ | exact kd_b3 _ | exact kd_b4 _ | exact kd_b5 _ | exact kd_b6 _) (by omega) ?_
  refine Wp.aload_n rfl dX12_init_130 ?_
  refine Wp.bipush rfl dX12_init_131 ?_
  refine Wp.newI (bd := (11, 596)) dX12_init_133 ka_int (by first | rfl | exact kd_b0 _ | exact kd_b1 _ | exact kd_b2 _ | exact kd_b3 _ | exact kd_b4 _ | exact kd_b5 _ | exact kd_b6 _) rfl (by omega) ?_
  refine Wp.pr (kz := 28) rfl dX12_init_135 fkX12_62 fnX12_62 (by first | rfl | exact kd_b0 _ | exact kd_b1 _ | exact kd_b2 _ | exact kd_b3 _ | exact kd_b4 _ | exact kd_b5 _ | exact kd_b6 _) (by omega) ?_
  refine Wp.aload_n rfl dX12_init_138 ?_
  refine Wp.bipush rfl dX12_init_139 ?_
  refine Wp.newI (bd := (10, 566)) dX12_init_141 ka_int (by first | rfl | exact kd_b0 _ | exact kd_b1 _ | exact kd_b2 _ | exact kd_b3 _ | exact kd_b4 _ | exact kd_b5 _ | exact kd_b6 _) rfl (by omega) ?_
  refine Wp.pr (kz := 29) rfl dX12_init_143 fkX12_65 fnX12_65 (by first | rfl | exact kd_b0 _ | exact kd_b1 _ | exact kd_b2 _ | exact kd_b3 _ | exact kd_b4 _ | exact kd_b5 _ | exact kd_b6 _) (by omega) ?_
  refine Wp.aload_n rfl dX12_init_146 ?_
  refine Wp.bipush rfl dX12_init_147 ?_
  refine Wp.newI (bd := (9, 526)) dX12_init_149 ka_int (by first | rfl | exact kd_b0 _ | exact kd_b1 _ | exact kd_b2 _ | exact kd_b3 _ | exact kd_b4 _ | exact kd_b5 _ | exact kd_b6 _) rfl (by omega) ?_
  refine Wp.pr (kz := 31) rfl dX12_init_151 fkX12_68 fnX12_68 (by first | rfl | exact kd_b0 _ | exact kd_b1 _ | exact kd_b2 _ | exact kd_b3 _ | exact kd_b4 _ | exact kd_b5 _ | exact kd_b6 _) (by omega) ?_
  refine Wp.aload_n rfl dX12_init_154 ?_
  refine Wp.bipush rfl dX12_init_155 ?_
  refine Wp.newI (bd := (8, 486)) dX12_init_157 ka_int (by first | rfl | exact kd_b0 _ | exact kd_b1 _ | exact kd_b2 _ | exact kd_b3 _ | exact kd_b4 _ | exact kd_b5 _ | exact kd_b6 _) rfl (by omega) ?_
  refine Wp.pr (kz := 32) rfl dX12_init_159 fkX12_71 fnX12_71 (by first | rfl | exact kd_b0 _ | exact kd_b1 _ | exact kd_b2 _ | exact kd_b3 _ | exact kd_b4 _ | exact kd_b5 _ | exact kd_b6 _) (by omega) ?_
  refine Wp.aload_n rfl dX12_init_162 ?_
  refine Wp.bipush rfl dX12_init_163 ?_
  refine Wp.newI (bd := (7, 446)) dX12_init_165 ka_int (by first | rfl | exact kd_b0 _ | exact kd_b1 _ | exact kd_b2 _ | exact kd_b3 _ | exact kd_b4 _ | exact kd_b5 _ | exact kd_b6 _) rfl (by omega) ?_
  refine Wp.pr (kz := 33) rfl dX12_init_167 fkX12_74 fnX12_74 (by first | rfl | exact kd_b0 _ | exact kd_b1 _ | exact kd_b2 _ | exact kd_b3 _ | exact kd_b4 _ | exact kd_b5 _ | exact kd_b6 _) (by omega) ?_
  refine Wp.aload_n rfl dX12_init_170 ?_
  refine Wp.bipush rfl dX12_init_171 ?_
  refine Wp.newI (bd := (6, 406)) dX12_init_173 ka_int (by first | rfl | exact kd_b0 _ | exact kd_b1 _ | exact kd_b2 _ | exact kd_b3 _ | exact kd_b4 _ | exact kd_b5 _ | exact kd_b6 _) rfl (by omega) ?_
  refine Wp.pr (kz := 34) rfl dX12_init_175 fkX12_77 fnX12_77 (by first | rfl | exact kd_b0 _ | exact kd_b1 _ | exact kd_b2 _ | exact kd_b3 _ | exact kd_b4 _ | exact kd_b5 _ | exact kd_b6 _) (by omega) ?_
  refine Wp.aload_n rfl dX12_init_178 ?_
  refine Wp.bipush rfl dX12_init_179 ?_
  refine Wp.newI (bd := (5, 396)) dX12_init_181 ka_int (by first | rfl | exact kd_b0 _ | exact kd_b1 _ | exact kd_b2 _ | exact kd_b3 _ | exact kd_b4 _ | exact kd_b5 _ | exact kd_b6 _) rfl (by omega) ?_
  refine Wp.pr (kz := 37) rfl dX12_init_183 fkX12_80 fnX12_80 (by first | rfl | exact kd_b0 _ | exact kd_b1 _ | exact kd_b2 _ | exact kd_b3 _ | exact kd_b4 _ | exact kd_b5 _ | exact kd_b6 _) (by omega) ?_
  refine Wp.aload_n rfl dX12_init_186 ?_
  refine Wp.bipush rfl dX12_init_187 ?_
  refine Wp.newI (bd := (4, 386)) dX12_init_189 ka_int (by first | rfl | exact kd_b0 _ | exact kd_b1 _ | exact kd_b2 _ | exact kd_b3 _ | exact kd_b4 _ | exact kd_b5 _ | exact kd_b6 _) rfl (by omega) ?_
  refine Wp.pr (kz := 38) rfl dX12_init_191 fkX12_83 fnX12_83 (by first | rfl | exact kd_b0 _ | exact kd_b1 _ | exact kd_b2 _ | exact kd_b3 _ | exact kd_b4 _ | exact kd_b5 _ | exact kd_b6 _) (by omega) ?_
  refine Wp.aload_n rfl dX12_init_194 ?_
  refine Wp.sipush rfl dX12_init_195 ?_
  refine Wp.newI (bd := (3, 206)) dX12_init_198 ka_int (by first | rfl | exact kd_b0 _ | exact kd_b1 _ | exact kd_b2 _ | exact kd_b3 _ | exact kd_b4 _ | exact kd_b5 _ | exact kd_b6 _) rfl (by omega) ?_
  refine Wp.pr (kz := 39) rfl dX12_init_200 fkX12_86 fnX12_86 (by first | rfl | exact kd_b0 _ | exact kd_b1 _ | exact kd_b2 _ | exact kd_b3 _ | exact kd_b4 _ | exact kd_b5 _ | exact kd_b6 _) (by omega) ?_
  refine Wp.aload_n rfl dX12_init_203 ?_
  refine Wp.sipush rfl dX12_init_204 ?_
  refine Wp.newI (bd := (2, 8)) dX12_init_207 ka_int (by first | rfl | exact kd_b0 _ | exact kd_b1 _ | exact kd_b2 _ | exact kd_b3 _ | exact kd_b4 _ | exact kd_b5 _ | exact kd_b6 _) rfl (by omega) ?_
  refine Wp.pr (kz := 40) rfl dX12_init_209 fkX12_89 fnX12_89 (by first | rfl | exact kd_b0 _ | exact kd_b1 _ | exact kd_b2 _ | exact kd_b3 _ | exact kd_b4 _ | exact kd_b5 _ | exact kd_b6 _) (by omega) ?_
  refine Wp.aload_n rfl dX12_init_212 ?_
  refine Wp.iconst dX12_init_213 ?_
  refine Wp.newI (bd := (1, 4)) dX12_init_214 ka_int (by first | rfl | exact kd_b0 _ | exact kd_b1 _ | exact kd_b2 _ | exact kd_b3 _ | exact kd_b4 _ | exact kd_b5 _ | exact kd_b6 _) rfl (by omega) ?_
  refine Wp.pr (kz := 41) rfl dX12_init_216 fkX12_92 fnX12_92 (by first | rfl | exact kd_b0 _ | exact kd_b1 _ | exact kd_b2 _ | exact kd_b3 _ | exact kd_b4 _ | exact kd_b5 _ | exact kd_b6 _) (by omega) ?_
  refine Wp.aload_n rfl dX12_init_219 ?_
  refine Wp.iconst dX12_init_220 ?_
  refine Wp.newL (bd := (0, 0)) dX12_init_221 ka_long (by first | rfl | exact kd_b0 _ | exact kd_b1 _ | exact kd_b2 _ | exact kd_b3 _ | exact kd_b4 _ | exact kd_b5 _ | exact kd_b6 _) rfl (by omega) ?_
  refine Wp.pr (kz := 43) rfl dX12_init_223 fkX12_95 fnX12_95 (by first | rfl | exact kd_b0 _ | exact kd_b1 _ | exact kd_b2 _ | exact kd_b3 _ | exact kd_b4 _ | exact kd_b5 _ | exact kd_b6 _) (by omega) ?_
  refine Wp.vreturn dX12_init_226 rfl ?_
  skip
  show Wp _ _ _ _ _ _ _
  refine Wp.astore_n (ls' := [_, _, _, _]) dL_law_15 (show _ < 4 by decide) rfl ?_
  refine Wp.iconst dL_law_16 ?_
  refine Wp.istore_n (ls' := [_, _, _, _]) dL_law_17 (show _ < 4 by decide) rfl ?_
  refine lw_loop hN (fun _ => rfl) ((N : Int) - 0).toNat.succ 0 _ _ _ _ (by omega) (by omega) (by omega) (SR_0 ?_ ?_ ?_ ?_ ?_ ?_ ?_ ?_ ?_ ?_ ?_ ?_ ?_ ?_ ?_ ?_ ?_ ?_ ?_ ?_ ?_)
  case refine_20 =>
    intro o k r hr
    unfold fxT at hr
    split at hr <;> first | (cases hr; done) | (cases hr; rfl)
  all_goals rfl
end

