theorem dJ6_bitCount_0f7a4_0 : decode cJ6_bitCount_0f7a4 0 = .ok (.iload_n 0, 1) := by decide +kernel
theorem dJ6_bitCount_0f7a4_1 : decode cJ6_bitCount_0f7a4 1 = .ok (.iload_n 0, 1) := by decide +kernel
theorem dJ6_bitCount_0f7a4_2 : decode cJ6_bitCount_0f7a4 2 = .ok (.iconst 1, 1) := by decide +kernel
theorem dJ6_bitCount_0f7a4_3 : decode cJ6_bitCount_0f7a4 3 = .ok (.iushr, 1) := by decide +kernel
theorem dJ6_bitCount_0f7a4_4 : decode cJ6_bitCount_0f7a4 4 = .ok (.ldc_w 265, 3) := by decide +kernel
theorem dJ6_bitCount_0f7a4_7 : decode cJ6_bitCount_0f7a4 7 = .ok (.iand, 1) := by decide +kernel
theorem dJ6_bitCount_0f7a4_8 : decode cJ6_bitCount_0f7a4 8 = .ok (.isub, 1) := by decide +kernel
theorem dJ6_bitCount_0f7a4_9 : decode cJ6_bitCount_0f7a4 9 = .ok (.istore_n 0, 1) := by decide +kernel
theorem dJ6_bitCount_0f7a4_10 : decode cJ6_bitCount_0f7a4 10 = .ok (.iload_n 0, 1) := by decide +kernel
theorem dJ6_bitCount_0f7a4_11 : decode cJ6_bitCount_0f7a4 11 = .ok (.ldc_w 266, 3) := by decide +kernel
theorem dJ6_bitCount_0f7a4_14 : decode cJ6_bitCount_0f7a4 14 = .ok (.iand, 1) := by decide +kernel
theorem dJ6_bitCount_0f7a4_15 : decode cJ6_bitCount_0f7a4 15 = .ok (.iload_n 0, 1) := by decide +kernel
theorem dJ6_bitCount_0f7a4_16 : decode cJ6_bitCount_0f7a4 16 = .ok (.iconst 2, 1) := by decide +kernel
theorem dJ6_bitCount_0f7a4_17 : decode cJ6_bitCount_0f7a4 17 = .ok (.iushr, 1) := by decide +kernel
theorem dJ6_bitCount_0f7a4_18 : decode cJ6_bitCount_0f7a4 18 = .ok (.ldc_w 266, 3) := by decide +kernel
theorem dJ6_bitCount_0f7a4_21 : decode cJ6_bitCount_0f7a4 21 = .ok (.iand, 1) := by decide +kernel
theorem dJ6_bitCount_0f7a4_22 : decode cJ6_bitCount_0f7a4 22 = .ok (.iadd, 1) := by decide +kernel
theorem dJ6_bitCount_0f7a4_23 : decode cJ6_bitCount_0f7a4 23 = .ok (.istore_n 0, 1) := by decide +kernel
theorem dJ6_bitCount_0f7a4_24 : decode cJ6_bitCount_0f7a4 24 = .ok (.iload_n 0, 1) := by decide +kernel
theorem dJ6_bitCount_0f7a4_25 : decode cJ6_bitCount_0f7a4 25 = .ok (.iload_n 0, 1) := by decide +kernel
theorem dJ6_bitCount_0f7a4_26 : decode cJ6_bitCount_0f7a4 26 = .ok (.iconst 4, 1) := by decide +kernel
theorem dJ6_bitCount_0f7a4_27 : decode cJ6_bitCount_0f7a4 27 = .ok (.iushr, 1) := by decide +kernel
theorem dJ6_bitCount_0f7a4_28 : decode cJ6_bitCount_0f7a4 28 = .ok (.iadd, 1) := by decide +kernel
theorem dJ6_bitCount_0f7a4_29 : decode cJ6_bitCount_0f7a4 29 = .ok (.ldc_w 267, 3) := by decide +kernel
theorem dJ6_bitCount_0f7a4_32 : decode cJ6_bitCount_0f7a4 32 = .ok (.iand, 1) := by decide +kernel
theorem dJ6_bitCount_0f7a4_33 : decode cJ6_bitCount_0f7a4 33 = .ok (.istore_n 0, 1) := by decide +kernel
theorem dJ6_bitCount_0f7a4_34 : decode cJ6_bitCount_0f7a4 34 = .ok (.iload_n 0, 1) := by decide +kernel
theorem dJ6_bitCount_0f7a4_35 : decode cJ6_bitCount_0f7a4 35 = .ok (.iload_n 0, 1) := by decide +kernel
theorem dJ6_bitCount_0f7a4_36 : decode cJ6_bitCount_0f7a4 36 = .ok (.bipush 8, 2) := by decide +kernel
theorem dJ6_bitCount_0f7a4_38 : decode cJ6_bitCount_0f7a4 38 = .ok (.iushr, 1) := by decide +kernel
theorem dJ6_bitCount_0f7a4_39 : decode cJ6_bitCount_0f7a4 39 = .ok (.iadd, 1) := by decide +kernel
theorem dJ6_bitCount_0f7a4_40 : decode cJ6_bitCount_0f7a4 40 = .ok (.istore_n 0, 1) := by decide +kernel
theorem dJ6_bitCount_0f7a4_41 : decode cJ6_bitCount_0f7a4 41 = .ok (.iload_n 0, 1) := by decide +kernel
theorem dJ6_bitCount_0f7a4_42 : decode cJ6_bitCount_0f7a4 42 = .ok (.iload_n 0, 1) := by decide +kernel
theorem dJ6_bitCount_0f7a4_43 : decode cJ6_bitCount_0f7a4 43 = .ok (.bipush 16, 2) := by decide +kernel
theorem dJ6_bitCount_0f7a4_45 : decode cJ6_bitCount_0f7a4 45 = .ok (.iushr, 1) := by decide +kernel
theorem dJ6_bitCount_0f7a4_46 : decode cJ6_bitCount_0f7a4 46 = .ok (.iadd, 1) := by decide +kernel
theorem dJ6_bitCount_0f7a4_47 : decode cJ6_bitCount_0f7a4 47 = .ok (.istore_n 0, 1) := by decide +kernel
theorem dJ6_bitCount_0f7a4_48 : decode cJ6_bitCount_0f7a4 48 = .ok (.iload_n 0, 1) := by decide +kernel
theorem dJ6_bitCount_0f7a4_49 : decode cJ6_bitCount_0f7a4 49 = .ok (.bipush 63, 2) := by decide +kernel
theorem dJ6_bitCount_0f7a4_51 : decode cJ6_bitCount_0f7a4 51 = .ok (.iand, 1) := by decide +kernel
theorem dJ6_bitCount_0f7a4_52 : decode cJ6_bitCount_0f7a4 52 = .ok (.ireturn, 1) := by decide +kernel
set_option maxHeartbeats 4000000 in
set_option maxRecDepth 100000 in
theorem c_J6_bitCount_0f7a4 (l : Launch) (D : va_G) (tys : List (ClassId × FieldType)) (base : Nat) (G : iv_G) (x_0 : Int32) (i_x_0 : iv_R (-2147483648) 2147483647 x_0) : Met l yJ6_bitCount_0f7a4 (Cond.code yJ6_bitCount_0f7a4 cJ6_bitCount_0f7a4 1 (some .int) :: iv_W0) ({ frames := 0, cells := 0, slots := 0, locals := 0 }) (iv_Pc iv_sh D classes tys base G [.int x_0]) (iv_Qi iv_sh D classes tys base (fun v G' => G = G' ∧ iv_R 0 63 v)) 0 0 (iv_A base) := by
  refine iv_head (by decide) (Nat.le_of_ble_eq_true rfl) ?_
  intro p e s m args below meth c ls X hr hlocks hname hB hl
  have X := X
  have hx := X.1.1
  have hb := X.1.2.1
  have hl : lv_has ls 1 [(0, .int x_0)] := hl
  refine lv_iload_n hx hb dJ6_bitCount_0f7a4_0 rfl (lv_at hl 0 rfl) ?_
  refine lv_iload_n hx hb dJ6_bitCount_0f7a4_1 rfl (lv_at hl 0 rfl) ?_
  refine lv_iconst (v := 1) hx hb dJ6_bitCount_0f7a4_2 (by decide) ?_
  refine lv_iushr hx hb dJ6_bitCount_0f7a4_3 rfl ?_
  refine lv_topi (fun x1 e_x1 => ?_)
  have i_x1 := iv_R.all x1
  refine lv_ldcw (v := 1431655765) hx hb X.1.2.2.2.1 (X.1.2.2.2.2 _ k_ct_J6_265) dJ6_bitCount_0f7a4_4 ?_
  refine iv_iand_r hx hb q_1431655765 (by decide) dJ6_bitCount_0f7a4_7 (fun x2 e_x2 i_x2 => ?_)
  refine lv_isub hx hb dJ6_bitCount_0f7a4_8 ?_
  refine lv_topi (fun x3 e_x3 => ?_)
  have i_x3 := iv_R.all x3
  refine lv_istore_n (lv' := [(0, .int x3)]) hx hb dJ6_bitCount_0f7a4_9 rfl hl (by decide) rfl (fun ls hl => ?_)
  refine lv_iload_n hx hb dJ6_bitCount_0f7a4_10 rfl (lv_at hl 0 rfl) ?_
  refine lv_ldcw (v := 858993459) hx hb X.1.2.2.2.1 (X.1.2.2.2.2 _ k_ct_J6_266) dJ6_bitCount_0f7a4_11 ?_
  refine iv_iand_r hx hb q_858993459 (by decide) dJ6_bitCount_0f7a4_14 (fun x4 e_x4 i_x4 => ?_)
  refine lv_iload_n hx hb dJ6_bitCount_0f7a4_15 rfl (lv_at hl 0 rfl) ?_
  refine lv_iconst (v := 2) hx hb dJ6_bitCount_0f7a4_16 (by decide) ?_
  refine lv_iushr hx hb dJ6_bitCount_0f7a4_17 rfl ?_
  refine lv_topi (fun x5 e_x5 => ?_)
  have i_x5 := iv_R.all x5
  refine lv_ldcw (v := 858993459) hx hb X.1.2.2.2.1 (X.1.2.2.2.2 _ k_ct_J6_266) dJ6_bitCount_0f7a4_18 ?_
  refine iv_iand_r hx hb q_858993459 (by decide) dJ6_bitCount_0f7a4_21 (fun x6 e_x6 i_x6 => ?_)
  refine iv_iadd hx hb i_x4 i_x6 (lo := 0) (hi := 1717986918) (by decide) dJ6_bitCount_0f7a4_22 (fun x7 e_x7 i_x7 => ?_)
  refine lv_istore_n (lv' := [(0, .int x7)]) hx hb dJ6_bitCount_0f7a4_23 rfl hl (by decide) rfl (fun ls hl => ?_)
  refine lv_iload_n hx hb dJ6_bitCount_0f7a4_24 rfl (lv_at hl 0 rfl) ?_
  refine lv_iload_n hx hb dJ6_bitCount_0f7a4_25 rfl (lv_at hl 0 rfl) ?_
  refine lv_iconst (v := 4) hx hb dJ6_bitCount_0f7a4_26 (by decide) ?_
  refine lv_iushr hx hb dJ6_bitCount_0f7a4_27 rfl ?_
  refine lv_topi (fun x8 e_x8 => ?_)
  have i_x8 := iv_R.all x8
  refine lv_iadd hx hb dJ6_bitCount_0f7a4_28 ?_
  refine lv_topi (fun x9 e_x9 => ?_)
  have i_x9 := iv_R.all x9
  refine lv_ldcw (v := 252645135) hx hb X.1.2.2.2.1 (X.1.2.2.2.2 _ k_ct_J6_267) dJ6_bitCount_0f7a4_29 ?_
  refine iv_iand_r hx hb q_252645135 (by decide) dJ6_bitCount_0f7a4_32 (fun x10 e_x10 i_x10 => ?_)
  refine lv_istore_n (lv' := [(0, .int x10)]) hx hb dJ6_bitCount_0f7a4_33 rfl hl (by decide) rfl (fun ls hl => ?_)
  refine lv_iload_n hx hb dJ6_bitCount_0f7a4_34 rfl (lv_at hl 0 rfl) ?_
  refine lv_iload_n hx hb dJ6_bitCount_0f7a4_35 rfl (lv_at hl 0 rfl) ?_
  refine lv_bipush (v := 8) hx hb dJ6_bitCount_0f7a4_36 (by decide) ?_
  refine lv_iushr hx hb dJ6_bitCount_0f7a4_38 rfl ?_
  refine lv_topi (fun x11 e_x11 => ?_)
  have i_x11 := iv_R.all x11
  refine lv_iadd hx hb dJ6_bitCount_0f7a4_39 ?_
  refine lv_topi (fun x12 e_x12 => ?_)
  have i_x12 := iv_R.all x12
  refine lv_istore_n (lv' := [(0, .int x12)]) hx hb dJ6_bitCount_0f7a4_40 rfl hl (by decide) rfl (fun ls hl => ?_)
  refine lv_iload_n hx hb dJ6_bitCount_0f7a4_41 rfl (lv_at hl 0 rfl) ?_
  refine lv_iload_n hx hb dJ6_bitCount_0f7a4_42 rfl (lv_at hl 0 rfl) ?_
  refine lv_bipush (v := 16) hx hb dJ6_bitCount_0f7a4_43 (by decide) ?_
  refine lv_iushr hx hb dJ6_bitCount_0f7a4_45 rfl ?_
  refine lv_topi (fun x13 e_x13 => ?_)
  have i_x13 := iv_R.all x13
  refine lv_iadd hx hb dJ6_bitCount_0f7a4_46 ?_
  refine lv_topi (fun x14 e_x14 => ?_)
  have i_x14 := iv_R.all x14
  refine lv_istore_n (lv' := [(0, .int x14)]) hx hb dJ6_bitCount_0f7a4_47 rfl hl (by decide) rfl (fun ls hl => ?_)
  refine lv_iload_n hx hb dJ6_bitCount_0f7a4_48 rfl (lv_at hl 0 rfl) ?_
  refine lv_bipush (v := 63) hx hb dJ6_bitCount_0f7a4_49 (by decide) ?_
  refine iv_iand_r hx hb q_63 (by decide) dJ6_bitCount_0f7a4_51 (fun x15 e_x15 i_x15 => ?_)
  exact iv_iret X hr hlocks hB ⟨rfl, i_x15⟩ dJ6_bitCount_0f7a4_52
theorem dX8_has_0 : decode cX8_has 0 = .ok (.iload_n 1, 1) := by decide +kernel
theorem dX8_has_1 : decode cX8_has 1 = .ok (.ifCond .lt 15, 3) := by decide +kernel
theorem dX8_has_4 : decode cX8_has 4 = .ok (.iload_n 1, 1) := by decide +kernel
theorem dX8_has_5 : decode cX8_has 5 = .ok (.aload_n 0, 1) := by decide +kernel
theorem dX8_has_6 : decode cX8_has 6 = .ok (.getfield 19, 3) := by decide +kernel
theorem dX8_has_9 : decode cX8_has 9 = .ok (.if_icmp .ge 7, 3) := by decide +kernel
theorem dX8_has_12 : decode cX8_has 12 = .ok (.iconst 1, 1) := by decide +kernel
theorem dX8_has_13 : decode cX8_has 13 = .ok (.goto 4, 3) := by decide +kernel
theorem dX8_has_16 : decode cX8_has 16 = .ok (.iconst 0, 1) := by decide +kernel
theorem dX8_has_17 : decode cX8_has 17 = .ok (.ireturn, 1) := by decide +kernel
set_option maxHeartbeats 4000000 in
set_option maxRecDepth 100000 in
theorem c_X8_has_13 (l : Launch) (D : va_G) (tys : List (ClassId × FieldType)) (base : Nat) (G : iv_G) (h0 : Nat) (g_h0 : Nat → Int32) (r_h0 : Nat → Nat) (a_h0 : G h0 = some (13, g_h0, r_h0)) (x_0 : Int32) (i_x_0 : iv_R (-2147483648) 2147483647 x_0) : Met l yX8_has (Cond.code yX8_has cX8_has 2 (some .boolean) :: iv_W0) ({ frames := 0, cells := 0, slots := 0, locals := 0 }) (iv_Pc iv_sh D classes tys base G [.ref h0, .int x_0]) (iv_Qi iv_sh D classes tys base (fun v G' => G = G' ∧ iv_R 0 1 v ∧ (¬ v = 0 → iv_R 0 119 x_0))) 0 0 (iv_A base) := by
  refine iv_head (by decide) (Nat.le_of_ble_eq_true rfl) ?_
  intro p e s m args below meth c ls X hr hlocks hname hB hl
  have X := X
  have hx := X.1.1
  have hb := X.1.2.1
  have hl : lv_has ls 2 [(0, .ref h0), (1, .int x_0)] := hl
  refine lv_iload_n hx hb dX8_has_0 rfl (lv_at hl 1 rfl) ?_
  refine lv_if_lt (tgt := 16) hx hb dX8_has_1 (by decide) (fun c1 => ?_) (fun c1 => ?_)
  · skip
    have i1_x_0 : iv_R (-2147483648) (-1) x_0 := (i_x_0.cutHi (n := (-1)) (iv_lt_r c1 q_0 (by decide)))
    refine lv_iconst (v := 0) hx hb dX8_has_16 (by decide) ?_
    exact iv_zret X hr hlocks hB (q_0.wk (by decide)) ⟨rfl, (q_0.wk (by decide)), fun h => absurd (iv_z q_0) h⟩ dX8_has_17
  · skip
    have i2_x_0 : iv_R 0 2147483647 x_0 := (i_x_0.cutLo (n := 0) (iv_le_l (iv_nlt c1) q_0))
    refine lv_iload_n hx hb dX8_has_4 rfl (lv_at hl 1 rfl) ?_
    refine lv_aload_n hx hb dX8_has_5 rfl (lv_at hl 0 rfl) ?_
    refine iv_geti X ft_X8 hB a_h0 sh_13 2 (by decide) rfl k_fl_X8_19 dX8_has_6 (fun x4 e_x4 i_x4 => ?_)
    refine lv_icmp_ge (tgt := 16) hx hb dX8_has_9 (by decide) (fun c5 => ?_) (fun c5 => ?_)
    · skip
      refine lv_iconst (v := 0) hx hb dX8_has_16 (by decide) ?_
      exact iv_zret X hr hlocks hB (q_0.wk (by decide)) ⟨rfl, (q_0.wk (by decide)), fun h => absurd (iv_z q_0) h⟩ dX8_has_17
    · skip
      have i5_x_0 : iv_R 0 119 x_0 := (i2_x_0.cutHi (n := 119) (iv_lt_r (iv_nle c5) i_x4 (by decide)))
      have i6_x4 : iv_R 1 120 x4 := (i_x4.cutLo (n := 1) (iv_lt_l (iv_nle c5) i2_x_0 (by decide)))
      refine lv_iconst (v := 1) hx hb dX8_has_12 (by decide) ?_
      refine lv_goto (tgt := 17) hx hb dX8_has_13 (by decide) ?_
      exact iv_zret X hr hlocks hB (q_1.wk (by decide)) ⟨rfl, (q_1.wk (by decide)), fun _ => i5_x_0⟩ dX8_has_17
theorem dX8_change_0 : decode cX8_change 0 = .ok (.aload_n 0, 1) := by decide +kernel
theorem dX8_change_1 : decode cX8_change 1 = .ok (.iload_n 1, 1) := by decide +kernel
theorem dX8_change_2 : decode cX8_change 2 = .ok (.invokevirtual 22, 3) := by decide +kernel
theorem dX8_change_5 : decode cX8_change 5 = .ok (.ifCond .eq 31, 3) := by decide +kernel
theorem dX8_change_8 : decode cX8_change 8 = .ok (.iload_n 2, 1) := by decide +kernel
theorem dX8_change_9 : decode cX8_change 9 = .ok (.iconst 0, 1) := by decide +kernel
theorem dX8_change_10 : decode cX8_change 10 = .ok (.aload_n 0, 1) := by decide +kernel
theorem dX8_change_11 : decode cX8_change 11 = .ok (.getfield 9, 3) := by decide +kernel
theorem dX8_change_14 : decode cX8_change 14 = .ok (.iconst 1, 1) := by decide +kernel
theorem dX8_change_15 : decode cX8_change 15 = .ok (.isub, 1) := by decide +kernel
theorem dX8_change_16 : decode cX8_change 16 = .ok (.invokestatic 26, 3) := by decide +kernel
theorem dX8_change_19 : decode cX8_change 19 = .ok (.ifCond .eq 17, 3) := by decide +kernel
theorem dX8_change_22 : decode cX8_change 22 = .ok (.aload_n 0, 1) := by decide +kernel
theorem dX8_change_23 : decode cX8_change 23 = .ok (.getfield 15, 3) := by decide +kernel
theorem dX8_change_26 : decode cX8_change 26 = .ok (.iload_n 1, 1) := by decide +kernel
theorem dX8_change_27 : decode cX8_change 27 = .ok (.aload_n 0, 1) := by decide +kernel
theorem dX8_change_28 : decode cX8_change 28 = .ok (.getfield 9, 3) := by decide +kernel
theorem dX8_change_31 : decode cX8_change 31 = .ok (.imul, 1) := by decide +kernel
theorem dX8_change_32 : decode cX8_change 32 = .ok (.iload_n 2, 1) := by decide +kernel
theorem dX8_change_33 : decode cX8_change 33 = .ok (.iadd, 1) := by decide +kernel
theorem dX8_change_34 : decode cX8_change 34 = .ok (.iload_n 3, 1) := by decide +kernel
theorem dX8_change_35 : decode cX8_change 35 = .ok (.iastore, 1) := by decide +kernel
theorem dX8_change_36 : decode cX8_change 36 = .ok (.return_, 1) := by decide +kernel
set_option maxHeartbeats 4000000 in
set_option maxRecDepth 100000 in
theorem c_X8_change_13 (l : Launch) (D : va_G) (tys : List (ClassId × FieldType)) (base : Nat) (G : iv_G) (h0 : Nat) (g_h0 : Nat → Int32) (r_h0 : Nat → Nat) (a_h0 : G h0 = some (13, g_h0, r_h0)) (x_0 : Int32) (i_x_0 : iv_R 0 119 x_0) (x_1 : Int32) (i_x_1 : iv_R 0 3 x_1) (x_2 : Int32) (i_x_2 : iv_R (-2147483648) 2147483647 x_2) : Met l yX8_change (Cond.code yX8_change cX8_change 4 none :: iv_W0) ({ frames := 1, cells := 0, slots := 0, locals := 22 }) (iv_Pc iv_sh D classes tys base G [.ref h0, .int x_0, .int x_1, .int x_2]) (iv_Qv iv_sh D classes tys base (fun G' => iv_Md [23] G G')) 0 0 (iv_A base) := by
  refine iv_head (by decide) (Nat.le_of_ble_eq_true rfl) ?_
  intro p e s m args below meth c ls X hr hlocks hname hB hl
  have X := X
  have hx := X.1.1
  have hb := X.1.2.1
  have hM : iv_Md [23] G G := iv_Md.rf
  have hl : lv_has ls 4 [(0, .ref h0), (1, .int x_0), (2, .int x_1), (3, .int x_2)] := hl
  refine lv_aload_n hx hb dX8_change_0 rfl (lv_at hl 0 rfl) ?_
  refine lv_iload_n hx hb dX8_change_1 rfl (lv_at hl 1 rfl) ?_
  refine iv_cVi X k_good k_mf_X8_has k_im_X8_has k_sel_X8_has k_ml_X8_22 ft_X8 hB a_h0 sh_13 (As := [.int x_0]) (c_X8_has_13 l D tys base G h0 g_h0 r_h0 a_h0 x_0 (i_x_0.wk (by decide))) ⟨rfl, rfl⟩ ⟨Nat.le_of_ble_eq_true rfl, Nat.le_of_ble_eq_true rfl⟩ ⟨Nat.le_of_ble_eq_true rfl, Nat.le_of_ble_eq_true rfl⟩ rfl rfl hl.1 (Nat.le_of_ble_eq_true rfl) dX8_change_2 (fun x1 G9 H locs hq hB => ?_)
  obtain ⟨rfl, i_x1, hp2⟩ := hq
  refine lv_if_eq (tgt := 36) hx hb dX8_change_5 (by decide) (fun c3 => ?_) (fun c3 => ?_)
  · skip
    have i3_x1 : iv_R 0 0 x1 := (i_x1.cutHi (n := 0) (iv_eq_r c3 q_0).2)
    exact iv_vret X hr hlocks hB hM dX8_change_36
  · skip
    have i4_x1 : iv_R 1 1 x1 := iv_ne_lo c3 i_x1 q_0 (by decide)
    refine lv_iload_n hx hb dX8_change_8 rfl (lv_at hl 2 rfl) ?_
    refine lv_iconst (v := 0) hx hb dX8_change_9 (by decide) ?_
    refine lv_aload_n hx hb dX8_change_10 rfl (lv_at hl 0 rfl) ?_
    refine iv_geti X ft_X8 hB a_h0 sh_13 0 (by decide) rfl k_fl_X8_9 dX8_change_11 (fun x6 e_x6 i_x6 => ?_)
    refine lv_iconst (v := 1) hx hb dX8_change_14 (by decide) ?_
    refine iv_isub hx hb i_x6 q_1 (lo := 3) (hi := 3) (by decide) dX8_change_15 (fun x7 e_x7 i_x7 => ?_)
    refine iv_cSNi X k_good k_mf_X11_isWithin k_st_X11_isWithin (k_mn_X8_26 X.2.2) hB (As := [.int x_1, .int 0, .int x7]) (c_X11_isWithin l D tys base G x_1 (i_x_1.wk (by decide)) 0 (q_0.wk (by decide)) x7 (i_x7.wk (by decide))) ⟨rfl, rfl⟩ ⟨Nat.le_of_ble_eq_true rfl, Nat.le_of_ble_eq_true rfl⟩ ⟨Nat.le_of_ble_eq_true rfl, Nat.le_of_ble_eq_true rfl⟩ rfl rfl hl.1 (Nat.le_of_ble_eq_true rfl) dX8_change_16 (fun x8 G9 H locs hq hB => ?_)
    obtain ⟨rfl, i_x8, hp9⟩ := hq
    have k10 : ¬ x8 = 0 → iv_R 0 3 x_1 := fun h => ⟨iv_max i_x_1.1 (Int.le_trans q_0.1 (hp9.1 h).1) (by decide), iv_min i_x_1.2 (Int.le_trans (hp9.1 h).2 i_x7.2) (by decide)⟩
    refine lv_if_eq (tgt := 36) hx hb dX8_change_19 (by decide) (fun c11 => ?_) (fun c11 => ?_)
    · skip
      have i11_x8 : iv_R 0 0 x8 := (i_x8.cutHi (n := 0) (iv_eq_r c11 q_0).2)
      exact iv_vret X hr hlocks hB hM dX8_change_36
    · skip
      have i12_x8 : iv_R 1 1 x8 := iv_ne_lo c11 i_x8 q_0 (by decide)
      refine lv_aload_n hx hb dX8_change_22 rfl (lv_at hl 0 rfl) ?_
      refine iv_getr X ft_X8 hB a_h0 sh_13 1 (by decide) rfl k_fl_X8_15 dX8_change_23 (fun b14 g_b14 r_b14 e_b14 a_b14 => ?_)
      refine lv_iload_n hx hb dX8_change_26 rfl (lv_at hl 1 rfl) ?_
      refine lv_aload_n hx hb dX8_change_27 rfl (lv_at hl 0 rfl) ?_
      refine iv_geti0 X ft_X8 hB a_h0 sh_13 0 (by decide) rfl k_fl_X8_9 dX8_change_28 e_x6 ?_
      refine iv_imul hx hb i_x_0 i_x6 (lo := 0) (hi := 476) (by decide) dX8_change_31 (fun x15 e_x15 i_x15 => ?_)
      refine lv_iload_n hx hb dX8_change_32 rfl (lv_at hl 2 rfl) ?_
      refine iv_iadd hx hb i_x15 i_x_1 (lo := 0) (hi := 479) (by decide) dX8_change_33 (fun x16 e_x16 i_x16 => ?_)
      refine lv_iload_n hx hb dX8_change_34 rfl (lv_at hl 3 rfl) ?_
      refine iv_ast X hB a_b14 sh_23 (iv_in i_x16 (by decide)) i_x_2 dX8_change_35 (fun H locs hB => ?_)
      have hm := iv_Md.ast (j := x16.toNatClampNeg) (x := x_2) a_b14 rfl (by decide)
      have h9 := iv_up_eq (G := G) (a := b14) (k := (23, upd g_b14 x16.toNatClampNeg x_2, r_b14))
      generalize iv_up G b14 _ = G17 at hB hm h9
      have hM := hM.stp hm (by decide)
      have a_h0 := hm.at a_h0 (by decide)
      exact iv_vret X hr hlocks hB hM dX8_change_36
theorem dX8_isFull_0 : decode cX8_isFull 0 = .ok (.aload_n 0, 1) := by decide +kernel
theorem dX8_isFull_1 : decode cX8_isFull 1 = .ok (.getfield 19, 3) := by decide +kernel
theorem dX8_isFull_4 : decode cX8_isFull 4 = .ok (.iconst 1, 1) := by decide +kernel
theorem dX8_isFull_5 : decode cX8_isFull 5 = .ok (.iadd, 1) := by decide +kernel
theorem dX8_isFull_6 : decode cX8_isFull 6 = .ok (.aload_n 0, 1) := by decide +kernel
theorem dX8_isFull_7 : decode cX8_isFull 7 = .ok (.getfield 9, 3) := by decide +kernel
theorem dX8_isFull_10 : decode cX8_isFull 10 = .ok (.imul, 1) := by decide +kernel
theorem dX8_isFull_11 : decode cX8_isFull 11 = .ok (.aload_n 0, 1) := by decide +kernel
theorem dX8_isFull_12 : decode cX8_isFull 12 = .ok (.getfield 15, 3) := by decide +kernel
theorem dX8_isFull_15 : decode cX8_isFull 15 = .ok (.arraylength, 1) := by decide +kernel
theorem dX8_isFull_16 : decode cX8_isFull 16 = .ok (.if_icmp .le 7, 3) := by decide +kernel
theorem dX8_isFull_19 : decode cX8_isFull 19 = .ok (.iconst 1, 1) := by decide +kernel
theorem dX8_isFull_20 : decode cX8_isFull 20 = .ok (.goto 4, 3) := by decide +kernel
theorem dX8_isFull_23 : decode cX8_isFull 23 = .ok (.iconst 0, 1) := by decide +kernel
theorem dX8_isFull_24 : decode cX8_isFull 24 = .ok (.ireturn, 1) := by decide +kernel
set_option maxHeartbeats 4000000 in
set_option maxRecDepth 100000 in
theorem c_X8_isFull_13 (l : Launch) (D : va_G) (tys : List (ClassId × FieldType)) (base : Nat) (G : iv_G) (h0 : Nat) (g_h0 : Nat → Int32) (r_h0 : Nat → Nat) (a_h0 : G h0 = some (13, g_h0, r_h0)) : Met l yX8_isFull (Cond.code yX8_isFull cX8_isFull 1 (some .boolean) :: iv_W0) ({ frames := 0, cells := 0, slots := 0, locals := 0 }) (iv_Pc iv_sh D classes tys base G [.ref h0]) (iv_Qi iv_sh D classes tys base (fun v G' => G = G' ∧ iv_R 0 1 v ∧ (v = 0 → iv_R 0 119 (g_h0 2)))) 0 0 (iv_A base) := by
  refine iv_head (by decide) (Nat.le_of_ble_eq_true rfl) ?_
  intro p e s m args below meth c ls X hr hlocks hname hB hl
  have X := X
  have hx := X.1.1
  have hb := X.1.2.1
  have hl : lv_has ls 1 [(0, .ref h0)] := hl
  refine lv_aload_n hx hb dX8_isFull_0 rfl (lv_at hl 0 rfl) ?_
  refine iv_geti X ft_X8 hB a_h0 sh_13 2 (by decide) rfl k_fl_X8_19 dX8_isFull_1 (fun x1 e_x1 i_x1 => ?_)
  refine lv_iconst (v := 1) hx hb dX8_isFull_4 (by decide) ?_
  refine iv_iadd hx hb i_x1 q_1 (lo := 1) (hi := 121) (by decide) dX8_isFull_5 (fun x2 e_x2 i_x2 => ?_)
  refine lv_aload_n hx hb dX8_isFull_6 rfl (lv_at hl 0 rfl) ?_
  refine iv_geti X ft_X8 hB a_h0 sh_13 0 (by decide) rfl k_fl_X8_9 dX8_isFull_7 (fun x3 e_x3 i_x3 => ?_)
  refine iv_imul hx hb i_x2 i_x3 (lo := 4) (hi := 484) (by decide) dX8_isFull_10 (fun x4 e_x4 i_x4 => ?_)
  refine lv_aload_n hx hb dX8_isFull_11 rfl (lv_at hl 0 rfl) ?_
  refine iv_getr X ft_X8 hB a_h0 sh_13 1 (by decide) rfl k_fl_X8_15 dX8_isFull_12 (fun b5 g_b5 r_b5 e_b5 a_b5 => ?_)
  refine iv_alen X hB a_b5 sh_23 (v := 480) (by decide) dX8_isFull_15 ?_
  refine lv_icmp_le (tgt := 23) hx hb dX8_isFull_16 (by decide) (fun c6 => ?_) (fun c6 => ?_)
  · skip
    have i6_x4 : iv_R 4 480 x4 := (i_x4.cutHi (n := 480) (iv_le_r c6 q_480))
    refine lv_iconst (v := 0) hx hb dX8_isFull_23 (by decide) ?_
    exact iv_zret X hr hlocks hB (q_0.wk (by decide)) ⟨rfl, (q_0.wk (by decide)), fun _ => (by have w1 := i_x3.1; have w2 := i_x3.2; have w3 : x3.toInt = 4 := (by omega); rw [w3] at e_x4; have w4 := i6_x4.2; have w5 : x2.toInt = x1.toInt + 1 := e_x2; rw [← e_x1]; exact ⟨i_x1.1, (by omega)⟩)⟩ dX8_isFull_24
  · skip
    have i7_x4 : iv_R 481 484 x4 := (i_x4.cutLo (n := 481) (iv_lt_l (iv_nle c6) q_480 (by decide)))
    refine lv_iconst (v := 1) hx hb dX8_isFull_19 (by decide) ?_
    refine lv_goto (tgt := 24) hx hb dX8_isFull_20 (by decide) ?_
    exact iv_zret X hr hlocks hB (q_1.wk (by decide)) ⟨rfl, (q_1.wk (by decide)), fun h => absurd h (iv_nz q_1 (by decide))⟩ dX8_isFull_24
theorem dX8_add_0 : decode cX8_add 0 = .ok (.aload_n 0, 1) := by decide +kernel
theorem dX8_add_1 : decode cX8_add 1 = .ok (.invokevirtual 30, 3) := by decide +kernel
theorem dX8_add_4 : decode cX8_add 4 = .ok (.ifCond .eq 4, 3) := by decide +kernel
theorem dX8_add_7 : decode cX8_add 7 = .ok (.return_, 1) := by decide +kernel
theorem dX8_add_8 : decode cX8_add 8 = .ok (.aload_n 0, 1) := by decide +kernel
theorem dX8_add_9 : decode cX8_add 9 = .ok (.dup, 1) := by decide +kernel
theorem dX8_add_10 : decode cX8_add 10 = .ok (.getfield 19, 3) := by decide +kernel
theorem dX8_add_13 : decode cX8_add 13 = .ok (.iconst 1, 1) := by decide +kernel
theorem dX8_add_14 : decode cX8_add 14 = .ok (.iadd, 1) := by decide +kernel
theorem dX8_add_15 : decode cX8_add 15 = .ok (.putfield 19, 3) := by decide +kernel
theorem dX8_add_18 : decode cX8_add 18 = .ok (.aload_n 0, 1) := by decide +kernel
theorem dX8_add_19 : decode cX8_add 19 = .ok (.aload_n 0, 1) := by decide +kernel
theorem dX8_add_20 : decode cX8_add 20 = .ok (.getfield 19, 3) := by decide +kernel
theorem dX8_add_23 : decode cX8_add 23 = .ok (.iconst 1, 1) := by decide +kernel
theorem dX8_add_24 : decode cX8_add 24 = .ok (.isub, 1) := by decide +kernel
theorem dX8_add_25 : decode cX8_add 25 = .ok (.iconst 0, 1) := by decide +kernel
theorem dX8_add_26 : decode cX8_add 26 = .ok (.iload_n 1, 1) := by decide +kernel
theorem dX8_add_27 : decode cX8_add 27 = .ok (.invokevirtual 34, 3) := by decide +kernel
theorem dX8_add_30 : decode cX8_add 30 = .ok (.aload_n 0, 1) := by decide +kernel
theorem dX8_add_31 : decode cX8_add 31 = .ok (.aload_n 0, 1) := by decide +kernel
theorem dX8_add_32 : decode cX8_add 32 = .ok (.getfield 19, 3) := by decide +kernel
theorem dX8_add_35 : decode cX8_add 35 = .ok (.iconst 1, 1) := by decide +kernel
theorem dX8_add_36 : decode cX8_add 36 = .ok (.isub, 1) := by decide +kernel
theorem dX8_add_37 : decode cX8_add 37 = .ok (.iconst 1, 1) := by decide +kernel
theorem dX8_add_38 : decode cX8_add 38 = .ok (.iload_n 2, 1) := by decide +kernel
theorem dX8_add_39 : decode cX8_add 39 = .ok (.invokevirtual 34, 3) := by decide +kernel
theorem dX8_add_42 : decode cX8_add 42 = .ok (.aload_n 0, 1) := by decide +kernel
theorem dX8_add_43 : decode cX8_add 43 = .ok (.aload_n 0, 1) := by decide +kernel
theorem dX8_add_44 : decode cX8_add 44 = .ok (.getfield 19, 3) := by decide +kernel
theorem dX8_add_47 : decode cX8_add 47 = .ok (.iconst 1, 1) := by decide +kernel
theorem dX8_add_48 : decode cX8_add 48 = .ok (.isub, 1) := by decide +kernel
theorem dX8_add_49 : decode cX8_add 49 = .ok (.iconst 2, 1) := by decide +kernel
theorem dX8_add_50 : decode cX8_add 50 = .ok (.iload_n 3, 1) := by decide +kernel
theorem dX8_add_51 : decode cX8_add 51 = .ok (.invokevirtual 34, 3) := by decide +kernel
theorem dX8_add_54 : decode cX8_add 54 = .ok (.aload_n 0, 1) := by decide +kernel
theorem dX8_add_55 : decode cX8_add 55 = .ok (.aload_n 0, 1) := by decide +kernel
theorem dX8_add_56 : decode cX8_add 56 = .ok (.getfield 19, 3) := by decide +kernel
theorem dX8_add_59 : decode cX8_add 59 = .ok (.iconst 1, 1) := by decide +kernel
theorem dX8_add_60 : decode cX8_add 60 = .ok (.isub, 1) := by decide +kernel
theorem dX8_add_61 : decode cX8_add 61 = .ok (.iconst 3, 1) := by decide +kernel
theorem dX8_add_62 : decode cX8_add 62 = .ok (.iload 4, 2) := by decide +kernel
theorem dX8_add_64 : decode cX8_add 64 = .ok (.invokevirtual 34, 3) := by decide +kernel
theorem dX8_add_67 : decode cX8_add 67 = .ok (.return_, 1) := by decide +kernel
set_option maxHeartbeats 4000000 in
set_option maxRecDepth 100000 in
theorem c_X8_add_13 (l : Launch) (D : va_G) (tys : List (ClassId × FieldType)) (base : Nat) (G : iv_G) (h0 : Nat) (g_h0 : Nat → Int32) (r_h0 : Nat → Nat) (a_h0 : G h0 = some (13, g_h0, r_h0)) (x_0 : Int32) (i_x_0 : iv_R (-2147483648) 2147483647 x_0) (x_1 : Int32) (i_x_1 : iv_R 0 2 x_1) (x_2 : Int32) (i_x_2 : iv_R 0 19 x_2) (x_3 : Int32) (i_x_3 : iv_R (-1) 19 x_3) : Met l yX8_add (Cond.code yX8_add cX8_add 5 none :: iv_W0) ({ frames := 2, cells := 0, slots := 0, locals := 45 }) (iv_Pc iv_sh D classes tys base G [.ref h0, .int x_0, .int x_1, .int x_2, .int x_3]) (iv_Qv iv_sh D classes tys base (fun G' => iv_Md [13, 23] G G')) 0 0 (iv_A base) := by
  refine iv_head (by decide) (Nat.le_of_ble_eq_true rfl) ?_
  intro p e s m args below meth c ls X hr hlocks hname hB hl
  have X := X
  have hx := X.1.1
  have hb := X.1.2.1
  have hM : iv_Md [13, 23] G G := iv_Md.rf
  have hl : lv_has ls 5 [(0, .ref h0), (1, .int x_0), (2, .int x_1), (3, .int x_2), (4, .int x_3)] := hl
  refine lv_aload_n hx hb dX8_add_0 rfl (lv_at hl 0 rfl) ?_
  refine iv_cVi X k_good k_mf_X8_isFull k_im_X8_isFull k_sel_X8_isFull k_ml_X8_30 ft_X8 hB a_h0 sh_13 (As := []) (c_X8_isFull_13 l D tys base G h0 g_h0 r_h0 a_h0) ⟨rfl, rfl⟩ ⟨Nat.le_of_ble_eq_true rfl, Nat.le_of_ble_eq_true rfl⟩ ⟨Nat.le_of_ble_eq_true rfl, Nat.le_of_ble_eq_true rfl⟩ rfl rfl hl.1 (Nat.le_of_ble_eq_true rfl) dX8_add_1 (fun x1 G9 H locs hq hB => ?_)
  obtain ⟨rfl, i_x1, gp2⟩ := hq
  refine lv_if_eq (tgt := 8) hx hb dX8_add_4 (by decide) (fun c3 => ?_) (fun c3 => ?_)
  · skip
    have i3_x1 : iv_R 0 0 x1 := (i_x1.cutHi (n := 0) (iv_eq_r c3 q_0).2)
    refine lv_aload_n hx hb dX8_add_8 rfl (lv_at hl 0 rfl) ?_
    refine lv_dup hx hb dX8_add_9 rfl ?_
    refine iv_geti X ft_X8 hB a_h0 sh_13 2 (by decide) rfl k_fl_X8_19 dX8_add_10 (fun x5 e_x5 i_x5 => ?_)
    have i5_x5 : iv_R 0 119 x5 := by rw [e_x5]; exact (gp2 c3)
    refine lv_iconst (v := 1) hx hb dX8_add_13 (by decide) ?_
    refine iv_iadd hx hb i5_x5 q_1 (lo := 1) (hi := 120) (by decide) dX8_add_14 (fun x7 e_x7 i_x7 => ?_)
    refine iv_puti X ft_X8 hB a_h0 sh_13 2 (by decide) rfl rfl k_fl_X8_19 rfl (i_x7.wk (by decide)) rfl rfl dX8_add_15 (fun H locs hB => ?_)
    have hm := iv_Md.put (x := x7) a_h0 (j := 2) (by decide) (by decide)
    have h9 := iv_up_eq (G := G) (a := h0) (k := (13, upd g_h0 2 x7, r_h0))
    generalize iv_up G h0 _ = G8 at hB hm h9
    have hM := hM.stp hm (by decide)
    generalize hgn_g9 : upd g_h0 _ _ = g9 at h9
    have a_h0 := h9
    have e9_g9 : x7 = g9 2 := by rw [← hgn_g9]; simp [upd]
    refine lv_aload_n hx hb dX8_add_18 rfl (lv_at hl 0 rfl) ?_
    refine lv_aload_n hx hb dX8_add_19 rfl (lv_at hl 0 rfl) ?_
    refine iv_geti0 X ft_X8 hB a_h0 sh_13 2 (by decide) rfl k_fl_X8_19 dX8_add_20 e9_g9 ?_
    refine lv_iconst (v := 1) hx hb dX8_add_23 (by decide) ?_
    refine iv_isub hx hb i_x7 q_1 (lo := 0) (hi := 119) (by decide) dX8_add_24 (fun x10 e_x10 i_x10 => ?_)
    refine lv_iconst (v := 0) hx hb dX8_add_25 (by decide) ?_
    refine lv_iload_n hx hb dX8_add_26 rfl (lv_at hl 1 rfl) ?_
    refine iv_cVv X k_good k_mf_X8_change k_im_X8_change k_sel_X8_change k_ml_X8_34 ft_X8 hB a_h0 sh_13 (As := [.int x10, .int 0, .int x_0]) (c_X8_change_13 l D tys base G8 h0 g9 r_h0 a_h0 x10 i_x10 0 (q_0.wk (by decide)) x_0 i_x_0) ⟨rfl, rfl⟩ ⟨Nat.le_of_ble_eq_true rfl, Nat.le_of_ble_eq_true rfl⟩ ⟨Nat.le_of_ble_eq_true rfl, Nat.le_of_ble_eq_true rfl⟩ rfl rfl hl.1 (Nat.le_of_ble_eq_true rfl) dX8_add_27 (fun G9 H locs hq hB => ?_)
    have hm := hq
    obtain ⟨G11, hG9⟩ : ∃ g, g = G9 := ⟨_, rfl⟩
    rw [← hG9] at hm hB
    have hM := hM.stp hm (by decide)
    have a_h0 := hm.at a_h0 (by decide)
    refine lv_aload_n hx hb dX8_add_30 rfl (lv_at hl 0 rfl) ?_
    refine lv_aload_n hx hb dX8_add_31 rfl (lv_at hl 0 rfl) ?_
    refine iv_geti0 X ft_X8 hB a_h0 sh_13 2 (by decide) rfl k_fl_X8_19 dX8_add_32 e9_g9 ?_
    refine lv_iconst (v := 1) hx hb dX8_add_35 (by decide) ?_
    refine iv_isub hx hb i_x7 q_1 (lo := 0) (hi := 119) (by decide) dX8_add_36 (fun x12 e_x12 i_x12 => ?_)
    refine lv_iconst (v := 1) hx hb dX8_add_37 (by decide) ?_
    refine lv_iload_n hx hb dX8_add_38 rfl (lv_at hl 2 rfl) ?_
    refine iv_cVv X k_good k_mf_X8_change k_im_X8_change k_sel_X8_change k_ml_X8_34 ft_X8 hB a_h0 sh_13 (As := [.int x12, .int 1, .int x_1]) (c_X8_change_13 l D tys base G11 h0 g9 r_h0 a_h0 x12 i_x12 1 (q_1.wk (by decide)) x_1 (i_x_1.wk (by decide))) ⟨rfl, rfl⟩ ⟨Nat.le_of_ble_eq_true rfl, Nat.le_of_ble_eq_true rfl⟩ ⟨Nat.le_of_ble_eq_true rfl, Nat.le_of_ble_eq_true rfl⟩ rfl rfl hl.1 (Nat.le_of_ble_eq_true rfl) dX8_add_39 (fun G9 H locs hq hB => ?_)
    have hm := hq
    obtain ⟨G13, hG9⟩ : ∃ g, g = G9 := ⟨_, rfl⟩
    rw [← hG9] at hm hB
    have hM := hM.stp hm (by decide)
    have a_h0 := hm.at a_h0 (by decide)
    refine lv_aload_n hx hb dX8_add_42 rfl (lv_at hl 0 rfl) ?_
    refine lv_aload_n hx hb dX8_add_43 rfl (lv_at hl 0 rfl) ?_
    refine iv_geti0 X ft_X8 hB a_h0 sh_13 2 (by decide) rfl k_fl_X8_19 dX8_add_44 e9_g9 ?_
    refine lv_iconst (v := 1) hx hb dX8_add_47 (by decide) ?_
    refine iv_isub hx hb i_x7 q_1 (lo := 0) (hi := 119) (by decide) dX8_add_48 (fun x14 e_x14 i_x14 => ?_)
    refine lv_iconst (v := 2) hx hb dX8_add_49 (by decide) ?_
    refine lv_iload_n hx hb dX8_add_50 rfl (lv_at hl 3 rfl) ?_
    refine iv_cVv X k_good k_mf_X8_change k_im_X8_change k_sel_X8_change k_ml_X8_34 ft_X8 hB a_h0 sh_13 (As := [.int x14, .int 2, .int x_2]) (c_X8_change_13 l D tys base G13 h0 g9 r_h0 a_h0 x14 i_x14 2 (q_2.wk (by decide)) x_2 (i_x_2.wk (by decide))) ⟨rfl, rfl⟩ ⟨Nat.le_of_ble_eq_true rfl, Nat.le_of_ble_eq_true rfl⟩ ⟨Nat.le_of_ble_eq_true rfl, Nat.le_of_ble_eq_true rfl⟩ rfl rfl hl.1 (Nat.le_of_ble_eq_true rfl) dX8_add_51 (fun G9 H locs hq hB => ?_)
    have hm := hq
    obtain ⟨G15, hG9⟩ : ∃ g, g = G9 := ⟨_, rfl⟩
    rw [← hG9] at hm hB
    have hM := hM.stp hm (by decide)
    have a_h0 := hm.at a_h0 (by decide)
    refine lv_aload_n hx hb dX8_add_54 rfl (lv_at hl 0 rfl) ?_
    refine lv_aload_n hx hb dX8_add_55 rfl (lv_at hl 0 rfl) ?_
    refine iv_geti0 X ft_X8 hB a_h0 sh_13 2 (by decide) rfl k_fl_X8_19 dX8_add_56 e9_g9 ?_
    refine lv_iconst (v := 1) hx hb dX8_add_59 (by decide) ?_
    refine iv_isub hx hb i_x7 q_1 (lo := 0) (hi := 119) (by decide) dX8_add_60 (fun x16 e_x16 i_x16 => ?_)
    refine lv_iconst (v := 3) hx hb dX8_add_61 (by decide) ?_
    refine lv_iload hx hb dX8_add_62 (lv_at hl 4 rfl) ?_
    refine iv_cVv X k_good k_mf_X8_change k_im_X8_change k_sel_X8_change k_ml_X8_34 ft_X8 hB a_h0 sh_13 (As := [.int x16, .int 3, .int x_3]) (c_X8_change_13 l D tys base G15 h0 g9 r_h0 a_h0 x16 i_x16 3 (q_3.wk (by decide)) x_3 (i_x_3.wk (by decide))) ⟨rfl, rfl⟩ ⟨Nat.le_of_ble_eq_true rfl, Nat.le_of_ble_eq_true rfl⟩ ⟨Nat.le_of_ble_eq_true rfl, Nat.le_of_ble_eq_true rfl⟩ rfl rfl hl.1 (Nat.le_of_ble_eq_true rfl) dX8_add_64 (fun G9 H locs hq hB => ?_)
    have hm := hq
    obtain ⟨G17, hG9⟩ : ∃ g, g = G9 := ⟨_, rfl⟩
    rw [← hG9] at hm hB
    have hM := hM.stp hm (by decide)
    have a_h0 := hm.at a_h0 (by decide)
    exact iv_vret X hr hlocks hB hM dX8_add_67
  · skip
    have i17_x1 : iv_R 1 1 x1 := iv_ne_lo c3 i_x1 q_0 (by decide)
    exact iv_vret X hr hlocks hB hM dX8_add_7
set_option maxHeartbeats 4000000 in
set_option maxRecDepth 100000 in
theorem c_X8_has_8 (l : Launch) (D : va_G) (tys : List (ClassId × FieldType)) (base : Nat) (G : iv_G) (h0 : Nat) (g_h0 : Nat → Int32) (r_h0 : Nat → Nat) (a_h0 : G h0 = some (8, g_h0, r_h0)) (x_0 : Int32) (i_x_0 : iv_R (-2147483648) 2147483647 x_0) : Met l yX8_has (Cond.code yX8_has cX8_has 2 (some .boolean) :: iv_W0) ({ frames := 0, cells := 0, slots := 0, locals := 0 }) (iv_Pc iv_sh D classes tys base G [.ref h0, .int x_0]) (iv_Qi iv_sh D classes tys base (fun v G' => G = G' ∧ iv_R 0 1 v ∧ (¬ v = 0 → iv_R 0 19 x_0))) 0 0 (iv_A base) := by
  refine iv_head (by decide) (Nat.le_of_ble_eq_true rfl) ?_
  intro p e s m args below meth c ls X hr hlocks hname hB hl
  have X := X
  have hx := X.1.1
  have hb := X.1.2.1
  have hl : lv_has ls 2 [(0, .ref h0), (1, .int x_0)] := hl
  refine lv_iload_n hx hb dX8_has_0 rfl (lv_at hl 1 rfl) ?_
  refine lv_if_lt (tgt := 16) hx hb dX8_has_1 (by decide) (fun c1 => ?_) (fun c1 => ?_)
  · skip
    have i1_x_0 : iv_R (-2147483648) (-1) x_0 := (i_x_0.cutHi (n := (-1)) (iv_lt_r c1 q_0 (by decide)))
    refine lv_iconst (v := 0) hx hb dX8_has_16 (by decide) ?_
    exact iv_zret X hr hlocks hB (q_0.wk (by decide)) ⟨rfl, (q_0.wk (by decide)), fun h => absurd (iv_z q_0) h⟩ dX8_has_17
  · skip
    have i2_x_0 : iv_R 0 2147483647 x_0 := (i_x_0.cutLo (n := 0) (iv_le_l (iv_nlt c1) q_0))
    refine lv_iload_n hx hb dX8_has_4 rfl (lv_at hl 1 rfl) ?_
    refine lv_aload_n hx hb dX8_has_5 rfl (lv_at hl 0 rfl) ?_
    refine iv_geti X ft_X8 hB a_h0 sh_8 2 (by decide) rfl k_fl_X8_19 dX8_has_6 (fun x4 e_x4 i_x4 => ?_)
    refine lv_icmp_ge (tgt := 16) hx hb dX8_has_9 (by decide) (fun c5 => ?_) (fun c5 => ?_)
    · skip
      refine lv_iconst (v := 0) hx hb dX8_has_16 (by decide) ?_
      exact iv_zret X hr hlocks hB (q_0.wk (by decide)) ⟨rfl, (q_0.wk (by decide)), fun h => absurd (iv_z q_0) h⟩ dX8_has_17
    · skip
      have i5_x_0 : iv_R 0 19 x_0 := (i2_x_0.cutHi (n := 19) (iv_lt_r (iv_nle c5) i_x4 (by decide)))
      have i6_x4 : iv_R 1 20 x4 := (i_x4.cutLo (n := 1) (iv_lt_l (iv_nle c5) i2_x_0 (by decide)))
      refine lv_iconst (v := 1) hx hb dX8_has_12 (by decide) ?_
      refine lv_goto (tgt := 17) hx hb dX8_has_13 (by decide) ?_
      exact iv_zret X hr hlocks hB (q_1.wk (by decide)) ⟨rfl, (q_1.wk (by decide)), fun _ => i5_x_0⟩ dX8_has_17
set_option maxHeartbeats 4000000 in
set_option maxRecDepth 100000 in
theorem c_X8_change_8 (l : Launch) (D : va_G) (tys : List (ClassId × FieldType)) (base : Nat) (G : iv_G) (h0 : Nat) (g_h0 : Nat → Int32) (r_h0 : Nat → Nat) (a_h0 : G h0 = some (8, g_h0, r_h0)) (x_0 : Int32) (i_x_0 : iv_R 0 19 x_0) (x_1 : Int32) (i_x_1 : iv_R 0 3 x_1) (x_2 : Int32) (i_x_2 : iv_R (-2147483648) 2147483647 x_2) : Met l yX8_change (Cond.code yX8_change cX8_change 4 none :: iv_W0) ({ frames := 1, cells := 0, slots := 0, locals := 22 }) (iv_Pc iv_sh D classes tys base G [.ref h0, .int x_0, .int x_1, .int x_2]) (iv_Qv iv_sh D classes tys base (fun G' => iv_Md [22] G G')) 0 0 (iv_A base) := by
  refine iv_head (by decide) (Nat.le_of_ble_eq_true rfl) ?_
  intro p e s m args below meth c ls X hr hlocks hname hB hl
  have X := X
  have hx := X.1.1
  have hb := X.1.2.1
  have hM : iv_Md [22] G G := iv_Md.rf
  have hl : lv_has ls 4 [(0, .ref h0), (1, .int x_0), (2, .int x_1), (3, .int x_2)] := hl
  refine lv_aload_n hx hb dX8_change_0 rfl (lv_at hl 0 rfl) ?_
  refine lv_iload_n hx hb dX8_change_1 rfl (lv_at hl 1 rfl) ?_
  refine iv_cVi X k_good k_mf_X8_has k_im_X8_has k_sel_X8_has k_ml_X8_22 ft_X8 hB a_h0 sh_8 (As := [.int x_0]) (c_X8_has_8 l D tys base G h0 g_h0 r_h0 a_h0 x_0 (i_x_0.wk (by decide))) ⟨rfl, rfl⟩ ⟨Nat.le_of_ble_eq_true rfl, Nat.le_of_ble_eq_true rfl⟩ ⟨Nat.le_of_ble_eq_true rfl, Nat.le_of_ble_eq_true rfl⟩ rfl rfl hl.1 (Nat.le_of_ble_eq_true rfl) dX8_change_2 (fun x1 G9 H locs hq hB => ?_)
  obtain ⟨rfl, i_x1, hp2⟩ := hq
  refine lv_if_eq (tgt := 36) hx hb dX8_change_5 (by decide) (fun c3 => ?_) (fun c3 => ?_)
  · skip
    have i3_x1 : iv_R 0 0 x1 := (i_x1.cutHi (n := 0) (iv_eq_r c3 q_0).2)
    exact iv_vret X hr hlocks hB hM dX8_change_36
  · skip
    have i4_x1 : iv_R 1 1 x1 := iv_ne_lo c3 i_x1 q_0 (by decide)
    refine lv_iload_n hx hb dX8_change_8 rfl (lv_at hl 2 rfl) ?_
    refine lv_iconst (v := 0) hx hb dX8_change_9 (by decide) ?_
    refine lv_aload_n hx hb dX8_change_10 rfl (lv_at hl 0 rfl) ?_
    refine iv_geti X ft_X8 hB a_h0 sh_8 0 (by decide) rfl k_fl_X8_9 dX8_change_11 (fun x6 e_x6 i_x6 => ?_)
    refine lv_iconst (v := 1) hx hb dX8_change_14 (by decide) ?_
    refine iv_isub hx hb i_x6 q_1 (lo := 2) (hi := 2) (by decide) dX8_change_15 (fun x7 e_x7 i_x7 => ?_)
    refine iv_cSNi X k_good k_mf_X11_isWithin k_st_X11_isWithin (k_mn_X8_26 X.2.2) hB (As := [.int x_1, .int 0, .int x7]) (c_X11_isWithin l D tys base G x_1 (i_x_1.wk (by decide)) 0 (q_0.wk (by decide)) x7 (i_x7.wk (by decide))) ⟨rfl, rfl⟩ ⟨Nat.le_of_ble_eq_true rfl, Nat.le_of_ble_eq_true rfl⟩ ⟨Nat.le_of_ble_eq_true rfl, Nat.le_of_ble_eq_true rfl⟩ rfl rfl hl.1 (Nat.le_of_ble_eq_true rfl) dX8_change_16 (fun x8 G9 H locs hq hB => ?_)
    obtain ⟨rfl, i_x8, hp9⟩ := hq
    have k10 : ¬ x8 = 0 → iv_R 0 2 x_1 := fun h => ⟨iv_max i_x_1.1 (Int.le_trans q_0.1 (hp9.1 h).1) (by decide), iv_min i_x_1.2 (Int.le_trans (hp9.1 h).2 i_x7.2) (by decide)⟩
    refine lv_if_eq (tgt := 36) hx hb dX8_change_19 (by decide) (fun c11 => ?_) (fun c11 => ?_)
    · skip
      have i11_x8 : iv_R 0 0 x8 := (i_x8.cutHi (n := 0) (iv_eq_r c11 q_0).2)
      exact iv_vret X hr hlocks hB hM dX8_change_36
    · skip
      have i12_x8 : iv_R 1 1 x8 := iv_ne_lo c11 i_x8 q_0 (by decide)
      have i13_x_1 : iv_R 0 2 x_1 := (i_x_1.cutHi (n := 2) (k10 c11).2)
      refine lv_aload_n hx hb dX8_change_22 rfl (lv_at hl 0 rfl) ?_
      refine iv_getr X ft_X8 hB a_h0 sh_8 1 (by decide) rfl k_fl_X8_15 dX8_change_23 (fun b15 g_b15 r_b15 e_b15 a_b15 => ?_)
      refine lv_iload_n hx hb dX8_change_26 rfl (lv_at hl 1 rfl) ?_
      refine lv_aload_n hx hb dX8_change_27 rfl (lv_at hl 0 rfl) ?_
      refine iv_geti0 X ft_X8 hB a_h0 sh_8 0 (by decide) rfl k_fl_X8_9 dX8_change_28 e_x6 ?_
      refine iv_imul hx hb i_x_0 i_x6 (lo := 0) (hi := 57) (by decide) dX8_change_31 (fun x16 e_x16 i_x16 => ?_)
      refine lv_iload_n hx hb dX8_change_32 rfl (lv_at hl 2 rfl) ?_
      refine iv_iadd hx hb i_x16 i13_x_1 (lo := 0) (hi := 59) (by decide) dX8_change_33 (fun x17 e_x17 i_x17 => ?_)
      refine lv_iload_n hx hb dX8_change_34 rfl (lv_at hl 3 rfl) ?_
      refine iv_ast X hB a_b15 sh_22 (iv_in i_x17 (by decide)) i_x_2 dX8_change_35 (fun H locs hB => ?_)
      have hm := iv_Md.ast (j := x17.toNatClampNeg) (x := x_2) a_b15 rfl (by decide)
      have h9 := iv_up_eq (G := G) (a := b15) (k := (22, upd g_b15 x17.toNatClampNeg x_2, r_b15))
      generalize iv_up G b15 _ = G18 at hB hm h9
      have hM := hM.stp hm (by decide)
      have a_h0 := hm.at a_h0 (by decide)
      exact iv_vret X hr hlocks hB hM dX8_change_36
set_option maxHeartbeats 4000000 in
set_option maxRecDepth 100000 in
theorem c_X8_isFull_8 (l : Launch) (D : va_G) (tys : List (ClassId × FieldType)) (base : Nat) (G : iv_G) (h0 : Nat) (g_h0 : Nat → Int32) (r_h0 : Nat → Nat) (a_h0 : G h0 = some (8, g_h0, r_h0)) : Met l yX8_isFull (Cond.code yX8_isFull cX8_isFull 1 (some .boolean) :: iv_W0) ({ frames := 0, cells := 0, slots := 0, locals := 0 }) (iv_Pc iv_sh D classes tys base G [.ref h0]) (iv_Qi iv_sh D classes tys base (fun v G' => G = G' ∧ iv_R 0 1 v ∧ (v = 0 → iv_R 0 19 (g_h0 2)))) 0 0 (iv_A base) := by
  refine iv_head (by decide) (Nat.le_of_ble_eq_true rfl) ?_
  intro p e s m args below meth c ls X hr hlocks hname hB hl
  have X := X
  have hx := X.1.1
  have hb := X.1.2.1
  have hl : lv_has ls 1 [(0, .ref h0)] := hl
  refine lv_aload_n hx hb dX8_isFull_0 rfl (lv_at hl 0 rfl) ?_
  refine iv_geti X ft_X8 hB a_h0 sh_8 2 (by decide) rfl k_fl_X8_19 dX8_isFull_1 (fun x1 e_x1 i_x1 => ?_)
  refine lv_iconst (v := 1) hx hb dX8_isFull_4 (by decide) ?_
  refine iv_iadd hx hb i_x1 q_1 (lo := 1) (hi := 21) (by decide) dX8_isFull_5 (fun x2 e_x2 i_x2 => ?_)
  refine lv_aload_n hx hb dX8_isFull_6 rfl (lv_at hl 0 rfl) ?_
  refine iv_geti X ft_X8 hB a_h0 sh_8 0 (by decide) rfl k_fl_X8_9 dX8_isFull_7 (fun x3 e_x3 i_x3 => ?_)
  refine iv_imul hx hb i_x2 i_x3 (lo := 3) (hi := 63) (by decide) dX8_isFull_10 (fun x4 e_x4 i_x4 => ?_)
  refine lv_aload_n hx hb dX8_isFull_11 rfl (lv_at hl 0 rfl) ?_
  refine iv_getr X ft_X8 hB a_h0 sh_8 1 (by decide) rfl k_fl_X8_15 dX8_isFull_12 (fun b5 g_b5 r_b5 e_b5 a_b5 => ?_)
  refine iv_alen X hB a_b5 sh_22 (v := 60) (by decide) dX8_isFull_15 ?_
  refine lv_icmp_le (tgt := 23) hx hb dX8_isFull_16 (by decide) (fun c6 => ?_) (fun c6 => ?_)
  · skip
    have i6_x4 : iv_R 3 60 x4 := (i_x4.cutHi (n := 60) (iv_le_r c6 q_60))
    refine lv_iconst (v := 0) hx hb dX8_isFull_23 (by decide) ?_
    exact iv_zret X hr hlocks hB (q_0.wk (by decide)) ⟨rfl, (q_0.wk (by decide)), fun _ => (by have w1 := i_x3.1; have w2 := i_x3.2; have w3 : x3.toInt = 3 := (by omega); rw [w3] at e_x4; have w4 := i6_x4.2; have w5 : x2.toInt = x1.toInt + 1 := e_x2; rw [← e_x1]; exact ⟨i_x1.1, (by omega)⟩)⟩ dX8_isFull_24
  · skip
    have i7_x4 : iv_R 61 63 x4 := (i_x4.cutLo (n := 61) (iv_lt_l (iv_nle c6) q_60 (by decide)))
    refine lv_iconst (v := 1) hx hb dX8_isFull_19 (by decide) ?_
    refine lv_goto (tgt := 24) hx hb dX8_isFull_20 (by decide) ?_
    exact iv_zret X hr hlocks hB (q_1.wk (by decide)) ⟨rfl, (q_1.wk (by decide)), fun h => absurd h (iv_nz q_1 (by decide))⟩ dX8_isFull_24
set_option maxHeartbeats 4000000 in
set_option maxRecDepth 100000 in
theorem c_X8_add_8 (l : Launch) (D : va_G) (tys : List (ClassId × FieldType)) (base : Nat) (G : iv_G) (h0 : Nat) (g_h0 : Nat → Int32) (r_h0 : Nat → Nat) (a_h0 : G h0 = some (8, g_h0, r_h0)) (x_0 : Int32) (i_x_0 : iv_R 0 9 x_0) (x_1 : Int32) (i_x_1 : iv_R 0 9 x_1) (x_2 : Int32) (i_x_2 : iv_R (-2147483648) 2147483647 x_2) (x_3 : Int32) (i_x_3 : iv_R (-1) (-1) x_3) : Met l yX8_add (Cond.code yX8_add cX8_add 5 none :: iv_W0) ({ frames := 2, cells := 0, slots := 0, locals := 45 }) (iv_Pc iv_sh D classes tys base G [.ref h0, .int x_0, .int x_1, .int x_2, .int x_3]) (iv_Qv iv_sh D classes tys base (fun G' => iv_Md [8, 22] G G')) 0 0 (iv_A base) := by
  refine iv_head (by decide) (Nat.le_of_ble_eq_true rfl) ?_
  intro p e s m args below meth c ls X hr hlocks hname hB hl
  have X := X
  have hx := X.1.1
  have hb := X.1.2.1
  have hM : iv_Md [8, 22] G G := iv_Md.rf
  have hl : lv_has ls 5 [(0, .ref h0), (1, .int x_0), (2, .int x_1), (3, .int x_2), (4, .int x_3)] := hl
  refine lv_aload_n hx hb dX8_add_0 rfl (lv_at hl 0 rfl) ?_
  refine iv_cVi X k_good k_mf_X8_isFull k_im_X8_isFull k_sel_X8_isFull k_ml_X8_30 ft_X8 hB a_h0 sh_8 (As := []) (c_X8_isFull_8 l D tys base G h0 g_h0 r_h0 a_h0) ⟨rfl, rfl⟩ ⟨Nat.le_of_ble_eq_true rfl, Nat.le_of_ble_eq_true rfl⟩ ⟨Nat.le_of_ble_eq_true rfl, Nat.le_of_ble_eq_true rfl⟩ rfl rfl hl.1 (Nat.le_of_ble_eq_true rfl) dX8_add_1 (fun x1 G9 H locs hq hB => ?_)
  obtain ⟨rfl, i_x1, gp2⟩ := hq
  refine lv_if_eq (tgt := 8) hx hb dX8_add_4 (by decide) (fun c3 => ?_) (fun c3 => ?_)
  · skip
    have i3_x1 : iv_R 0 0 x1 := (i_x1.cutHi (n := 0) (iv_eq_r c3 q_0).2)
    refine lv_aload_n hx hb dX8_add_8 rfl (lv_at hl 0 rfl) ?_
    refine lv_dup hx hb dX8_add_9 rfl ?_
    refine iv_geti X ft_X8 hB a_h0 sh_8 2 (by decide) rfl k_fl_X8_19 dX8_add_10 (fun x5 e_x5 i_x5 => ?_)
    have i5_x5 : iv_R 0 19 x5 := by rw [e_x5]; exact (gp2 c3)
    refine lv_iconst (v := 1) hx hb dX8_add_13 (by decide) ?_
    refine iv_iadd hx hb i5_x5 q_1 (lo := 1) (hi := 20) (by decide) dX8_add_14 (fun x7 e_x7 i_x7 => ?_)
    refine iv_puti X ft_X8 hB a_h0 sh_8 2 (by decide) rfl rfl k_fl_X8_19 rfl (i_x7.wk (by decide)) rfl rfl dX8_add_15 (fun H locs hB => ?_)
    have hm := iv_Md.put (x := x7) a_h0 (j := 2) (by decide) (by decide)
    have h9 := iv_up_eq (G := G) (a := h0) (k := (8, upd g_h0 2 x7, r_h0))
    generalize iv_up G h0 _ = G8 at hB hm h9
    have hM := hM.stp hm (by decide)
    generalize hgn_g9 : upd g_h0 _ _ = g9 at h9
    have a_h0 := h9
    have e9_g9 : x7 = g9 2 := by rw [← hgn_g9]; simp [upd]
    refine lv_aload_n hx hb dX8_add_18 rfl (lv_at hl 0 rfl) ?_
    refine lv_aload_n hx hb dX8_add_19 rfl (lv_at hl 0 rfl) ?_
    refine iv_geti0 X ft_X8 hB a_h0 sh_8 2 (by decide) rfl k_fl_X8_19 dX8_add_20 e9_g9 ?_
    refine lv_iconst (v := 1) hx hb dX8_add_23 (by decide) ?_
    refine iv_isub hx hb i_x7 q_1 (lo := 0) (hi := 19) (by decide) dX8_add_24 (fun x10 e_x10 i_x10 => ?_)
    refine lv_iconst (v := 0) hx hb dX8_add_25 (by decide) ?_
    refine lv_iload_n hx hb dX8_add_26 rfl (lv_at hl 1 rfl) ?_
    refine iv_cVv X k_good k_mf_X8_change k_im_X8_change k_sel_X8_change k_ml_X8_34 ft_X8 hB a_h0 sh_8 (As := [.int x10, .int 0, .int x_0]) (c_X8_change_8 l D tys base G8 h0 g9 r_h0 a_h0 x10 i_x10 0 (q_0.wk (by decide)) x_0 (i_x_0.wk (by decide))) ⟨rfl, rfl⟩ ⟨Nat.le_of_ble_eq_true rfl, Nat.le_of_ble_eq_true rfl⟩ ⟨Nat.le_of_ble_eq_true rfl, Nat.le_of_ble_eq_true rfl⟩ rfl rfl hl.1 (Nat.le_of_ble_eq_true rfl) dX8_add_27 (fun G9 H locs hq hB => ?_)
    have hm := hq
    obtain ⟨G11, hG9⟩ : ∃ g, g = G9 := ⟨_, rfl⟩
    rw [← hG9] at hm hB
    have hM := hM.stp hm (by decide)
    have a_h0 := hm.at a_h0 (by decide)
    refine lv_aload_n hx hb dX8_add_30 rfl (lv_at hl 0 rfl) ?_
    refine lv_aload_n hx hb dX8_add_31 rfl (lv_at hl 0 rfl) ?_
    refine iv_geti0 X ft_X8 hB a_h0 sh_8 2 (by decide) rfl k_fl_X8_19 dX8_add_32 e9_g9 ?_
    refine lv_iconst (v := 1) hx hb dX8_add_35 (by decide) ?_
    refine iv_isub hx hb i_x7 q_1 (lo := 0) (hi := 19) (by decide) dX8_add_36 (fun x12 e_x12 i_x12 => ?_)
    refine lv_iconst (v := 1) hx hb dX8_add_37 (by decide) ?_
    refine lv_iload_n hx hb dX8_add_38 rfl (lv_at hl 2 rfl) ?_
    refine iv_cVv X k_good k_mf_X8_change k_im_X8_change k_sel_X8_change k_ml_X8_34 ft_X8 hB a_h0 sh_8 (As := [.int x12, .int 1, .int x_1]) (c_X8_change_8 l D tys base G11 h0 g9 r_h0 a_h0 x12 i_x12 1 (q_1.wk (by decide)) x_1 (i_x_1.wk (by decide))) ⟨rfl, rfl⟩ ⟨Nat.le_of_ble_eq_true rfl, Nat.le_of_ble_eq_true rfl⟩ ⟨Nat.le_of_ble_eq_true rfl, Nat.le_of_ble_eq_true rfl⟩ rfl rfl hl.1 (Nat.le_of_ble_eq_true rfl) dX8_add_39 (fun G9 H locs hq hB => ?_)
    have hm := hq
    obtain ⟨G13, hG9⟩ : ∃ g, g = G9 := ⟨_, rfl⟩
    rw [← hG9] at hm hB
    have hM := hM.stp hm (by decide)
    have a_h0 := hm.at a_h0 (by decide)
    refine lv_aload_n hx hb dX8_add_42 rfl (lv_at hl 0 rfl) ?_
    refine lv_aload_n hx hb dX8_add_43 rfl (lv_at hl 0 rfl) ?_
    refine iv_geti0 X ft_X8 hB a_h0 sh_8 2 (by decide) rfl k_fl_X8_19 dX8_add_44 e9_g9 ?_
    refine lv_iconst (v := 1) hx hb dX8_add_47 (by decide) ?_
    refine iv_isub hx hb i_x7 q_1 (lo := 0) (hi := 19) (by decide) dX8_add_48 (fun x14 e_x14 i_x14 => ?_)
    refine lv_iconst (v := 2) hx hb dX8_add_49 (by decide) ?_
    refine lv_iload_n hx hb dX8_add_50 rfl (lv_at hl 3 rfl) ?_
    refine iv_cVv X k_good k_mf_X8_change k_im_X8_change k_sel_X8_change k_ml_X8_34 ft_X8 hB a_h0 sh_8 (As := [.int x14, .int 2, .int x_2]) (c_X8_change_8 l D tys base G13 h0 g9 r_h0 a_h0 x14 i_x14 2 (q_2.wk (by decide)) x_2 i_x_2) ⟨rfl, rfl⟩ ⟨Nat.le_of_ble_eq_true rfl, Nat.le_of_ble_eq_true rfl⟩ ⟨Nat.le_of_ble_eq_true rfl, Nat.le_of_ble_eq_true rfl⟩ rfl rfl hl.1 (Nat.le_of_ble_eq_true rfl) dX8_add_51 (fun G9 H locs hq hB => ?_)
    have hm := hq
    obtain ⟨G15, hG9⟩ : ∃ g, g = G9 := ⟨_, rfl⟩
    rw [← hG9] at hm hB
    have hM := hM.stp hm (by decide)
    have a_h0 := hm.at a_h0 (by decide)
    refine lv_aload_n hx hb dX8_add_54 rfl (lv_at hl 0 rfl) ?_
    refine lv_aload_n hx hb dX8_add_55 rfl (lv_at hl 0 rfl) ?_
    refine iv_geti0 X ft_X8 hB a_h0 sh_8 2 (by decide) rfl k_fl_X8_19 dX8_add_56 e9_g9 ?_
    refine lv_iconst (v := 1) hx hb dX8_add_59 (by decide) ?_
    refine iv_isub hx hb i_x7 q_1 (lo := 0) (hi := 19) (by decide) dX8_add_60 (fun x16 e_x16 i_x16 => ?_)
    refine lv_iconst (v := 3) hx hb dX8_add_61 (by decide) ?_
    refine lv_iload hx hb dX8_add_62 (lv_at hl 4 rfl) ?_
    refine iv_cVv X k_good k_mf_X8_change k_im_X8_change k_sel_X8_change k_ml_X8_34 ft_X8 hB a_h0 sh_8 (As := [.int x16, .int 3, .int x_3]) (c_X8_change_8 l D tys base G15 h0 g9 r_h0 a_h0 x16 i_x16 3 (q_3.wk (by decide)) x_3 (i_x_3.wk (by decide))) ⟨rfl, rfl⟩ ⟨Nat.le_of_ble_eq_true rfl, Nat.le_of_ble_eq_true rfl⟩ ⟨Nat.le_of_ble_eq_true rfl, Nat.le_of_ble_eq_true rfl⟩ rfl rfl hl.1 (Nat.le_of_ble_eq_true rfl) dX8_add_64 (fun G9 H locs hq hB => ?_)
    have hm := hq
    obtain ⟨G17, hG9⟩ : ∃ g, g = G9 := ⟨_, rfl⟩
    rw [← hG9] at hm hB
    have hM := hM.stp hm (by decide)
    have a_h0 := hm.at a_h0 (by decide)
    exact iv_vret X hr hlocks hB hM dX8_add_67
  · skip
    have i17_x1 : iv_R 1 1 x1 := iv_ne_lo c3 i_x1 q_0 (by decide)
    exact iv_vret X hr hlocks hB hM dX8_add_7
theorem dX0_bringChild_0 : decode cX0_bringChild 0 = .ok (.aload_n 0, 1) := by decide +kernel
theorem dX0_bringChild_1 : decode cX0_bringChild 1 = .ok (.getfield 9, 3) := by decide +kernel
theorem dX0_bringChild_4 : decode cX0_bringChild 4 = .ok (.getfield 94, 3) := by decide +kernel
theorem dX0_bringChild_7 : decode cX0_bringChild 7 = .ok (.invokevirtual 98, 3) := by decide +kernel
theorem dX0_bringChild_10 : decode cX0_bringChild 10 = .ok (.ifCond .ne 43, 3) := by decide +kernel
theorem dX0_bringChild_13 : decode cX0_bringChild 13 = .ok (.aload_n 0, 1) := by decide +kernel
theorem dX0_bringChild_14 : decode cX0_bringChild 14 = .ok (.getfield 9, 3) := by decide +kernel
theorem dX0_bringChild_17 : decode cX0_bringChild 17 = .ok (.getfield 94, 3) := by decide +kernel
theorem dX0_bringChild_20 : decode cX0_bringChild 20 = .ok (.iload_n 1, 1) := by decide +kernel
theorem dX0_bringChild_21 : decode cX0_bringChild 21 = .ok (.iload_n 2, 1) := by decide +kernel
theorem dX0_bringChild_22 : decode cX0_bringChild 22 = .ok (.aload_n 0, 1) := by decide +kernel
theorem dX0_bringChild_23 : decode cX0_bringChild 23 = .ok (.getfield 9, 3) := by decide +kernel
theorem dX0_bringChild_26 : decode cX0_bringChild 26 = .ok (.getfield 68, 3) := by decide +kernel
theorem dX0_bringChild_29 : decode cX0_bringChild 29 = .ok (.iconst (-1), 1) := by decide +kernel
theorem dX0_bringChild_30 : decode cX0_bringChild 30 = .ok (.invokevirtual 104, 3) := by decide +kernel
theorem dX0_bringChild_33 : decode cX0_bringChild 33 = .ok (.aload_n 0, 1) := by decide +kernel
theorem dX0_bringChild_34 : decode cX0_bringChild 34 = .ok (.getfield 9, 3) := by decide +kernel
theorem dX0_bringChild_37 : decode cX0_bringChild 37 = .ok (.getfield 108, 3) := by decide +kernel
theorem dX0_bringChild_40 : decode cX0_bringChild 40 = .ok (.aload_n 0, 1) := by decide +kernel
theorem dX0_bringChild_41 : decode cX0_bringChild 41 = .ok (.getfield 9, 3) := by decide +kernel
theorem dX0_bringChild_44 : decode cX0_bringChild 44 = .ok (.getfield 68, 3) := by decide +kernel
theorem dX0_bringChild_47 : decode cX0_bringChild 47 = .ok (.iconst 0, 1) := by decide +kernel
theorem dX0_bringChild_48 : decode cX0_bringChild 48 = .ok (.iload_n 1, 1) := by decide +kernel
theorem dX0_bringChild_49 : decode cX0_bringChild 49 = .ok (.iload_n 2, 1) := by decide +kernel
theorem dX0_bringChild_50 : decode cX0_bringChild 50 = .ok (.invokevirtual 104, 3) := by decide +kernel
theorem dX0_bringChild_53 : decode cX0_bringChild 53 = .ok (.return_, 1) := by decide +kernel
set_option maxHeartbeats 4000000 in
set_option maxRecDepth 100000 in
theorem c_X0_bringChild (l : Launch) (D : va_G) (tys : List (ClassId × FieldType)) (base : Nat) (G : iv_G) (h0 : Nat) (g_h0 : Nat → Int32) (r_h0 : Nat → Nat) (a_h0 : G h0 = some (0, g_h0, r_h0)) (x_0 : Int32) (i_x_0 : iv_R 0 9 x_0) (x_1 : Int32) (i_x_1 : iv_R 0 9 x_1) : Met l yX0_bringChild (Cond.code yX0_bringChild cX0_bringChild 3 none :: iv_W0) ({ frames := 3, cells := 0, slots := 0, locals := 69 }) (iv_Pc iv_sh D classes tys base G [.ref h0, .int x_0, .int x_1]) (iv_Qv iv_sh D classes tys base (fun G' => iv_Md [8, 13, 22, 23] G G')) 0 0 (iv_A base) := by
  refine iv_head (by decide) (Nat.le_of_ble_eq_true rfl) ?_
  intro p e s m args below meth c ls X hr hlocks hname hB hl
  have X := X
  have hx := X.1.1
  have hb := X.1.2.1
  have hM : iv_Md [8, 13, 22, 23] G G := iv_Md.rf
  have hl : lv_has ls 3 [(0, .ref h0), (1, .int x_0), (2, .int x_1)] := hl
  refine lv_aload_n hx hb dX0_bringChild_0 rfl (lv_at hl 0 rfl) ?_
  refine iv_getr X ft_X0 hB a_h0 sh_0 0 (by decide) rfl k_fl_X0_9 dX0_bringChild_1 (fun b1 g_b1 r_b1 e_b1 a_b1 => ?_)
  refine iv_getr X ft_X5 hB a_b1 sh_5 8 (by decide) rfl k_fl_X0_94 dX0_bringChild_4 (fun b2 g_b2 r_b2 e_b2 a_b2 => ?_)
  refine iv_cVi X k_good k_mf_X8_isFull k_im_X8_isFull k_sel_X8_isFull k_ml_X0_98 ft_X8 hB a_b2 sh_8 (As := []) (c_X8_isFull_8 l D tys base G b2 g_b2 r_b2 a_b2) ⟨rfl, rfl⟩ ⟨Nat.le_of_ble_eq_true rfl, Nat.le_of_ble_eq_true rfl⟩ ⟨Nat.le_of_ble_eq_true rfl, Nat.le_of_ble_eq_true rfl⟩ rfl rfl hl.1 (Nat.le_of_ble_eq_true rfl) dX0_bringChild_7 (fun x3 G9 H locs hq hB => ?_)
  obtain ⟨rfl, i_x3, gp4⟩ := hq
  refine lv_if_ne (tgt := 53) hx hb dX0_bringChild_10 (by decide) (fun c5 => ?_) (fun c5 => ?_)
  · skip
    have i5_x3 : iv_R 1 1 x3 := iv_ne_lo c5 i_x3 q_0 (by decide)
    exact iv_vret X hr hlocks hB hM dX0_bringChild_53
  · skip
    have i6_x3 : iv_R 0 0 x3 := (i_x3.cutHi (n := 0) (iv_eq_r c5 q_0).2)
    refine lv_aload_n hx hb dX0_bringChild_13 rfl (lv_at hl 0 rfl) ?_
    refine iv_getr0 X ft_X0 hB a_h0 sh_0 0 (by decide) rfl k_fl_X0_9 dX0_bringChild_14 e_b1 ?_
    refine iv_getr0 X ft_X5 hB a_b1 sh_5 8 (by decide) rfl k_fl_X0_94 dX0_bringChild_17 e_b2 ?_
    refine lv_iload_n hx hb dX0_bringChild_20 rfl (lv_at hl 1 rfl) ?_
    refine lv_iload_n hx hb dX0_bringChild_21 rfl (lv_at hl 2 rfl) ?_
    refine lv_aload_n hx hb dX0_bringChild_22 rfl (lv_at hl 0 rfl) ?_
    refine iv_getr0 X ft_X0 hB a_h0 sh_0 0 (by decide) rfl k_fl_X0_9 dX0_bringChild_23 e_b1 ?_
    refine iv_geti X ft_X5 hB a_b1 sh_5 6 (by decide) rfl k_fl_X0_68 dX0_bringChild_26 (fun x8 e_x8 i_x8 => ?_)
    refine lv_iconst (v := (-1)) hx hb dX0_bringChild_29 (by decide) ?_
    refine iv_cVv X k_good k_mf_X8_add k_im_X8_add k_sel_X8_add k_ml_X0_104 ft_X8 hB a_b2 sh_8 (As := [.int x_0, .int x_1, .int x8, .int (-1)]) (c_X8_add_8 l D tys base G b2 g_b2 r_b2 a_b2 x_0 i_x_0 x_1 i_x_1 x8 i_x8 (-1) q_n1) ⟨rfl, rfl⟩ ⟨Nat.le_of_ble_eq_true rfl, Nat.le_of_ble_eq_true rfl⟩ ⟨Nat.le_of_ble_eq_true rfl, Nat.le_of_ble_eq_true rfl⟩ rfl rfl hl.1 (Nat.le_of_ble_eq_true rfl) dX0_bringChild_30 (fun G9 H locs hq hB => ?_)
    have hm := hq
    obtain ⟨G9, hG9⟩ : ∃ g, g = G9 := ⟨_, rfl⟩
    rw [← hG9] at hm hB
    have hM := hM.stp hm (by decide)
    have a_h0 := hm.at a_h0 (by decide)
    refine lv_aload_n hx hb dX0_bringChild_33 rfl (lv_at hl 0 rfl) ?_
    refine iv_getr X ft_X0 hB a_h0 sh_0 0 (by decide) rfl k_fl_X0_9 dX0_bringChild_34 (fun b10 g_b10 r_b10 e_b10 a_b10 => ?_)
    refine iv_getr X ft_X5 hB a_b10 sh_5 9 (by decide) rfl k_fl_X0_108 dX0_bringChild_37 (fun b11 g_b11 r_b11 e_b11 a_b11 => ?_)
    refine lv_aload_n hx hb dX0_bringChild_40 rfl (lv_at hl 0 rfl) ?_
    refine iv_getr0 X ft_X0 hB a_h0 sh_0 0 (by decide) rfl k_fl_X0_9 dX0_bringChild_41 e_b10 ?_
    refine iv_geti X ft_X5 hB a_b10 sh_5 6 (by decide) rfl k_fl_X0_68 dX0_bringChild_44 (fun x12 e_x12 i_x12 => ?_)
    refine lv_iconst (v := 0) hx hb dX0_bringChild_47 (by decide) ?_
    refine lv_iload_n hx hb dX0_bringChild_48 rfl (lv_at hl 1 rfl) ?_
    refine lv_iload_n hx hb dX0_bringChild_49 rfl (lv_at hl 2 rfl) ?_
    refine iv_cVv X k_good k_mf_X8_add k_im_X8_add k_sel_X8_add k_ml_X0_104 ft_X8 hB a_b11 sh_13 (As := [.int x12, .int 0, .int x_0, .int x_1]) (c_X8_add_13 l D tys base G9 b11 g_b11 r_b11 a_b11 x12 i_x12 0 (q_0.wk (by decide)) x_0 (i_x_0.wk (by decide)) x_1 (i_x_1.wk (by decide))) ⟨rfl, rfl⟩ ⟨Nat.le_of_ble_eq_true rfl, Nat.le_of_ble_eq_true rfl⟩ ⟨Nat.le_of_ble_eq_true rfl, Nat.le_of_ble_eq_true rfl⟩ rfl rfl hl.1 (Nat.le_of_ble_eq_true rfl) dX0_bringChild_50 (fun G9 H locs hq hB => ?_)
    have hm := hq
    obtain ⟨G13, hG9⟩ : ∃ g, g = G9 := ⟨_, rfl⟩
    rw [← hG9] at hm hB
    have hM := hM.stp hm (by decide)
    have a_h0 := hm.at a_h0 (by decide)
    exact iv_vret X hr hlocks hB hM dX0_bringChild_53
theorem dX0_firstHour_0 : decode cX0_firstHour 0 = .ok (.iconst 0, 1) := by decide +kernel
theorem dX0_firstHour_1 : decode cX0_firstHour 1 = .ok (.istore_n 1, 1) := by decide +kernel
theorem dX0_firstHour_2 : decode cX0_firstHour 2 = .ok (.iload_n 1, 1) := by decide +kernel
theorem dX0_firstHour_3 : decode cX0_firstHour 3 = .ok (.bipush 23, 2) := by decide +kernel
theorem dX0_firstHour_5 : decode cX0_firstHour 5 = .ok (.if_icmp .ge 17, 3) := by decide +kernel
theorem dX0_firstHour_8 : decode cX0_firstHour 8 = .ok (.iload_n 0, 1) := by decide +kernel
theorem dX0_firstHour_9 : decode cX0_firstHour 9 = .ok (.iload_n 1, 1) := by decide +kernel
theorem dX0_firstHour_10 : decode cX0_firstHour 10 = .ok (.iushr, 1) := by decide +kernel
theorem dX0_firstHour_11 : decode cX0_firstHour 11 = .ok (.iconst 1, 1) := by decide +kernel
theorem dX0_firstHour_12 : decode cX0_firstHour 12 = .ok (.iand, 1) := by decide +kernel
theorem dX0_firstHour_13 : decode cX0_firstHour 13 = .ok (.ifCond .ne 9, 3) := by decide +kernel
theorem dX0_firstHour_16 : decode cX0_firstHour 16 = .ok (.iinc 1 1, 3) := by decide +kernel
theorem dX0_firstHour_19 : decode cX0_firstHour 19 = .ok (.goto (-17), 3) := by decide +kernel
theorem dX0_firstHour_22 : decode cX0_firstHour 22 = .ok (.iload_n 1, 1) := by decide +kernel
theorem dX0_firstHour_23 : decode cX0_firstHour 23 = .ok (.ireturn, 1) := by decide +kernel
set_option maxHeartbeats 4000000 in
set_option maxRecDepth 100000 in
theorem c_X0_firstHour (l : Launch) (D : va_G) (tys : List (ClassId × FieldType)) (base : Nat) (G : iv_G) (x_0 : Int32) (i_x_0 : iv_R (-2147483648) 2147483647 x_0) : Met l yX0_firstHour (Cond.code yX0_firstHour cX0_firstHour 2 (some .int) :: iv_W0) ({ frames := 0, cells := 0, slots := 0, locals := 0 }) (iv_Pc iv_sh D classes tys base G [.int x_0]) (iv_Qi iv_sh D classes tys base (fun v G' => G = G' ∧ iv_R 0 23 v)) 0 0 (iv_A base) := by
  refine iv_head (by decide) (Nat.le_of_ble_eq_true rfl) ?_
  intro p e s m args below meth c ls X hr hlocks hname hB hl
  have X := X
  have hx := X.1.1
  have hb := X.1.2.1
  have hl : lv_has ls 2 [(0, .int x_0)] := hl
  refine lv_iconst (v := 0) hx hb dX0_firstHour_0 (by decide) ?_
  refine lv_istore_n (lv' := [(1, .int 0), (0, .int x_0)]) hx hb dX0_firstHour_1 rfl hl (by decide) rfl (fun ls hl => ?_)
  have L_2 : ∀ (n_2 : Nat) (H : Heap) (locs : List Loc) (hB : iv_B iv_sh D classes tys base G s.heap H locs) (x1 : Int32) (i_x1 : iv_R 0 23 x1) (hn_2 : (24 - x1.toInt).toNat < n_2) (ls : Array Slot) (hl : lv_has ls 2 [(1, .int x1), (0, .int x_0)]), W p l e ({ frames := 0, cells := 0, slots := 0, locals := 0 } : Room) s m args below meth c H locs 0 0 (MQ below (iv_Qi iv_sh D classes tys base (fun v G' => G = G' ∧ iv_R 0 23 v)) args s 0 0 (iv_A base)) (F0 m 2 ls []) := by
    intro n_2
    induction n_2 with
    | zero => intro H locs hB x1 i_x1 hn_2 ls hl; exact absurd hn_2 (Nat.not_lt_zero _)
    | succ n_2 ih_2 =>
      intro H locs hB x1 i_x1 hn_2 ls hl
      refine lv_iload_n hx hb dX0_firstHour_2 rfl (lv_at hl 0 rfl) ?_
      refine lv_bipush (v := 23) hx hb dX0_firstHour_3 (by decide) ?_
      refine lv_icmp_ge (tgt := 22) hx hb dX0_firstHour_5 (by decide) (fun c2 => ?_) (fun c2 => ?_)
      · skip
        have i2_x1 : iv_R 23 23 x1 := (i_x1.cutLo (n := 23) (iv_le_l c2 q_23))
        refine lv_iload_n hx hb dX0_firstHour_22 rfl (lv_at hl 0 rfl) ?_
        exact iv_iret X hr hlocks hB ⟨rfl, (i2_x1.wk (by decide))⟩ dX0_firstHour_23
      · skip
        have i3_x1 : iv_R 0 22 x1 := (i_x1.cutHi (n := 22) (iv_lt_r (iv_nle c2) q_23 (by decide)))
        refine lv_iload_n hx hb dX0_firstHour_8 rfl (lv_at hl 1 rfl) ?_
        refine lv_iload_n hx hb dX0_firstHour_9 rfl (lv_at hl 0 rfl) ?_
        refine lv_iushr hx hb dX0_firstHour_10 rfl ?_
        refine lv_topi (fun x5 e_x5 => ?_)
        have i_x5 := iv_R.all x5
        refine lv_iconst (v := 1) hx hb dX0_firstHour_11 (by decide) ?_
        refine iv_iand_r hx hb q_1 (by decide) dX0_firstHour_12 (fun x6 e_x6 i_x6 => ?_)
        refine lv_if_ne (tgt := 22) hx hb dX0_firstHour_13 (by decide) (fun c7 => ?_) (fun c7 => ?_)
        · skip
          have i7_x6 : iv_R 1 1 x6 := iv_ne_lo c7 i_x6 q_0 (by decide)
          refine lv_iload_n hx hb dX0_firstHour_22 rfl (lv_at hl 0 rfl) ?_
          exact iv_iret X hr hlocks hB ⟨rfl, (i3_x1.wk (by decide))⟩ dX0_firstHour_23
        · skip
          have i8_x6 : iv_R 0 0 x6 := (i_x6.cutHi (n := 0) (iv_eq_r c7 q_0).2)
          refine iv_iinc hx hb i3_x1 (lo := 1) (hi := 23) (by decide) dX0_firstHour_16 hl (k := 0) rfl (by decide) (fun x10 ls e_x10 i_x10 hl => ?_)
          have hl : lv_has ls 2 [(1, .int x10), (0, .int x_0)] := hl
          refine lv_goto (tgt := 2) hx hb dX0_firstHour_19 (by decide) ?_
          exact ih_2 _ _ hB x10 (i_x10.wk (by decide)) (iv_mup (c := 1) i_x1 (by decide) (by decide) (by omega) hn_2) _ (lv_sub hl [0, 1] rfl)
  exact L_2 _ _ _ hB 0 (q_0.wk (by decide)) (Nat.lt_succ_self _) _ (lv_sub hl [0, 1] rfl)
theorem dX2_learn_0 : decode cX2_learn 0 = .ok (.aload_n 0, 1) := by decide +kernel
theorem dX2_learn_1 : decode cX2_learn 1 = .ok (.getfield 15, 3) := by decide +kernel
theorem dX2_learn_4 : decode cX2_learn 4 = .ok (.getfield 19, 3) := by decide +kernel
theorem dX2_learn_7 : decode cX2_learn 7 = .ok (.iload_n 1, 1) := by decide +kernel
theorem dX2_learn_8 : decode cX2_learn 8 = .ok (.aaload, 1) := by decide +kernel
theorem dX2_learn_9 : decode cX2_learn 9 = .ok (.astore_n 2, 1) := by decide +kernel
theorem dX2_learn_10 : decode cX2_learn 10 = .ok (.aload_n 0, 1) := by decide +kernel
theorem dX2_learn_11 : decode cX2_learn 11 = .ok (.getfield 9, 3) := by decide +kernel
theorem dX2_learn_14 : decode cX2_learn 14 = .ok (.iconst 0, 1) := by decide +kernel
theorem dX2_learn_15 : decode cX2_learn 15 = .ok (.aload_n 2, 1) := by decide +kernel
theorem dX2_learn_16 : decode cX2_learn 16 = .ok (.getfield 25, 3) := by decide +kernel
theorem dX2_learn_19 : decode cX2_learn 19 = .ok (.iastore, 1) := by decide +kernel
theorem dX2_learn_20 : decode cX2_learn 20 = .ok (.aload_n 0, 1) := by decide +kernel
theorem dX2_learn_21 : decode cX2_learn 21 = .ok (.getfield 9, 3) := by decide +kernel
theorem dX2_learn_24 : decode cX2_learn 24 = .ok (.iconst 1, 1) := by decide +kernel
theorem dX2_learn_25 : decode cX2_learn 25 = .ok (.aload_n 2, 1) := by decide +kernel
theorem dX2_learn_26 : decode cX2_learn 26 = .ok (.getfield 31, 3) := by decide +kernel
theorem dX2_learn_29 : decode cX2_learn 29 = .ok (.iastore, 1) := by decide +kernel
theorem dX2_learn_30 : decode cX2_learn 30 = .ok (.aload_n 0, 1) := by decide +kernel
theorem dX2_learn_31 : decode cX2_learn 31 = .ok (.getfield 9, 3) := by decide +kernel
theorem dX2_learn_34 : decode cX2_learn 34 = .ok (.iconst 2, 1) := by decide +kernel
theorem dX2_learn_35 : decode cX2_learn 35 = .ok (.aload_n 2, 1) := by decide +kernel
theorem dX2_learn_36 : decode cX2_learn 36 = .ok (.getfield 34, 3) := by decide +kernel
theorem dX2_learn_39 : decode cX2_learn 39 = .ok (.iastore, 1) := by decide +kernel
theorem dX2_learn_40 : decode cX2_learn 40 = .ok (.aload_n 0, 1) := by decide +kernel
theorem dX2_learn_41 : decode cX2_learn 41 = .ok (.getfield 9, 3) := by decide +kernel
theorem dX2_learn_44 : decode cX2_learn 44 = .ok (.iconst 3, 1) := by decide +kernel
theorem dX2_learn_45 : decode cX2_learn 45 = .ok (.aload_n 2, 1) := by decide +kernel
theorem dX2_learn_46 : decode cX2_learn 46 = .ok (.getfield 37, 3) := by decide +kernel
theorem dX2_learn_49 : decode cX2_learn 49 = .ok (.iastore, 1) := by decide +kernel
theorem dX2_learn_50 : decode cX2_learn 50 = .ok (.aload_n 0, 1) := by decide +kernel
theorem dX2_learn_51 : decode cX2_learn 51 = .ok (.getfield 9, 3) := by decide +kernel
theorem dX2_learn_54 : decode cX2_learn 54 = .ok (.iconst 4, 1) := by decide +kernel
theorem dX2_learn_55 : decode cX2_learn 55 = .ok (.aload_n 0, 1) := by decide +kernel
theorem dX2_learn_56 : decode cX2_learn 56 = .ok (.getfield 15, 3) := by decide +kernel
theorem dX2_learn_59 : decode cX2_learn 59 = .ok (.getfield 40, 3) := by decide +kernel
theorem dX2_learn_62 : decode cX2_learn 62 = .ok (.iastore, 1) := by decide +kernel
theorem dX2_learn_63 : decode cX2_learn 63 = .ok (.aload_n 0, 1) := by decide +kernel
theorem dX2_learn_64 : decode cX2_learn 64 = .ok (.getfield 9, 3) := by decide +kernel
theorem dX2_learn_67 : decode cX2_learn 67 = .ok (.bipush 7, 2) := by decide +kernel
theorem dX2_learn_69 : decode cX2_learn 69 = .ok (.aload_n 2, 1) := by decide +kernel
theorem dX2_learn_70 : decode cX2_learn 70 = .ok (.getfield 43, 3) := by decide +kernel
theorem dX2_learn_73 : decode cX2_learn 73 = .ok (.iastore, 1) := by decide +kernel
theorem dX2_learn_74 : decode cX2_learn 74 = .ok (.aload_n 0, 1) := by decide +kernel
theorem dX2_learn_75 : decode cX2_learn 75 = .ok (.getfield 9, 3) := by decide +kernel
theorem dX2_learn_78 : decode cX2_learn 78 = .ok (.bipush 9, 2) := by decide +kernel
theorem dX2_learn_80 : decode cX2_learn 80 = .ok (.aload_n 2, 1) := by decide +kernel
theorem dX2_learn_81 : decode cX2_learn 81 = .ok (.getfield 46, 3) := by decide +kernel
theorem dX2_learn_84 : decode cX2_learn 84 = .ok (.iastore, 1) := by decide +kernel
theorem dX2_learn_85 : decode cX2_learn 85 = .ok (.aload_n 0, 1) := by decide +kernel
theorem dX2_learn_86 : decode cX2_learn 86 = .ok (.getfield 9, 3) := by decide +kernel
theorem dX2_learn_89 : decode cX2_learn 89 = .ok (.bipush 10, 2) := by decide +kernel
theorem dX2_learn_91 : decode cX2_learn 91 = .ok (.aload_n 0, 1) := by decide +kernel
theorem dX2_learn_92 : decode cX2_learn 92 = .ok (.getfield 15, 3) := by decide +kernel
theorem dX2_learn_95 : decode cX2_learn 95 = .ok (.getfield 49, 3) := by decide +kernel
theorem dX2_learn_98 : decode cX2_learn 98 = .ok (.iastore, 1) := by decide +kernel
theorem dX2_learn_99 : decode cX2_learn 99 = .ok (.return_, 1) := by decide +kernel
set_option maxHeartbeats 4000000 in
set_option maxRecDepth 100000 in
theorem c_X2_learn (l : Launch) (D : va_G) (tys : List (ClassId × FieldType)) (base : Nat) (G : iv_G) (h0 : Nat) (g_h0 : Nat → Int32) (r_h0 : Nat → Nat) (a_h0 : G h0 = some (2, g_h0, r_h0)) (x_0 : Int32) (i_x_0 : iv_R 0 9 x_0) : Met l yX2_learn (Cond.code yX2_learn cX2_learn 3 none :: iv_W0) ({ frames := 0, cells := 0, slots := 0, locals := 0 }) (iv_Pc iv_sh D classes tys base G [.ref h0, .int x_0]) (iv_Qv iv_sh D classes tys base (fun G' => iv_Md [30] G G')) 0 0 (iv_A base) := by
  refine iv_head (by decide) (Nat.le_of_ble_eq_true rfl) ?_
  intro p e s m args below meth c ls X hr hlocks hname hB hl
  have X := X
  have hx := X.1.1
  have hb := X.1.2.1
  have hM : iv_Md [30] G G := iv_Md.rf
  have hl : lv_has ls 3 [(0, .ref h0), (1, .int x_0)] := hl
  refine lv_aload_n hx hb dX2_learn_0 rfl (lv_at hl 0 rfl) ?_
  refine iv_getr X ft_X2 hB a_h0 sh_2 0 (by decide) rfl k_fl_X2_15 dX2_learn_1 (fun b1 g_b1 r_b1 e_b1 a_b1 => ?_)
  refine iv_getr X ft_X5 hB a_b1 sh_5 0 (by decide) rfl k_fl_X2_19 dX2_learn_4 (fun b2 g_b2 r_b2 e_b2 a_b2 => ?_)
  refine lv_iload_n hx hb dX2_learn_7 rfl (lv_at hl 1 rfl) ?_
  refine iv_aald X hB a_b2 sh_40 (iv_in i_x_0 (by decide)) dX2_learn_8 (fun b3 g_b3 r_b3 e_b3 a_b3 => ?_)
  refine lv_astore_n (lv' := [(2, .ref b3), (0, .ref h0), (1, .int x_0)]) hx hb dX2_learn_9 rfl hl (by decide) rfl (fun ls hl => ?_)
  refine lv_aload_n hx hb dX2_learn_10 rfl (lv_at hl 1 rfl) ?_
  refine iv_getr X ft_X2 hB a_h0 sh_2 1 (by decide) rfl k_fl_X2_9 dX2_learn_11 (fun b4 g_b4 r_b4 e_b4 a_b4 => ?_)
  refine lv_iconst (v := 0) hx hb dX2_learn_14 (by decide) ?_
  refine lv_aload_n hx hb dX2_learn_15 rfl (lv_at hl 0 rfl) ?_
  refine iv_geti X ft_X1 hB a_b3 sh_1 2 (by decide) rfl k_fl_X2_25 dX2_learn_16 (fun x5 e_x5 i_x5 => ?_)
  refine iv_ast X hB a_b4 sh_30 (iv_in q_0 (by decide)) i_x5 dX2_learn_19 (fun H locs hB => ?_)
  have hm := iv_Md.ast (j := (0 : Int32).toNatClampNeg) (x := x5) a_b4 rfl (by decide)
  have h9 := iv_up_eq (G := G) (a := b4) (k := (30, upd g_b4 (0 : Int32).toNatClampNeg x5, r_b4))
  generalize iv_up G b4 _ = G6 at hB hm h9
  have hM := hM.stp hm (by decide)
  have a_h0 := hm.at a_h0 (by decide)
  have a_b3 := hm.at a_b3 (by decide)
  refine lv_aload_n hx hb dX2_learn_20 rfl (lv_at hl 1 rfl) ?_
  refine iv_getr X ft_X2 hB a_h0 sh_2 1 (by decide) rfl k_fl_X2_9 dX2_learn_21 (fun b8 g_b8 r_b8 e_b8 a_b8 => ?_)
  refine lv_iconst (v := 1) hx hb dX2_learn_24 (by decide) ?_
  refine lv_aload_n hx hb dX2_learn_25 rfl (lv_at hl 0 rfl) ?_
  refine iv_geti X ft_X1 hB a_b3 sh_1 1 (by decide) rfl k_fl_X2_31 dX2_learn_26 (fun x9 e_x9 i_x9 => ?_)
  refine iv_ast X hB a_b8 sh_30 (iv_in q_1 (by decide)) i_x9 dX2_learn_29 (fun H locs hB => ?_)
  have hm := iv_Md.ast (j := (1 : Int32).toNatClampNeg) (x := x9) a_b8 rfl (by decide)
  have h9 := iv_up_eq (G := G6) (a := b8) (k := (30, upd g_b8 (1 : Int32).toNatClampNeg x9, r_b8))
  generalize iv_up G6 b8 _ = G10 at hB hm h9
  have hM := hM.stp hm (by decide)
  have a_h0 := hm.at a_h0 (by decide)
  have a_b3 := hm.at a_b3 (by decide)
  refine lv_aload_n hx hb dX2_learn_30 rfl (lv_at hl 1 rfl) ?_
  refine iv_getr X ft_X2 hB a_h0 sh_2 1 (by decide) rfl k_fl_X2_9 dX2_learn_31 (fun b12 g_b12 r_b12 e_b12 a_b12 => ?_)
  refine lv_iconst (v := 2) hx hb dX2_learn_34 (by decide) ?_
  refine lv_aload_n hx hb dX2_learn_35 rfl (lv_at hl 0 rfl) ?_
  refine iv_geti X ft_X1 hB a_b3 sh_1 3 (by decide) rfl k_fl_X2_34 dX2_learn_36 (fun x13 e_x13 i_x13 => ?_)
  refine iv_ast X hB a_b12 sh_30 (iv_in q_2 (by decide)) i_x13 dX2_learn_39 (fun H locs hB => ?_)
  have hm := iv_Md.ast (j := (2 : Int32).toNatClampNeg) (x := x13) a_b12 rfl (by decide)
  have h9 := iv_up_eq (G := G10) (a := b12) (k := (30, upd g_b12 (2 : Int32).toNatClampNeg x13, r_b12))
  generalize iv_up G10 b12 _ = G14 at hB hm h9
  have hM := hM.stp hm (by decide)
  have a_h0 := hm.at a_h0 (by decide)
  have a_b3 := hm.at a_b3 (by decide)
  refine lv_aload_n hx hb dX2_learn_40 rfl (lv_at hl 1 rfl) ?_
  refine iv_getr X ft_X2 hB a_h0 sh_2 1 (by decide) rfl k_fl_X2_9 dX2_learn_41 (fun b16 g_b16 r_b16 e_b16 a_b16 => ?_)
  refine lv_iconst (v := 3) hx hb dX2_learn_44 (by decide) ?_
  refine lv_aload_n hx hb dX2_learn_45 rfl (lv_at hl 0 rfl) ?_
  refine iv_geti X ft_X1 hB a_b3 sh_1 4 (by decide) rfl k_fl_X2_37 dX2_learn_46 (fun x17 e_x17 i_x17 => ?_)
  refine iv_ast X hB a_b16 sh_30 (iv_in q_3 (by decide)) i_x17 dX2_learn_49 (fun H locs hB => ?_)
  have hm := iv_Md.ast (j := (3 : Int32).toNatClampNeg) (x := x17) a_b16 rfl (by decide)
  have h9 := iv_up_eq (G := G14) (a := b16) (k := (30, upd g_b16 (3 : Int32).toNatClampNeg x17, r_b16))
  generalize iv_up G14 b16 _ = G18 at hB hm h9
  have hM := hM.stp hm (by decide)
  have a_h0 := hm.at a_h0 (by decide)
  have a_b3 := hm.at a_b3 (by decide)
  refine lv_aload_n hx hb dX2_learn_50 rfl (lv_at hl 1 rfl) ?_
  refine iv_getr X ft_X2 hB a_h0 sh_2 1 (by decide) rfl k_fl_X2_9 dX2_learn_51 (fun b20 g_b20 r_b20 e_b20 a_b20 => ?_)
  refine lv_iconst (v := 4) hx hb dX2_learn_54 (by decide) ?_
  refine lv_aload_n hx hb dX2_learn_55 rfl (lv_at hl 1 rfl) ?_
  refine iv_getr X ft_X2 hB a_h0 sh_2 0 (by decide) rfl k_fl_X2_15 dX2_learn_56 (fun b21 g_b21 r_b21 e_b21 a_b21 => ?_)
  refine iv_geti X ft_X5 hB a_b21 sh_5 4 (by decide) rfl k_fl_X2_40 dX2_learn_59 (fun x22 e_x22 i_x22 => ?_)
  refine iv_ast X hB a_b20 sh_30 (iv_in q_4 (by decide)) i_x22 dX2_learn_62 (fun H locs hB => ?_)
  have hm := iv_Md.ast (j := (4 : Int32).toNatClampNeg) (x := x22) a_b20 rfl (by decide)
  have h9 := iv_up_eq (G := G18) (a := b20) (k := (30, upd g_b20 (4 : Int32).toNatClampNeg x22, r_b20))
  generalize iv_up G18 b20 _ = G23 at hB hm h9
  have hM := hM.stp hm (by decide)
  have a_h0 := hm.at a_h0 (by decide)
  have a_b3 := hm.at a_b3 (by decide)
  refine lv_aload_n hx hb dX2_learn_63 rfl (lv_at hl 1 rfl) ?_
  refine iv_getr X ft_X2 hB a_h0 sh_2 1 (by decide) rfl k_fl_X2_9 dX2_learn_64 (fun b25 g_b25 r_b25 e_b25 a_b25 => ?_)
  refine lv_bipush (v := 7) hx hb dX2_learn_67 (by decide) ?_
  refine lv_aload_n hx hb dX2_learn_69 rfl (lv_at hl 0 rfl) ?_
  refine iv_geti X ft_X1 hB a_b3 sh_1 5 (by decide) rfl k_fl_X2_43 dX2_learn_70 (fun x26 e_x26 i_x26 => ?_)
  refine iv_ast X hB a_b25 sh_30 (iv_in q_7 (by decide)) i_x26 dX2_learn_73 (fun H locs hB => ?_)
  have hm := iv_Md.ast (j := (7 : Int32).toNatClampNeg) (x := x26) a_b25 rfl (by decide)
  have h9 := iv_up_eq (G := G23) (a := b25) (k := (30, upd g_b25 (7 : Int32).toNatClampNeg x26, r_b25))
  generalize iv_up G23 b25 _ = G27 at hB hm h9
  have hM := hM.stp hm (by decide)
  have a_h0 := hm.at a_h0 (by decide)
  have a_b3 := hm.at a_b3 (by decide)
  refine lv_aload_n hx hb dX2_learn_74 rfl (lv_at hl 1 rfl) ?_
  refine iv_getr X ft_X2 hB a_h0 sh_2 1 (by decide) rfl k_fl_X2_9 dX2_learn_75 (fun b29 g_b29 r_b29 e_b29 a_b29 => ?_)
  refine lv_bipush (v := 9) hx hb dX2_learn_78 (by decide) ?_
  refine lv_aload_n hx hb dX2_learn_80 rfl (lv_at hl 0 rfl) ?_
  refine iv_geti X ft_X1 hB a_b3 sh_1 7 (by decide) rfl k_fl_X2_46 dX2_learn_81 (fun x30 e_x30 i_x30 => ?_)
  refine iv_ast X hB a_b29 sh_30 (iv_in q_9 (by decide)) i_x30 dX2_learn_84 (fun H locs hB => ?_)
  have hm := iv_Md.ast (j := (9 : Int32).toNatClampNeg) (x := x30) a_b29 rfl (by decide)
  have h9 := iv_up_eq (G := G27) (a := b29) (k := (30, upd g_b29 (9 : Int32).toNatClampNeg x30, r_b29))
  generalize iv_up G27 b29 _ = G31 at hB hm h9
  have hM := hM.stp hm (by decide)
  have a_h0 := hm.at a_h0 (by decide)
  have a_b3 := hm.at a_b3 (by decide)
  refine lv_aload_n hx hb dX2_learn_85 rfl (lv_at hl 1 rfl) ?_
  refine iv_getr X ft_X2 hB a_h0 sh_2 1 (by decide) rfl k_fl_X2_9 dX2_learn_86 (fun b33 g_b33 r_b33 e_b33 a_b33 => ?_)
  refine lv_bipush (v := 10) hx hb dX2_learn_89 (by decide) ?_
  refine lv_aload_n hx hb dX2_learn_91 rfl (lv_at hl 1 rfl) ?_
  refine iv_getr X ft_X2 hB a_h0 sh_2 0 (by decide) rfl k_fl_X2_15 dX2_learn_92 (fun b34 g_b34 r_b34 e_b34 a_b34 => ?_)
  refine iv_geti X ft_X5 hB a_b34 sh_5 6 (by decide) rfl k_fl_X2_49 dX2_learn_95 (fun x35 e_x35 i_x35 => ?_)
  refine iv_ast X hB a_b33 sh_30 (iv_in q_10 (by decide)) i_x35 dX2_learn_98 (fun H locs hB => ?_)
  have hm := iv_Md.ast (j := (10 : Int32).toNatClampNeg) (x := x35) a_b33 rfl (by decide)
  have h9 := iv_up_eq (G := G31) (a := b33) (k := (30, upd g_b33 (10 : Int32).toNatClampNeg x35, r_b33))
  generalize iv_up G31 b33 _ = G36 at hB hm h9
  have hM := hM.stp hm (by decide)
  have a_h0 := hm.at a_h0 (by decide)
  have a_b3 := hm.at a_b3 (by decide)
  exact iv_vret X hr hlocks hB hM dX2_learn_99
theorem dX3_run_0 : decode cX3_run 0 = .ok (.iconst 0, 1) := by decide +kernel
theorem dX3_run_1 : decode cX3_run 1 = .ok (.istore 4, 2) := by decide +kernel
theorem dX3_run_3 : decode cX3_run 3 = .ok (.iload_n 1, 1) := by decide +kernel
theorem dX3_run_4 : decode cX3_run 4 = .ok (.istore 5, 2) := by decide +kernel
theorem dX3_run_6 : decode cX3_run 6 = .ok (.iload 5, 2) := by decide +kernel
theorem dX3_run_8 : decode cX3_run 8 = .ok (.iload_n 2, 1) := by decide +kernel
theorem dX3_run_9 : decode cX3_run 9 = .ok (.if_icmp .ge 411, 3) := by decide +kernel
theorem dX3_run_12 : decode cX3_run 12 = .ok (.iload 4, 2) := by decide +kernel
theorem dX3_run_14 : decode cX3_run 14 = .ok (.bipush 40, 2) := by decide +kernel
theorem dX3_run_16 : decode cX3_run 16 = .ok (.if_icmp .ge 404, 3) := by decide +kernel
theorem dX3_run_19 : decode cX3_run 19 = .ok (.aload_n 0, 1) := by decide +kernel
theorem dX3_run_20 : decode cX3_run 20 = .ok (.getfield 34, 3) := by decide +kernel
theorem dX3_run_23 : decode cX3_run 23 = .ok (.iload 5, 2) := by decide +kernel
theorem dX3_run_25 : decode cX3_run 25 = .ok (.iaload, 1) := by decide +kernel
theorem dX3_run_26 : decode cX3_run 26 = .ok (.istore 6, 2) := by decide +kernel
theorem dX3_run_28 : decode cX3_run 28 = .ok (.iload 6, 2) := by decide +kernel
theorem dX3_run_30 : decode cX3_run 30 = .ok (.iconst 2, 1) := by decide +kernel
theorem dX3_run_31 : decode cX3_run 31 = .ok (.if_icmp .eq 11, 3) := by decide +kernel
theorem dX3_run_34 : decode cX3_run 34 = .ok (.iload 6, 2) := by decide +kernel
theorem dX3_run_36 : decode cX3_run 36 = .ok (.sipush 138, 3) := by decide +kernel
theorem dX3_run_39 : decode cX3_run 39 = .ok (.if_icmp .lt 40, 3) := by decide +kernel
theorem dX3_run_42 : decode cX3_run 42 = .ok (.aload_n 0, 1) := by decide +kernel
theorem dX3_run_43 : decode cX3_run 43 = .ok (.getfield 11, 3) := by decide +kernel
theorem dX3_run_46 : decode cX3_run 46 = .ok (.iload 4, 2) := by decide +kernel
theorem dX3_run_48 : decode cX3_run 48 = .ok (.iload 6, 2) := by decide +kernel
theorem dX3_run_50 : decode cX3_run 50 = .ok (.iconst 2, 1) := by decide +kernel
theorem dX3_run_51 : decode cX3_run 51 = .ok (.if_icmp .ne 13, 3) := by decide +kernel
theorem dX3_run_54 : decode cX3_run 54 = .ok (.aload_n 0, 1) := by decide +kernel
theorem dX3_run_55 : decode cX3_run 55 = .ok (.getfield 37, 3) := by decide +kernel
theorem dX3_run_58 : decode cX3_run 58 = .ok (.iload 5, 2) := by decide +kernel
theorem dX3_run_60 : decode cX3_run 60 = .ok (.iaload, 1) := by decide +kernel
theorem dX3_run_61 : decode cX3_run 61 = .ok (.goto 11, 3) := by decide +kernel
theorem dX3_run_64 : decode cX3_run 64 = .ok (.aload_n 3, 1) := by decide +kernel
theorem dX3_run_65 : decode cX3_run 65 = .ok (.iload 6, 2) := by decide +kernel
theorem dX3_run_67 : decode cX3_run 67 = .ok (.sipush 138, 3) := by decide +kernel
theorem dX3_run_70 : decode cX3_run 70 = .ok (.isub, 1) := by decide +kernel
theorem dX3_run_71 : decode cX3_run 71 = .ok (.iaload, 1) := by decide +kernel
theorem dX3_run_72 : decode cX3_run 72 = .ok (.iastore, 1) := by decide +kernel
theorem dX3_run_73 : decode cX3_run 73 = .ok (.iinc 4 1, 3) := by decide +kernel
theorem dX3_run_76 : decode cX3_run 76 = .ok (.goto 338, 3) := by decide +kernel
theorem dX3_run_79 : decode cX3_run 79 = .ok (.iload 6, 2) := by decide +kernel
theorem dX3_run_81 : decode cX3_run 81 = .ok (.sipush 137, 3) := by decide +kernel
theorem dX3_run_84 : decode cX3_run 84 = .ok (.if_icmp .ne 32, 3) := by decide +kernel
theorem dX3_run_87 : decode cX3_run 87 = .ok (.iload 4, 2) := by decide +kernel
theorem dX3_run_89 : decode cX3_run 89 = .ok (.iconst 1, 1) := by decide +kernel
theorem dX3_run_90 : decode cX3_run 90 = .ok (.if_icmp .lt 26, 3) := by decide +kernel
theorem dX3_run_93 : decode cX3_run 93 = .ok (.aload_n 0, 1) := by decide +kernel
theorem dX3_run_94 : decode cX3_run 94 = .ok (.getfield 11, 3) := by decide +kernel
theorem dX3_run_97 : decode cX3_run 97 = .ok (.iload 4, 2) := by decide +kernel
theorem dX3_run_99 : decode cX3_run 99 = .ok (.iconst 1, 1) := by decide +kernel
theorem dX3_run_100 : decode cX3_run 100 = .ok (.isub, 1) := by decide +kernel
theorem dX3_run_101 : decode cX3_run 101 = .ok (.iconst 1, 1) := by decide +kernel
theorem dX3_run_102 : decode cX3_run 102 = .ok (.aload_n 0, 1) := by decide +kernel
theorem dX3_run_103 : decode cX3_run 103 = .ok (.getfield 11, 3) := by decide +kernel
theorem dX3_run_106 : decode cX3_run 106 = .ok (.iload 4, 2) := by decide +kernel
theorem dX3_run_108 : decode cX3_run 108 = .ok (.iconst 1, 1) := by decide +kernel
theorem dX3_run_109 : decode cX3_run 109 = .ok (.isub, 1) := by decide +kernel
theorem dX3_run_110 : decode cX3_run 110 = .ok (.iaload, 1) := by decide +kernel
theorem dX3_run_111 : decode cX3_run 111 = .ok (.isub, 1) := by decide +kernel
theorem dX3_run_112 : decode cX3_run 112 = .ok (.iastore, 1) := by decide +kernel
theorem dX3_run_113 : decode cX3_run 113 = .ok (.goto 301, 3) := by decide +kernel
theorem dX3_run_116 : decode cX3_run 116 = .ok (.iload 6, 2) := by decide +kernel
theorem dX3_run_118 : decode cX3_run 118 = .ok (.bipush 47, 2) := by decide +kernel
theorem dX3_run_120 : decode cX3_run 120 = .ok (.if_icmp .ne 41, 3) := by decide +kernel
theorem dX3_run_123 : decode cX3_run 123 = .ok (.iload 4, 2) := by decide +kernel
theorem dX3_run_125 : decode cX3_run 125 = .ok (.iconst 1, 1) := by decide +kernel
theorem dX3_run_126 : decode cX3_run 126 = .ok (.if_icmp .lt 35, 3) := by decide +kernel
theorem dX3_run_129 : decode cX3_run 129 = .ok (.aload_n 0, 1) := by decide +kernel
theorem dX3_run_130 : decode cX3_run 130 = .ok (.getfield 37, 3) := by decide +kernel
theorem dX3_run_133 : decode cX3_run 133 = .ok (.iload 5, 2) := by decide +kernel
theorem dX3_run_135 : decode cX3_run 135 = .ok (.iaload, 1) := by decide +kernel
theorem dX3_run_136 : decode cX3_run 136 = .ok (.ifCond .eq 25, 3) := by decide +kernel
theorem dX3_run_139 : decode cX3_run 139 = .ok (.aload_n 0, 1) := by decide +kernel
theorem dX3_run_140 : decode cX3_run 140 = .ok (.getfield 11, 3) := by decide +kernel
theorem dX3_run_143 : decode cX3_run 143 = .ok (.iload 4, 2) := by decide +kernel
theorem dX3_run_145 : decode cX3_run 145 = .ok (.iconst 1, 1) := by decide +kernel
theorem dX3_run_146 : decode cX3_run 146 = .ok (.isub, 1) := by decide +kernel
theorem dX3_run_147 : decode cX3_run 147 = .ok (.dup2, 1) := by decide +kernel
theorem dX3_run_148 : decode cX3_run 148 = .ok (.iaload, 1) := by decide +kernel
theorem dX3_run_149 : decode cX3_run 149 = .ok (.aload_n 0, 1) := by decide +kernel
theorem dX3_run_150 : decode cX3_run 150 = .ok (.getfield 37, 3) := by decide +kernel
theorem dX3_run_153 : decode cX3_run 153 = .ok (.iload 5, 2) := by decide +kernel
theorem dX3_run_155 : decode cX3_run 155 = .ok (.iaload, 1) := by decide +kernel
theorem dX3_run_156 : decode cX3_run 156 = .ok (.idiv, 1) := by decide +kernel
theorem dX3_run_157 : decode cX3_run 157 = .ok (.iastore, 1) := by decide +kernel
theorem dX3_run_158 : decode cX3_run 158 = .ok (.goto 256, 3) := by decide +kernel
theorem dX3_run_161 : decode cX3_run 161 = .ok (.iload 4, 2) := by decide +kernel
theorem dX3_run_163 : decode cX3_run 163 = .ok (.iconst 2, 1) := by decide +kernel
theorem dX3_run_164 : decode cX3_run 164 = .ok (.if_icmp .lt 250, 3) := by decide +kernel
theorem dX3_run_167 : decode cX3_run 167 = .ok (.iinc 4 (-1), 3) := by decide +kernel
theorem dX3_run_170 : decode cX3_run 170 = .ok (.aload_n 0, 1) := by decide +kernel
theorem dX3_run_171 : decode cX3_run 171 = .ok (.getfield 11, 3) := by decide +kernel
theorem dX3_run_174 : decode cX3_run 174 = .ok (.iload 4, 2) := by decide +kernel
theorem dX3_run_176 : decode cX3_run 176 = .ok (.iconst 1, 1) := by decide +kernel
theorem dX3_run_177 : decode cX3_run 177 = .ok (.isub, 1) := by decide +kernel
theorem dX3_run_178 : decode cX3_run 178 = .ok (.iaload, 1) := by decide +kernel
theorem dX3_run_179 : decode cX3_run 179 = .ok (.istore 7, 2) := by decide +kernel
theorem dX3_run_181 : decode cX3_run 181 = .ok (.aload_n 0, 1) := by decide +kernel
theorem dX3_run_182 : decode cX3_run 182 = .ok (.getfield 11, 3) := by decide +kernel
theorem dX3_run_185 : decode cX3_run 185 = .ok (.iload 4, 2) := by decide +kernel
theorem dX3_run_187 : decode cX3_run 187 = .ok (.iaload, 1) := by decide +kernel
theorem dX3_run_188 : decode cX3_run 188 = .ok (.istore 8, 2) := by decide +kernel
theorem dX3_run_190 : decode cX3_run 190 = .ok (.iload 6, 2) := by decide +kernel
theorem dX3_run_192 : decode cX3_run 192 = .ok (.lookupswitch 208 #[(42, 102), (43, 68), (45, 85), (60, 119), (61, 143), (62, 167), (136, 191)], 68) := by decide +kernel
theorem dX3_run_260 : decode cX3_run 260 = .ok (.aload_n 0, 1) := by decide +kernel
theorem dX3_run_261 : decode cX3_run 261 = .ok (.getfield 11, 3) := by decide +kernel
theorem dX3_run_264 : decode cX3_run 264 = .ok (.iload 4, 2) := by decide +kernel
theorem dX3_run_266 : decode cX3_run 266 = .ok (.iconst 1, 1) := by decide +kernel
theorem dX3_run_267 : decode cX3_run 267 = .ok (.isub, 1) := by decide +kernel
theorem dX3_run_268 : decode cX3_run 268 = .ok (.iload 7, 2) := by decide +kernel
theorem dX3_run_270 : decode cX3_run 270 = .ok (.iload 8, 2) := by decide +kernel
theorem dX3_run_272 : decode cX3_run 272 = .ok (.iadd, 1) := by decide +kernel
theorem dX3_run_273 : decode cX3_run 273 = .ok (.iastore, 1) := by decide +kernel
theorem dX3_run_274 : decode cX3_run 274 = .ok (.goto 140, 3) := by decide +kernel
theorem dX3_run_277 : decode cX3_run 277 = .ok (.aload_n 0, 1) := by decide +kernel
theorem dX3_run_278 : decode cX3_run 278 = .ok (.getfield 11, 3) := by decide +kernel
theorem dX3_run_281 : decode cX3_run 281 = .ok (.iload 4, 2) := by decide +kernel
theorem dX3_run_283 : decode cX3_run 283 = .ok (.iconst 1, 1) := by decide +kernel
theorem dX3_run_284 : decode cX3_run 284 = .ok (.isub, 1) := by decide +kernel
theorem dX3_run_285 : decode cX3_run 285 = .ok (.iload 7, 2) := by decide +kernel
theorem dX3_run_287 : decode cX3_run 287 = .ok (.iload 8, 2) := by decide +kernel
theorem dX3_run_289 : decode cX3_run 289 = .ok (.isub, 1) := by decide +kernel
theorem dX3_run_290 : decode cX3_run 290 = .ok (.iastore, 1) := by decide +kernel
theorem dX3_run_291 : decode cX3_run 291 = .ok (.goto 123, 3) := by decide +kernel
theorem dX3_run_294 : decode cX3_run 294 = .ok (.aload_n 0, 1) := by decide +kernel
theorem dX3_run_295 : decode cX3_run 295 = .ok (.getfield 11, 3) := by decide +kernel
theorem dX3_run_298 : decode cX3_run 298 = .ok (.iload 4, 2) := by decide +kernel
theorem dX3_run_300 : decode cX3_run 300 = .ok (.iconst 1, 1) := by decide +kernel
theorem dX3_run_301 : decode cX3_run 301 = .ok (.isub, 1) := by decide +kernel
theorem dX3_run_302 : decode cX3_run 302 = .ok (.iload 7, 2) := by decide +kernel
theorem dX3_run_304 : decode cX3_run 304 = .ok (.iload 8, 2) := by decide +kernel
theorem dX3_run_306 : decode cX3_run 306 = .ok (.imul, 1) := by decide +kernel
theorem dX3_run_307 : decode cX3_run 307 = .ok (.iastore, 1) := by decide +kernel
theorem dX3_run_308 : decode cX3_run 308 = .ok (.goto 106, 3) := by decide +kernel
theorem dX3_run_311 : decode cX3_run 311 = .ok (.aload_n 0, 1) := by decide +kernel
theorem dX3_run_312 : decode cX3_run 312 = .ok (.getfield 11, 3) := by decide +kernel
theorem dX3_run_315 : decode cX3_run 315 = .ok (.iload 4, 2) := by decide +kernel
theorem dX3_run_317 : decode cX3_run 317 = .ok (.iconst 1, 1) := by decide +kernel
theorem dX3_run_318 : decode cX3_run 318 = .ok (.isub, 1) := by decide +kernel
theorem dX3_run_319 : decode cX3_run 319 = .ok (.iload 7, 2) := by decide +kernel
theorem dX3_run_321 : decode cX3_run 321 = .ok (.iload 8, 2) := by decide +kernel
theorem dX3_run_323 : decode cX3_run 323 = .ok (.if_icmp .ge 7, 3) := by decide +kernel
theorem dX3_run_326 : decode cX3_run 326 = .ok (.iconst 1, 1) := by decide +kernel
theorem dX3_run_327 : decode cX3_run 327 = .ok (.goto 4, 3) := by decide +kernel
theorem dX3_run_330 : decode cX3_run 330 = .ok (.iconst 0, 1) := by decide +kernel
theorem dX3_run_331 : decode cX3_run 331 = .ok (.iastore, 1) := by decide +kernel
theorem dX3_run_332 : decode cX3_run 332 = .ok (.goto 82, 3) := by decide +kernel
theorem dX3_run_335 : decode cX3_run 335 = .ok (.aload_n 0, 1) := by decide +kernel
theorem dX3_run_336 : decode cX3_run 336 = .ok (.getfield 11, 3) := by decide +kernel
theorem dX3_run_339 : decode cX3_run 339 = .ok (.iload 4, 2) := by decide +kernel
theorem dX3_run_341 : decode cX3_run 341 = .ok (.iconst 1, 1) := by decide +kernel
theorem dX3_run_342 : decode cX3_run 342 = .ok (.isub, 1) := by decide +kernel
theorem dX3_run_343 : decode cX3_run 343 = .ok (.iload 7, 2) := by decide +kernel
theorem dX3_run_345 : decode cX3_run 345 = .ok (.iload 8, 2) := by decide +kernel
theorem dX3_run_347 : decode cX3_run 347 = .ok (.if_icmp .ne 7, 3) := by decide +kernel
theorem dX3_run_350 : decode cX3_run 350 = .ok (.iconst 1, 1) := by decide +kernel
theorem dX3_run_351 : decode cX3_run 351 = .ok (.goto 4, 3) := by decide +kernel
theorem dX3_run_354 : decode cX3_run 354 = .ok (.iconst 0, 1) := by decide +kernel
theorem dX3_run_355 : decode cX3_run 355 = .ok (.iastore, 1) := by decide +kernel
theorem dX3_run_356 : decode cX3_run 356 = .ok (.goto 58, 3) := by decide +kernel
theorem dX3_run_359 : decode cX3_run 359 = .ok (.aload_n 0, 1) := by decide +kernel
theorem dX3_run_360 : decode cX3_run 360 = .ok (.getfield 11, 3) := by decide +kernel
theorem dX3_run_363 : decode cX3_run 363 = .ok (.iload 4, 2) := by decide +kernel
theorem dX3_run_365 : decode cX3_run 365 = .ok (.iconst 1, 1) := by decide +kernel
theorem dX3_run_366 : decode cX3_run 366 = .ok (.isub, 1) := by decide +kernel
theorem dX3_run_367 : decode cX3_run 367 = .ok (.iload 7, 2) := by decide +kernel
theorem dX3_run_369 : decode cX3_run 369 = .ok (.iload 8, 2) := by decide +kernel
theorem dX3_run_371 : decode cX3_run 371 = .ok (.if_icmp .le 7, 3) := by decide +kernel
theorem dX3_run_374 : decode cX3_run 374 = .ok (.iconst 1, 1) := by decide +kernel
theorem dX3_run_375 : decode cX3_run 375 = .ok (.goto 4, 3) := by decide +kernel
theorem dX3_run_378 : decode cX3_run 378 = .ok (.iconst 0, 1) := by decide +kernel
theorem dX3_run_379 : decode cX3_run 379 = .ok (.iastore, 1) := by decide +kernel
theorem dX3_run_380 : decode cX3_run 380 = .ok (.goto 34, 3) := by decide +kernel
theorem dX3_run_383 : decode cX3_run 383 = .ok (.aload_n 0, 1) := by decide +kernel
theorem dX3_run_384 : decode cX3_run 384 = .ok (.getfield 11, 3) := by decide +kernel
theorem dX3_run_387 : decode cX3_run 387 = .ok (.iload 4, 2) := by decide +kernel
theorem dX3_run_389 : decode cX3_run 389 = .ok (.iconst 1, 1) := by decide +kernel
theorem dX3_run_390 : decode cX3_run 390 = .ok (.isub, 1) := by decide +kernel
theorem dX3_run_391 : decode cX3_run 391 = .ok (.iload 7, 2) := by decide +kernel
theorem dX3_run_393 : decode cX3_run 393 = .ok (.iload 8, 2) := by decide +kernel
theorem dX3_run_395 : decode cX3_run 395 = .ok (.iand, 1) := by decide +kernel
theorem dX3_run_396 : decode cX3_run 396 = .ok (.iastore, 1) := by decide +kernel
theorem dX3_run_397 : decode cX3_run 397 = .ok (.goto 17, 3) := by decide +kernel
theorem dX3_run_400 : decode cX3_run 400 = .ok (.aload_n 0, 1) := by decide +kernel
theorem dX3_run_401 : decode cX3_run 401 = .ok (.getfield 11, 3) := by decide +kernel
theorem dX3_run_404 : decode cX3_run 404 = .ok (.iload 4, 2) := by decide +kernel
theorem dX3_run_406 : decode cX3_run 406 = .ok (.iconst 1, 1) := by decide +kernel
theorem dX3_run_407 : decode cX3_run 407 = .ok (.isub, 1) := by decide +kernel
theorem dX3_run_408 : decode cX3_run 408 = .ok (.iload 7, 2) := by decide +kernel
theorem dX3_run_410 : decode cX3_run 410 = .ok (.iload 8, 2) := by decide +kernel
theorem dX3_run_412 : decode cX3_run 412 = .ok (.ior, 1) := by decide +kernel
theorem dX3_run_413 : decode cX3_run 413 = .ok (.iastore, 1) := by decide +kernel
theorem dX3_run_414 : decode cX3_run 414 = .ok (.iinc 5 1, 3) := by decide +kernel
theorem dX3_run_417 : decode cX3_run 417 = .ok (.goto (-411), 3) := by decide +kernel
theorem dX3_run_420 : decode cX3_run 420 = .ok (.aload_n 0, 1) := by decide +kernel
theorem dX3_run_421 : decode cX3_run 421 = .ok (.getfield 11, 3) := by decide +kernel
theorem dX3_run_424 : decode cX3_run 424 = .ok (.iconst 0, 1) := by decide +kernel
theorem dX3_run_425 : decode cX3_run 425 = .ok (.iaload, 1) := by decide +kernel
theorem dX3_run_426 : decode cX3_run 426 = .ok (.ireturn, 1) := by decide +kernel
set_option maxHeartbeats 4000000 in
set_option maxRecDepth 100000 in
theorem c_X3_run (l : Launch) (D : va_G) (tys : List (ClassId × FieldType)) (base : Nat) (G : iv_G) (h0 : Nat) (g_h0 : Nat → Int32) (r_h0 : Nat → Nat) (a_h0 : G h0 = some (3, g_h0, r_h0)) (x_0 : Int32) (i_x_0 : iv_R 0 1023 x_0) (x_1 : Int32) (i_x_1 : iv_R 0 1023 x_1) (u_x_1 : x_1.toInt ≤ ((r_h0 11 % 1024 : Nat) : Int)) (h3 : Nat) (g_h3 : Nat → Int32) (r_h3 : Nat → Nat) (a_h3 : G h3 = some (30, g_h3, r_h3)) : Met l yX3_run (Cond.code yX3_run cX3_run 9 (some .int) :: iv_W0) ({ frames := 0, cells := 0, slots := 0, locals := 0 }) (iv_Pc iv_sh D classes tys base G [.ref h0, .int x_0, .int x_1, .ref h3]) (iv_Qi iv_sh D classes tys base (fun v G' => iv_Md [28] G G' ∧ iv_R (-2147483648) 2147483647 v)) 0 0 (iv_A base) := by
  refine iv_head (by decide) (Nat.le_of_ble_eq_true rfl) ?_
  intro p e s m args below meth c ls X hr hlocks hname hB hl
  have X := X
  have hx := X.1.1
  have hb := X.1.2.1
  have hM : iv_Md [28] G G := iv_Md.rf
  have hl : lv_has ls 9 [(0, .ref h0), (1, .int x_0), (2, .int x_1), (3, .ref h3)] := hl
  refine lv_iconst (v := 0) hx hb dX3_run_0 (by decide) ?_
  refine lv_istore (lv' := [(4, .int 0), (0, .ref h0), (1, .int x_0), (2, .int x_1), (3, .ref h3)]) hx hb dX3_run_1 hl (by decide) rfl (fun ls hl => ?_)
  refine lv_iload_n hx hb dX3_run_3 rfl (lv_at hl 2 rfl) ?_
  refine lv_istore (lv' := [(5, .int x_0), (4, .int 0), (0, .ref h0), (1, .int x_0), (2, .int x_1), (3, .ref h3)]) hx hb dX3_run_4 hl (by decide) rfl (fun ls hl => ?_)
  have L_6 : ∀ (n_6 : Nat) (G3 : iv_G) (hM : iv_Md [28] G G3) (H : Heap) (locs : List Loc) (hB : iv_B iv_sh D classes tys base G3 s.heap H locs) (a_h0 : G3 h0 = some (3, g_h0, r_h0)) (a_h3 : G3 h3 = some (30, g_h3, r_h3)) (x1 : Int32) (i_x1 : iv_R 0 40 x1) (x2 : Int32) (i_x2 : iv_R 0 1023 x2) (hn_6 : (1024 - x2.toInt).toNat < n_6) (ls : Array Slot) (hl : lv_has ls 9 [(5, .int x2), (4, .int x1), (0, .ref h0), (2, .int x_1), (3, .ref h3)]), W p l e ({ frames := 0, cells := 0, slots := 0, locals := 0 } : Room) s m args below meth c H locs 0 0 (MQ below (iv_Qi iv_sh D classes tys base (fun v G' => iv_Md [28] G G' ∧ iv_R (-2147483648) 2147483647 v)) args s 0 0 (iv_A base)) (F0 m 6 ls []) := by
    intro n_6
    induction n_6 with
    | zero => intro G3 hM H locs hB a_h0 a_h3 x1 i_x1 x2 i_x2 hn_6 ls hl; exact absurd hn_6 (Nat.not_lt_zero _)
    | succ n_6 ih_6 =>
      intro G3 hM H locs hB a_h0 a_h3 x1 i_x1 x2 i_x2 hn_6 ls hl
      refine lv_iload hx hb dX3_run_6 (lv_at hl 0 rfl) ?_
      refine lv_iload_n hx hb dX3_run_8 rfl (lv_at hl 3 rfl) ?_
      refine lv_icmp_ge (tgt := 420) hx hb dX3_run_9 (by decide) (fun c4 => ?_) (fun c4 => ?_)
      · skip
        refine lv_aload_n hx hb dX3_run_420 rfl (lv_at hl 2 rfl) ?_
        refine iv_getr X ft_X3 hB a_h0 sh_3 6 (by decide) rfl k_fl_X3_11 dX3_run_421 (fun b5 g_b5 r_b5 e_b5 a_b5 => ?_)
        refine lv_iconst (v := 0) hx hb dX3_run_424 (by decide) ?_
        refine iv_ald X hB a_b5 sh_28 (iv_in q_0 (by decide)) dX3_run_425 (fun x6 e_x6 i_x6 => ?_)
        exact iv_iret X hr hlocks hB ⟨hM, i_x6⟩ dX3_run_426
      · skip
        have i6_x2 : iv_R 0 1022 x2 := (i_x2.cutHi (n := 1022) (iv_lt_r (iv_nle c4) i_x_1 (by decide)))
        have i7_x_1 : iv_R 1 1023 x_1 := (i_x_1.cutLo (n := 1) (iv_lt_l (iv_nle c4) i_x2 (by decide)))
        refine lv_iload hx hb dX3_run_12 (lv_at hl 1 rfl) ?_
        refine lv_bipush (v := 40) hx hb dX3_run_14 (by decide) ?_
        refine lv_icmp_ge (tgt := 420) hx hb dX3_run_16 (by decide) (fun c9 => ?_) (fun c9 => ?_)
        · skip
          have i9_x1 : iv_R 40 40 x1 := (i_x1.cutLo (n := 40) (iv_le_l c9 q_40))
          refine lv_aload_n hx hb dX3_run_420 rfl (lv_at hl 2 rfl) ?_
          refine iv_getr X ft_X3 hB a_h0 sh_3 6 (by decide) rfl k_fl_X3_11 dX3_run_421 (fun b11 g_b11 r_b11 e_b11 a_b11 => ?_)
          refine lv_iconst (v := 0) hx hb dX3_run_424 (by decide) ?_
          refine iv_ald X hB a_b11 sh_28 (iv_in q_0 (by decide)) dX3_run_425 (fun x12 e_x12 i_x12 => ?_)
          exact iv_iret X hr hlocks hB ⟨hM, i_x12⟩ dX3_run_426
        · skip
          have i12_x1 : iv_R 0 39 x1 := (i_x1.cutHi (n := 39) (iv_lt_r (iv_nle c9) q_40 (by decide)))
          refine lv_aload_n hx hb dX3_run_19 rfl (lv_at hl 2 rfl) ?_
          refine iv_getr X ft_X3 hB a_h0 sh_3 4 (by decide) rfl k_fl_X3_34 dX3_run_20 (fun b14 g_b14 r_b14 e_b14 a_b14 => ?_)
          refine lv_iload hx hb dX3_run_23 (lv_at hl 0 rfl) ?_
          refine iv_ald X hB a_b14 (sh_l3 r_h0) (iv_inU i6_x2 (by decide) (by have w1 := iv_ltU (iv_nle c4) u_x_1; omega)) dX3_run_25 (fun x15 e_x15 k_x15 => ?_)
          refine lv_istore (lv' := [(6, .int x15), (5, .int x2), (4, .int x1), (0, .ref h0), (2, .int x_1), (3, .ref h3)]) hx hb dX3_run_26 hl (by decide) rfl (fun ls hl => ?_)
          refine lv_iload hx hb dX3_run_28 (lv_at hl 0 rfl) ?_
          refine lv_iconst (v := 2) hx hb dX3_run_30 (by decide) ?_
          refine lv_icmp_eq (tgt := 42) hx hb dX3_run_31 (by decide) (fun c16 => ?_) (fun c16 => ?_)
          · skip
            have i16_x15 : iv_R 2 2 x15 := ((k_x15.cutLo (n := 2) (iv_eq_r c16 q_2).1).cutHi (n := 2) (iv_eq_r c16 q_2).2)
            refine lv_aload_n hx hb dX3_run_42 rfl (lv_at hl 3 rfl) ?_
            refine iv_getr X ft_X3 hB a_h0 sh_3 6 (by decide) rfl k_fl_X3_11 dX3_run_43 (fun b18 g_b18 r_b18 e_b18 a_b18 => ?_)
            refine lv_iload hx hb dX3_run_46 (lv_at hl 2 rfl) ?_
            refine lv_iload hx hb dX3_run_48 (lv_at hl 0 rfl) ?_
            refine lv_iconst (v := 2) hx hb dX3_run_50 (by decide) ?_
            refine lv_icmp_ne (tgt := 64) hx hb dX3_run_51 (by decide) (fun c19 => ?_) (fun c19 => ?_)
            · skip
              exact (iv_ne_lo c19 i16_x15 q_2 (a' := 3) (by decide)).no (by decide)
            · skip
              refine lv_aload_n hx hb dX3_run_54 rfl (lv_at hl 3 rfl) ?_
              refine iv_getr X ft_X3 hB a_h0 sh_3 5 (by decide) rfl k_fl_X3_37 dX3_run_55 (fun b20 g_b20 r_b20 e_b20 a_b20 => ?_)
              refine lv_iload hx hb dX3_run_58 (lv_at hl 1 rfl) ?_
              refine iv_ald X hB a_b20 (sh_l4 r_h0) (iv_inU i6_x2 (by decide) (by have w1 := iv_ltU (iv_nle c4) u_x_1; omega)) dX3_run_60 (fun x21 e_x21 k_x21 => ?_)
              refine lv_goto (tgt := 72) hx hb dX3_run_61 (by decide) ?_
              refine iv_ast X hB a_b18 sh_28 (iv_in i12_x1 (by decide)) k_x21 dX3_run_72 (fun H locs hB => ?_)
              have hm := iv_Md.ast (j := x1.toNatClampNeg) (x := x21) a_b18 rfl (by decide)
              have h9 := iv_up_eq (G := G3) (a := b18) (k := (28, upd g_b18 x1.toNatClampNeg x21, r_b18))
              generalize iv_up G3 b18 _ = G22 at hB hm h9
              have hM := hM.stp hm (by decide)
              have a_h0 := hm.at a_h0 (by decide)
              have a_h3 := hm.at a_h3 (by decide)
              refine iv_iinc hx hb i12_x1 (lo := 1) (hi := 40) (by decide) dX3_run_73 hl (k := 2) rfl (by decide) (fun x24 ls e_x24 i_x24 hl => ?_)
              have hl : lv_has ls 9 [(4, .int x24), (6, .int x15), (5, .int x2), (0, .ref h0), (2, .int x_1), (3, .ref h3)] := hl
              refine lv_goto (tgt := 414) hx hb dX3_run_76 (by decide) ?_
              refine iv_iinc hx hb i6_x2 (lo := 1) (hi := 1023) (by decide) dX3_run_414 hl (k := 2) rfl (by decide) (fun x25 ls e_x25 i_x25 hl => ?_)
              have hl : lv_has ls 9 [(5, .int x25), (4, .int x24), (6, .int x15), (0, .ref h0), (2, .int x_1), (3, .ref h3)] := hl
              refine lv_goto (tgt := 6) hx hb dX3_run_417 (by decide) ?_
              exact ih_6 G22 hM _ _ hB a_h0 a_h3 x24 (i_x24.wk (by decide)) x25 (i_x25.wk (by decide)) (iv_mup (c := 1) i_x2 (by decide) (by decide) (by omega) hn_6) _ (lv_sub hl [0, 1, 3, 4, 5] rfl)
          · skip
            refine lv_iload hx hb dX3_run_34 (lv_at hl 0 rfl) ?_
            refine lv_sipush (v := 138) hx hb dX3_run_36 (by decide) ?_
            refine lv_icmp_lt (tgt := 79) hx hb dX3_run_39 (by decide) (fun c26 => ?_) (fun c26 => ?_)
            · skip
              have i26_x15 : iv_R 0 137 x15 := (k_x15.cutHi (n := 137) (iv_lt_r c26 q_138 (by decide)))
              refine lv_iload hx hb dX3_run_79 (lv_at hl 0 rfl) ?_
              refine lv_sipush (v := 137) hx hb dX3_run_81 (by decide) ?_
              refine lv_icmp_ne (tgt := 116) hx hb dX3_run_84 (by decide) (fun c28 => ?_) (fun c28 => ?_)
              · skip
                have i28_x15 : iv_R 0 136 x15 := iv_ne_hi c28 i26_x15 q_137 (by decide)
                refine lv_iload hx hb dX3_run_116 (lv_at hl 0 rfl) ?_
                refine lv_bipush (v := 47) hx hb dX3_run_118 (by decide) ?_
                refine lv_icmp_ne (tgt := 161) hx hb dX3_run_120 (by decide) (fun c30 => ?_) (fun c30 => ?_)
                · skip
                  refine lv_iload hx hb dX3_run_161 (lv_at hl 2 rfl) ?_
                  refine lv_iconst (v := 2) hx hb dX3_run_163 (by decide) ?_
                  refine lv_icmp_lt (tgt := 414) hx hb dX3_run_164 (by decide) (fun c31 => ?_) (fun c31 => ?_)
                  · skip
                    have i31_x1 : iv_R 0 1 x1 := (i12_x1.cutHi (n := 1) (iv_lt_r c31 q_2 (by decide)))
                    refine iv_iinc hx hb i6_x2 (lo := 1) (hi := 1023) (by decide) dX3_run_414 hl (k := 1) rfl (by decide) (fun x33 ls e_x33 i_x33 hl => ?_)
                    have hl : lv_has ls 9 [(5, .int x33), (6, .int x15), (4, .int x1), (0, .ref h0), (2, .int x_1), (3, .ref h3)] := hl
                    refine lv_goto (tgt := 6) hx hb dX3_run_417 (by decide) ?_
                    exact ih_6 G3 hM _ _ hB a_h0 a_h3 x1 (i31_x1.wk (by decide)) x33 (i_x33.wk (by decide)) (iv_mup (c := 1) i_x2 (by decide) (by decide) (by omega) hn_6) _ (lv_sub hl [0, 2, 3, 4, 5] rfl)
                  · skip
                    have i33_x1 : iv_R 2 39 x1 := (i12_x1.cutLo (n := 2) (iv_le_l (iv_nlt c31) q_2))
                    refine iv_iinc hx hb i33_x1 (lo := 1) (hi := 38) (by decide) dX3_run_167 hl (k := 2) rfl (by decide) (fun x35 ls e_x35 i_x35 hl => ?_)
                    have hl : lv_has ls 9 [(4, .int x35), (6, .int x15), (5, .int x2), (0, .ref h0), (2, .int x_1), (3, .ref h3)] := hl
                    refine lv_aload_n hx hb dX3_run_170 rfl (lv_at hl 3 rfl) ?_
                    refine iv_getr X ft_X3 hB a_h0 sh_3 6 (by decide) rfl k_fl_X3_11 dX3_run_171 (fun b36 g_b36 r_b36 e_b36 a_b36 => ?_)
                    refine lv_iload hx hb dX3_run_174 (lv_at hl 0 rfl) ?_
                    refine lv_iconst (v := 1) hx hb dX3_run_176 (by decide) ?_
                    refine iv_isub hx hb i_x35 q_1 (lo := 0) (hi := 37) (by decide) dX3_run_177 (fun x37 e_x37 i_x37 => ?_)
                    refine iv_ald X hB a_b36 sh_28 (iv_in i_x37 (by decide)) dX3_run_178 (fun x38 e_x38 i_x38 => ?_)
                    refine lv_istore (lv' := [(7, .int x38), (4, .int x35), (6, .int x15), (5, .int x2), (0, .ref h0), (2, .int x_1), (3, .ref h3)]) hx hb dX3_run_179 hl (by decide) rfl (fun ls hl => ?_)
                    refine lv_aload_n hx hb dX3_run_181 rfl (lv_at hl 4 rfl) ?_
                    refine iv_getr0 X ft_X3 hB a_h0 sh_3 6 (by decide) rfl k_fl_X3_11 dX3_run_182 e_b36 ?_
                    refine lv_iload hx hb dX3_run_185 (lv_at hl 1 rfl) ?_
                    refine iv_ald X hB a_b36 sh_28 (iv_in i_x35 (by decide)) dX3_run_187 (fun x39 e_x39 i_x39 => ?_)
                    refine lv_istore (lv' := [(8, .int x39), (7, .int x38), (4, .int x35), (6, .int x15), (5, .int x2), (0, .ref h0), (2, .int x_1), (3, .ref h3)]) hx hb dX3_run_188 hl (by decide) rfl (fun ls hl => ?_)
                    refine lv_iload hx hb dX3_run_190 (lv_at hl 3 rfl) ?_
                    by_cases w40 : x15.toInt = 42
                    · skip
                      refine lv_lookup (off := 102) (tgt := 294) hx hb dX3_run_192 (by decide) (by rw [w40]; (try rfl)) (by decide) ?_
                      have w40i : iv_R 42 42 x15 := iv_lit w40
                      refine lv_aload_n hx hb dX3_run_294 rfl (lv_at hl 5 rfl) ?_
                      refine iv_getr0 X ft_X3 hB a_h0 sh_3 6 (by decide) rfl k_fl_X3_11 dX3_run_295 e_b36 ?_
                      refine lv_iload hx hb dX3_run_298 (lv_at hl 2 rfl) ?_
                      refine lv_iconst (v := 1) hx hb dX3_run_300 (by decide) ?_
                      refine iv_isub hx hb i_x35 q_1 (lo := 0) (hi := 37) (by decide) dX3_run_301 (fun x41 e_x41 i_x41 => ?_)
                      refine lv_iload hx hb dX3_run_302 (lv_at hl 1 rfl) ?_
                      refine lv_iload hx hb dX3_run_304 (lv_at hl 0 rfl) ?_
                      refine lv_imul hx hb dX3_run_306 ?_
                      refine lv_topi (fun x42 e_x42 => ?_)
                      have i_x42 := iv_R.all x42
                      refine iv_ast X hB a_b36 sh_28 (iv_in i_x41 (by decide)) i_x42 dX3_run_307 (fun H locs hB => ?_)
                      have hm := iv_Md.ast (j := x41.toNatClampNeg) (x := x42) a_b36 rfl (by decide)
                      have h9 := iv_up_eq (G := G3) (a := b36) (k := (28, upd g_b36 x41.toNatClampNeg x42, r_b36))
                      generalize iv_up G3 b36 _ = G43 at hB hm h9
                      have hM := hM.stp hm (by decide)
                      have a_h0 := hm.at a_h0 (by decide)
                      have a_h3 := hm.at a_h3 (by decide)
                      refine lv_goto (tgt := 414) hx hb dX3_run_308 (by decide) ?_
                      refine iv_iinc hx hb i6_x2 (lo := 1) (hi := 1023) (by decide) dX3_run_414 hl (k := 4) rfl (by decide) (fun x45 ls e_x45 i_x45 hl => ?_)
                      have hl : lv_has ls 9 [(5, .int x45), (8, .int x39), (7, .int x38), (4, .int x35), (6, .int x15), (0, .ref h0), (2, .int x_1), (3, .ref h3)] := hl
                      refine lv_goto (tgt := 6) hx hb dX3_run_417 (by decide) ?_
                      exact ih_6 G43 hM _ _ hB a_h0 a_h3 x35 (i_x35.wk (by decide)) x45 (i_x45.wk (by decide)) (iv_mup (c := 1) i_x2 (by decide) (by decide) (by omega) hn_6) _ (lv_sub hl [0, 3, 5, 6, 7] rfl)
                    skip
                    by_cases w46 : x15.toInt = 43
                    · skip
                      refine lv_lookup (off := 68) (tgt := 260) hx hb dX3_run_192 (by decide) (by rw [w46]; (try rfl)) (by decide) ?_
                      have w46i : iv_R 43 43 x15 := iv_lit w46
                      refine lv_aload_n hx hb dX3_run_260 rfl (lv_at hl 5 rfl) ?_
                      refine iv_getr0 X ft_X3 hB a_h0 sh_3 6 (by decide) rfl k_fl_X3_11 dX3_run_261 e_b36 ?_
                      refine lv_iload hx hb dX3_run_264 (lv_at hl 2 rfl) ?_
                      refine lv_iconst (v := 1) hx hb dX3_run_266 (by decide) ?_
                      refine iv_isub hx hb i_x35 q_1 (lo := 0) (hi := 37) (by decide) dX3_run_267 (fun x47 e_x47 i_x47 => ?_)
                      refine lv_iload hx hb dX3_run_268 (lv_at hl 1 rfl) ?_
                      refine lv_iload hx hb dX3_run_270 (lv_at hl 0 rfl) ?_
                      refine lv_iadd hx hb dX3_run_272 ?_
                      refine lv_topi (fun x48 e_x48 => ?_)
                      have i_x48 := iv_R.all x48
                      refine iv_ast X hB a_b36 sh_28 (iv_in i_x47 (by decide)) i_x48 dX3_run_273 (fun H locs hB => ?_)
                      have hm := iv_Md.ast (j := x47.toNatClampNeg) (x := x48) a_b36 rfl (by decide)
                      have h9 := iv_up_eq (G := G3) (a := b36) (k := (28, upd g_b36 x47.toNatClampNeg x48, r_b36))
                      generalize iv_up G3 b36 _ = G49 at hB hm h9
                      have hM := hM.stp hm (by decide)
                      have a_h0 := hm.at a_h0 (by decide)
                      have a_h3 := hm.at a_h3 (by decide)
                      refine lv_goto (tgt := 414) hx hb dX3_run_274 (by decide) ?_
                      refine iv_iinc hx hb i6_x2 (lo := 1) (hi := 1023) (by decide) dX3_run_414 hl (k := 4) rfl (by decide) (fun x51 ls e_x51 i_x51 hl => ?_)
                      have hl : lv_has ls 9 [(5, .int x51), (8, .int x39), (7, .int x38), (4, .int x35), (6, .int x15), (0, .ref h0), (2, .int x_1), (3, .ref h3)] := hl
                      refine lv_goto (tgt := 6) hx hb dX3_run_417 (by decide) ?_
                      exact ih_6 G49 hM _ _ hB a_h0 a_h3 x35 (i_x35.wk (by decide)) x51 (i_x51.wk (by decide)) (iv_mup (c := 1) i_x2 (by decide) (by decide) (by omega) hn_6) _ (lv_sub hl [0, 3, 5, 6, 7] rfl)
                    skip
                    by_cases w52 : x15.toInt = 45
                    · skip
                      refine lv_lookup (off := 85) (tgt := 277) hx hb dX3_run_192 (by decide) (by rw [w52]; (try rfl)) (by decide) ?_
                      have w52i : iv_R 45 45 x15 := iv_lit w52
                      refine lv_aload_n hx hb dX3_run_277 rfl (lv_at hl 5 rfl) ?_
                      refine iv_getr0 X ft_X3 hB a_h0 sh_3 6 (by decide) rfl k_fl_X3_11 dX3_run_278 e_b36 ?_
                      refine lv_iload hx hb dX3_run_281 (lv_at hl 2 rfl) ?_
                      refine lv_iconst (v := 1) hx hb dX3_run_283 (by decide) ?_
                      refine iv_isub hx hb i_x35 q_1 (lo := 0) (hi := 37) (by decide) dX3_run_284 (fun x53 e_x53 i_x53 => ?_)
                      refine lv_iload hx hb dX3_run_285 (lv_at hl 1 rfl) ?_
                      refine lv_iload hx hb dX3_run_287 (lv_at hl 0 rfl) ?_
                      refine lv_isub hx hb dX3_run_289 ?_
                      refine lv_topi (fun x54 e_x54 => ?_)
                      have i_x54 := iv_R.all x54
                      refine iv_ast X hB a_b36 sh_28 (iv_in i_x53 (by decide)) i_x54 dX3_run_290 (fun H locs hB => ?_)
                      have hm := iv_Md.ast (j := x53.toNatClampNeg) (x := x54) a_b36 rfl (by decide)
                      have h9 := iv_up_eq (G := G3) (a := b36) (k := (28, upd g_b36 x53.toNatClampNeg x54, r_b36))
                      generalize iv_up G3 b36 _ = G55 at hB hm h9
                      have hM := hM.stp hm (by decide)
                      have a_h0 := hm.at a_h0 (by decide)
                      have a_h3 := hm.at a_h3 (by decide)
                      refine lv_goto (tgt := 414) hx hb dX3_run_291 (by decide) ?_
                      refine iv_iinc hx hb i6_x2 (lo := 1) (hi := 1023) (by decide) dX3_run_414 hl (k := 4) rfl (by decide) (fun x57 ls e_x57 i_x57 hl => ?_)
                      have hl : lv_has ls 9 [(5, .int x57), (8, .int x39), (7, .int x38), (4, .int x35), (6, .int x15), (0, .ref h0), (2, .int x_1), (3, .ref h3)] := hl
                      refine lv_goto (tgt := 6) hx hb dX3_run_417 (by decide) ?_
                      exact ih_6 G55 hM _ _ hB a_h0 a_h3 x35 (i_x35.wk (by decide)) x57 (i_x57.wk (by decide)) (iv_mup (c := 1) i_x2 (by decide) (by decide) (by omega) hn_6) _ (lv_sub hl [0, 3, 5, 6, 7] rfl)
                    skip
                    by_cases w58 : x15.toInt = 60
                    · skip
                      refine lv_lookup (off := 119) (tgt := 311) hx hb dX3_run_192 (by decide) (by rw [w58]; (try rfl)) (by decide) ?_
                      have w58i : iv_R 60 60 x15 := iv_lit w58
                      refine lv_aload_n hx hb dX3_run_311 rfl (lv_at hl 5 rfl) ?_
                      refine iv_getr0 X ft_X3 hB a_h0 sh_3 6 (by decide) rfl k_fl_X3_11 dX3_run_312 e_b36 ?_
                      refine lv_iload hx hb dX3_run_315 (lv_at hl 2 rfl) ?_
                      refine lv_iconst (v := 1) hx hb dX3_run_317 (by decide) ?_
                      refine iv_isub hx hb i_x35 q_1 (lo := 0) (hi := 37) (by decide) dX3_run_318 (fun x59 e_x59 i_x59 => ?_)
                      refine lv_iload hx hb dX3_run_319 (lv_at hl 1 rfl) ?_
                      refine lv_iload hx hb dX3_run_321 (lv_at hl 0 rfl) ?_
                      refine lv_icmp_ge (tgt := 330) hx hb dX3_run_323 (by decide) (fun c60 => ?_) (fun c60 => ?_)
                      · skip
                        refine lv_iconst (v := 0) hx hb dX3_run_330 (by decide) ?_
                        refine iv_ast X hB a_b36 sh_28 (iv_in i_x59 (by decide)) (q_0.wk (by decide)) dX3_run_331 (fun H locs hB => ?_)
                        have hm := iv_Md.ast (j := x59.toNatClampNeg) (x := 0) a_b36 rfl (by decide)
                        have h9 := iv_up_eq (G := G3) (a := b36) (k := (28, upd g_b36 x59.toNatClampNeg 0, r_b36))
                        generalize iv_up G3 b36 _ = G61 at hB hm h9
                        have hM := hM.stp hm (by decide)
                        have a_h0 := hm.at a_h0 (by decide)
                        have a_h3 := hm.at a_h3 (by decide)
                        refine lv_goto (tgt := 414) hx hb dX3_run_332 (by decide) ?_
                        refine iv_iinc hx hb i6_x2 (lo := 1) (hi := 1023) (by decide) dX3_run_414 hl (k := 4) rfl (by decide) (fun x63 ls e_x63 i_x63 hl => ?_)
                        have hl : lv_has ls 9 [(5, .int x63), (8, .int x39), (7, .int x38), (4, .int x35), (6, .int x15), (0, .ref h0), (2, .int x_1), (3, .ref h3)] := hl
                        refine lv_goto (tgt := 6) hx hb dX3_run_417 (by decide) ?_
                        exact ih_6 G61 hM _ _ hB a_h0 a_h3 x35 (i_x35.wk (by decide)) x63 (i_x63.wk (by decide)) (iv_mup (c := 1) i_x2 (by decide) (by decide) (by omega) hn_6) _ (lv_sub hl [0, 3, 5, 6, 7] rfl)
                      · skip
                        have i63_x38 : iv_R (-2147483648) 2147483646 x38 := (i_x38.cutHi (n := 2147483646) (iv_lt_r (iv_nle c60) i_x39 (by decide)))
                        have i64_x39 : iv_R (-2147483647) 2147483647 x39 := (i_x39.cutLo (n := (-2147483647)) (iv_lt_l (iv_nle c60) i_x38 (by decide)))
                        refine lv_iconst (v := 1) hx hb dX3_run_326 (by decide) ?_
                        refine lv_goto (tgt := 331) hx hb dX3_run_327 (by decide) ?_
                        refine iv_ast X hB a_b36 sh_28 (iv_in i_x59 (by decide)) (q_1.wk (by decide)) dX3_run_331 (fun H locs hB => ?_)
                        have hm := iv_Md.ast (j := x59.toNatClampNeg) (x := 1) a_b36 rfl (by decide)
                        have h9 := iv_up_eq (G := G3) (a := b36) (k := (28, upd g_b36 x59.toNatClampNeg 1, r_b36))
                        generalize iv_up G3 b36 _ = G66 at hB hm h9
                        have hM := hM.stp hm (by decide)
                        have a_h0 := hm.at a_h0 (by decide)
                        have a_h3 := hm.at a_h3 (by decide)
                        refine lv_goto (tgt := 414) hx hb dX3_run_332 (by decide) ?_
                        refine iv_iinc hx hb i6_x2 (lo := 1) (hi := 1023) (by decide) dX3_run_414 hl (k := 4) rfl (by decide) (fun x68 ls e_x68 i_x68 hl => ?_)
                        have hl : lv_has ls 9 [(5, .int x68), (8, .int x39), (7, .int x38), (4, .int x35), (6, .int x15), (0, .ref h0), (2, .int x_1), (3, .ref h3)] := hl
                        refine lv_goto (tgt := 6) hx hb dX3_run_417 (by decide) ?_
                        exact ih_6 G66 hM _ _ hB a_h0 a_h3 x35 (i_x35.wk (by decide)) x68 (i_x68.wk (by decide)) (iv_mup (c := 1) i_x2 (by decide) (by decide) (by omega) hn_6) _ (lv_sub hl [0, 3, 5, 6, 7] rfl)
                    skip
                    by_cases w69 : x15.toInt = 61
                    · skip
                      refine lv_lookup (off := 143) (tgt := 335) hx hb dX3_run_192 (by decide) (by rw [w69]; (try rfl)) (by decide) ?_
                      have w69i : iv_R 61 61 x15 := iv_lit w69
                      refine lv_aload_n hx hb dX3_run_335 rfl (lv_at hl 5 rfl) ?_
                      refine iv_getr0 X ft_X3 hB a_h0 sh_3 6 (by decide) rfl k_fl_X3_11 dX3_run_336 e_b36 ?_
                      refine lv_iload hx hb dX3_run_339 (lv_at hl 2 rfl) ?_
                      refine lv_iconst (v := 1) hx hb dX3_run_341 (by decide) ?_
                      refine iv_isub hx hb i_x35 q_1 (lo := 0) (hi := 37) (by decide) dX3_run_342 (fun x70 e_x70 i_x70 => ?_)
                      refine lv_iload hx hb dX3_run_343 (lv_at hl 1 rfl) ?_
                      refine lv_iload hx hb dX3_run_345 (lv_at hl 0 rfl) ?_
                      refine lv_icmp_ne (tgt := 354) hx hb dX3_run_347 (by decide) (fun c71 => ?_) (fun c71 => ?_)
                      · skip
                        refine lv_iconst (v := 0) hx hb dX3_run_354 (by decide) ?_
                        refine iv_ast X hB a_b36 sh_28 (iv_in i_x70 (by decide)) (q_0.wk (by decide)) dX3_run_355 (fun H locs hB => ?_)
                        have hm := iv_Md.ast (j := x70.toNatClampNeg) (x := 0) a_b36 rfl (by decide)
                        have h9 := iv_up_eq (G := G3) (a := b36) (k := (28, upd g_b36 x70.toNatClampNeg 0, r_b36))
                        generalize iv_up G3 b36 _ = G72 at hB hm h9
                        have hM := hM.stp hm (by decide)
                        have a_h0 := hm.at a_h0 (by decide)
                        have a_h3 := hm.at a_h3 (by decide)
                        refine lv_goto (tgt := 414) hx hb dX3_run_356 (by decide) ?_
                        refine iv_iinc hx hb i6_x2 (lo := 1) (hi := 1023) (by decide) dX3_run_414 hl (k := 4) rfl (by decide) (fun x74 ls e_x74 i_x74 hl => ?_)
                        have hl : lv_has ls 9 [(5, .int x74), (8, .int x39), (7, .int x38), (4, .int x35), (6, .int x15), (0, .ref h0), (2, .int x_1), (3, .ref h3)] := hl
                        refine lv_goto (tgt := 6) hx hb dX3_run_417 (by decide) ?_
                        exact ih_6 G72 hM _ _ hB a_h0 a_h3 x35 (i_x35.wk (by decide)) x74 (i_x74.wk (by decide)) (iv_mup (c := 1) i_x2 (by decide) (by decide) (by omega) hn_6) _ (lv_sub hl [0, 3, 5, 6, 7] rfl)
                      · skip
                        refine lv_iconst (v := 1) hx hb dX3_run_350 (by decide) ?_
                        refine lv_goto (tgt := 355) hx hb dX3_run_351 (by decide) ?_
                        refine iv_ast X hB a_b36 sh_28 (iv_in i_x70 (by decide)) (q_1.wk (by decide)) dX3_run_355 (fun H locs hB => ?_)
                        have hm := iv_Md.ast (j := x70.toNatClampNeg) (x := 1) a_b36 rfl (by decide)
                        have h9 := iv_up_eq (G := G3) (a := b36) (k := (28, upd g_b36 x70.toNatClampNeg 1, r_b36))
                        generalize iv_up G3 b36 _ = G75 at hB hm h9
                        have hM := hM.stp hm (by decide)
                        have a_h0 := hm.at a_h0 (by decide)
                        have a_h3 := hm.at a_h3 (by decide)
                        refine lv_goto (tgt := 414) hx hb dX3_run_356 (by decide) ?_
                        refine iv_iinc hx hb i6_x2 (lo := 1) (hi := 1023) (by decide) dX3_run_414 hl (k := 4) rfl (by decide) (fun x77 ls e_x77 i_x77 hl => ?_)
                        have hl : lv_has ls 9 [(5, .int x77), (8, .int x39), (7, .int x38), (4, .int x35), (6, .int x15), (0, .ref h0), (2, .int x_1), (3, .ref h3)] := hl
                        refine lv_goto (tgt := 6) hx hb dX3_run_417 (by decide) ?_
                        exact ih_6 G75 hM _ _ hB a_h0 a_h3 x35 (i_x35.wk (by decide)) x77 (i_x77.wk (by decide)) (iv_mup (c := 1) i_x2 (by decide) (by decide) (by omega) hn_6) _ (lv_sub hl [0, 3, 5, 6, 7] rfl)
                    skip
                    by_cases w78 : x15.toInt = 62
                    · skip
                      refine lv_lookup (off := 167) (tgt := 359) hx hb dX3_run_192 (by decide) (by rw [w78]; (try rfl)) (by decide) ?_
                      have w78i : iv_R 62 62 x15 := iv_lit w78
                      refine lv_aload_n hx hb dX3_run_359 rfl (lv_at hl 5 rfl) ?_
                      refine iv_getr0 X ft_X3 hB a_h0 sh_3 6 (by decide) rfl k_fl_X3_11 dX3_run_360 e_b36 ?_
                      refine lv_iload hx hb dX3_run_363 (lv_at hl 2 rfl) ?_
                      refine lv_iconst (v := 1) hx hb dX3_run_365 (by decide) ?_
                      refine iv_isub hx hb i_x35 q_1 (lo := 0) (hi := 37) (by decide) dX3_run_366 (fun x79 e_x79 i_x79 => ?_)
                      refine lv_iload hx hb dX3_run_367 (lv_at hl 1 rfl) ?_
                      refine lv_iload hx hb dX3_run_369 (lv_at hl 0 rfl) ?_
                      refine lv_icmp_le (tgt := 378) hx hb dX3_run_371 (by decide) (fun c80 => ?_) (fun c80 => ?_)
                      · skip
                        refine lv_iconst (v := 0) hx hb dX3_run_378 (by decide) ?_
                        refine iv_ast X hB a_b36 sh_28 (iv_in i_x79 (by decide)) (q_0.wk (by decide)) dX3_run_379 (fun H locs hB => ?_)
                        have hm := iv_Md.ast (j := x79.toNatClampNeg) (x := 0) a_b36 rfl (by decide)
                        have h9 := iv_up_eq (G := G3) (a := b36) (k := (28, upd g_b36 x79.toNatClampNeg 0, r_b36))
                        generalize iv_up G3 b36 _ = G81 at hB hm h9
                        have hM := hM.stp hm (by decide)
                        have a_h0 := hm.at a_h0 (by decide)
                        have a_h3 := hm.at a_h3 (by decide)
                        refine lv_goto (tgt := 414) hx hb dX3_run_380 (by decide) ?_
                        refine iv_iinc hx hb i6_x2 (lo := 1) (hi := 1023) (by decide) dX3_run_414 hl (k := 4) rfl (by decide) (fun x83 ls e_x83 i_x83 hl => ?_)
                        have hl : lv_has ls 9 [(5, .int x83), (8, .int x39), (7, .int x38), (4, .int x35), (6, .int x15), (0, .ref h0), (2, .int x_1), (3, .ref h3)] := hl
                        refine lv_goto (tgt := 6) hx hb dX3_run_417 (by decide) ?_
                        exact ih_6 G81 hM _ _ hB a_h0 a_h3 x35 (i_x35.wk (by decide)) x83 (i_x83.wk (by decide)) (iv_mup (c := 1) i_x2 (by decide) (by decide) (by omega) hn_6) _ (lv_sub hl [0, 3, 5, 6, 7] rfl)
                      · skip
                        have i83_x39 : iv_R (-2147483648) 2147483646 x39 := (i_x39.cutHi (n := 2147483646) (iv_lt_r (iv_nle c80) i_x38 (by decide)))
                        have i84_x38 : iv_R (-2147483647) 2147483647 x38 := (i_x38.cutLo (n := (-2147483647)) (iv_lt_l (iv_nle c80) i_x39 (by decide)))
                        refine lv_iconst (v := 1) hx hb dX3_run_374 (by decide) ?_
                        refine lv_goto (tgt := 379) hx hb dX3_run_375 (by decide) ?_
                        refine iv_ast X hB a_b36 sh_28 (iv_in i_x79 (by decide)) (q_1.wk (by decide)) dX3_run_379 (fun H locs hB => ?_)
                        have hm := iv_Md.ast (j := x79.toNatClampNeg) (x := 1) a_b36 rfl (by decide)
                        have h9 := iv_up_eq (G := G3) (a := b36) (k := (28, upd g_b36 x79.toNatClampNeg 1, r_b36))
                        generalize iv_up G3 b36 _ = G86 at hB hm h9
                        have hM := hM.stp hm (by decide)
                        have a_h0 := hm.at a_h0 (by decide)
                        have a_h3 := hm.at a_h3 (by decide)
                        refine lv_goto (tgt := 414) hx hb dX3_run_380 (by decide) ?_
                        refine iv_iinc hx hb i6_x2 (lo := 1) (hi := 1023) (by decide) dX3_run_414 hl (k := 4) rfl (by decide) (fun x88 ls e_x88 i_x88 hl => ?_)
                        have hl : lv_has ls 9 [(5, .int x88), (8, .int x39), (7, .int x38), (4, .int x35), (6, .int x15), (0, .ref h0), (2, .int x_1), (3, .ref h3)] := hl
                        refine lv_goto (tgt := 6) hx hb dX3_run_417 (by decide) ?_
                        exact ih_6 G86 hM _ _ hB a_h0 a_h3 x35 (i_x35.wk (by decide)) x88 (i_x88.wk (by decide)) (iv_mup (c := 1) i_x2 (by decide) (by decide) (by omega) hn_6) _ (lv_sub hl [0, 3, 5, 6, 7] rfl)
                    skip
                    by_cases w89 : x15.toInt = 136
                    · skip
                      refine lv_lookup (off := 191) (tgt := 383) hx hb dX3_run_192 (by decide) (by rw [w89]; (try rfl)) (by decide) ?_
                      have w89i : iv_R 136 136 x15 := iv_lit w89
                      refine lv_aload_n hx hb dX3_run_383 rfl (lv_at hl 5 rfl) ?_
                      refine iv_getr0 X ft_X3 hB a_h0 sh_3 6 (by decide) rfl k_fl_X3_11 dX3_run_384 e_b36 ?_
                      refine lv_iload hx hb dX3_run_387 (lv_at hl 2 rfl) ?_
                      refine lv_iconst (v := 1) hx hb dX3_run_389 (by decide) ?_
                      refine iv_isub hx hb i_x35 q_1 (lo := 0) (hi := 37) (by decide) dX3_run_390 (fun x90 e_x90 i_x90 => ?_)
                      refine lv_iload hx hb dX3_run_391 (lv_at hl 1 rfl) ?_
                      refine lv_iload hx hb dX3_run_393 (lv_at hl 0 rfl) ?_
                      refine lv_iand hx hb dX3_run_395 ?_
                      refine lv_topi (fun x91 e_x91 => ?_)
                      have i_x91 := iv_R.all x91
                      refine iv_ast X hB a_b36 sh_28 (iv_in i_x90 (by decide)) i_x91 dX3_run_396 (fun H locs hB => ?_)
                      have hm := iv_Md.ast (j := x90.toNatClampNeg) (x := x91) a_b36 rfl (by decide)
                      have h9 := iv_up_eq (G := G3) (a := b36) (k := (28, upd g_b36 x90.toNatClampNeg x91, r_b36))
                      generalize iv_up G3 b36 _ = G92 at hB hm h9
                      have hM := hM.stp hm (by decide)
                      have a_h0 := hm.at a_h0 (by decide)
                      have a_h3 := hm.at a_h3 (by decide)
                      refine lv_goto (tgt := 414) hx hb dX3_run_397 (by decide) ?_
                      refine iv_iinc hx hb i6_x2 (lo := 1) (hi := 1023) (by decide) dX3_run_414 hl (k := 4) rfl (by decide) (fun x94 ls e_x94 i_x94 hl => ?_)
                      have hl : lv_has ls 9 [(5, .int x94), (8, .int x39), (7, .int x38), (4, .int x35), (6, .int x15), (0, .ref h0), (2, .int x_1), (3, .ref h3)] := hl
                      refine lv_goto (tgt := 6) hx hb dX3_run_417 (by decide) ?_
                      exact ih_6 G92 hM _ _ hB a_h0 a_h3 x35 (i_x35.wk (by decide)) x94 (i_x94.wk (by decide)) (iv_mup (c := 1) i_x2 (by decide) (by decide) (by omega) hn_6) _ (lv_sub hl [0, 3, 5, 6, 7] rfl)
                    skip
                    refine lv_lookup (off := 208) (tgt := 400) hx hb dX3_run_192 (by decide) (by simp [Op.lookupswitch.offset, List.find?, w40, Ne.symm w40, w46, Ne.symm w46, w52, Ne.symm w52, w58, Ne.symm w58, w69, Ne.symm w69, w78, Ne.symm w78, w89, Ne.symm w89]) (by decide) ?_
                    refine lv_aload_n hx hb dX3_run_400 rfl (lv_at hl 5 rfl) ?_
                    refine iv_getr0 X ft_X3 hB a_h0 sh_3 6 (by decide) rfl k_fl_X3_11 dX3_run_401 e_b36 ?_
                    refine lv_iload hx hb dX3_run_404 (lv_at hl 2 rfl) ?_
                    refine lv_iconst (v := 1) hx hb dX3_run_406 (by decide) ?_
                    refine iv_isub hx hb i_x35 q_1 (lo := 0) (hi := 37) (by decide) dX3_run_407 (fun x95 e_x95 i_x95 => ?_)
                    refine lv_iload hx hb dX3_run_408 (lv_at hl 1 rfl) ?_
                    refine lv_iload hx hb dX3_run_410 (lv_at hl 0 rfl) ?_
                    refine lv_ior hx hb dX3_run_412 ?_
                    refine lv_topi (fun x96 e_x96 => ?_)
                    have i_x96 := iv_R.all x96
                    refine iv_ast X hB a_b36 sh_28 (iv_in i_x95 (by decide)) i_x96 dX3_run_413 (fun H locs hB => ?_)
                    have hm := iv_Md.ast (j := x95.toNatClampNeg) (x := x96) a_b36 rfl (by decide)
                    have h9 := iv_up_eq (G := G3) (a := b36) (k := (28, upd g_b36 x95.toNatClampNeg x96, r_b36))
                    generalize iv_up G3 b36 _ = G97 at hB hm h9
                    have hM := hM.stp hm (by decide)
                    have a_h0 := hm.at a_h0 (by decide)
                    have a_h3 := hm.at a_h3 (by decide)
                    refine iv_iinc hx hb i6_x2 (lo := 1) (hi := 1023) (by decide) dX3_run_414 hl (k := 4) rfl (by decide) (fun x99 ls e_x99 i_x99 hl => ?_)
                    have hl : lv_has ls 9 [(5, .int x99), (8, .int x39), (7, .int x38), (4, .int x35), (6, .int x15), (0, .ref h0), (2, .int x_1), (3, .ref h3)] := hl
                    refine lv_goto (tgt := 6) hx hb dX3_run_417 (by decide) ?_
                    exact ih_6 G97 hM _ _ hB a_h0 a_h3 x35 (i_x35.wk (by decide)) x99 (i_x99.wk (by decide)) (iv_mup (c := 1) i_x2 (by decide) (by decide) (by omega) hn_6) _ (lv_sub hl [0, 3, 5, 6, 7] rfl)
                · skip
                  have i99_x15 : iv_R 47 47 x15 := ((i28_x15.cutLo (n := 47) (iv_eq_r c30 q_47).1).cutHi (n := 47) (iv_eq_r c30 q_47).2)
                  refine lv_iload hx hb dX3_run_123 (lv_at hl 2 rfl) ?_
                  refine lv_iconst (v := 1) hx hb dX3_run_125 (by decide) ?_
                  refine lv_icmp_lt (tgt := 161) hx hb dX3_run_126 (by decide) (fun c101 => ?_) (fun c101 => ?_)
                  · skip
                    have i101_x1 : iv_R 0 0 x1 := (i12_x1.cutHi (n := 0) (iv_lt_r c101 q_1 (by decide)))
                    refine lv_iload hx hb dX3_run_161 (lv_at hl 2 rfl) ?_
                    refine lv_iconst (v := 2) hx hb dX3_run_163 (by decide) ?_
                    refine lv_icmp_lt (tgt := 414) hx hb dX3_run_164 (by decide) (fun c103 => ?_) (fun c103 => ?_)
                    · skip
                      refine iv_iinc hx hb i6_x2 (lo := 1) (hi := 1023) (by decide) dX3_run_414 hl (k := 1) rfl (by decide) (fun x104 ls e_x104 i_x104 hl => ?_)
                      have hl : lv_has ls 9 [(5, .int x104), (6, .int x15), (4, .int x1), (0, .ref h0), (2, .int x_1), (3, .ref h3)] := hl
                      refine lv_goto (tgt := 6) hx hb dX3_run_417 (by decide) ?_
                      exact ih_6 G3 hM _ _ hB a_h0 a_h3 x1 (i101_x1.wk (by decide)) x104 (i_x104.wk (by decide)) (iv_mup (c := 1) i_x2 (by decide) (by decide) (by omega) hn_6) _ (lv_sub hl [0, 2, 3, 4, 5] rfl)
                    · skip
                      exact (q_2.cutHi (n := 0) (iv_le_r (iv_nlt c103) i101_x1)).no (by decide)
                  · skip
                    have i104_x1 : iv_R 1 39 x1 := (i12_x1.cutLo (n := 1) (iv_le_l (iv_nlt c101) q_1))
                    refine lv_aload_n hx hb dX3_run_129 rfl (lv_at hl 3 rfl) ?_
                    refine iv_getr X ft_X3 hB a_h0 sh_3 5 (by decide) rfl k_fl_X3_37 dX3_run_130 (fun b106 g_b106 r_b106 e_b106 a_b106 => ?_)
                    refine lv_iload hx hb dX3_run_133 (lv_at hl 1 rfl) ?_
                    refine iv_ald X hB a_b106 (sh_l4 r_h0) (iv_inU i6_x2 (by decide) (by have w1 := iv_ltU (iv_nle c4) u_x_1; omega)) dX3_run_135 (fun x107 e_x107 k_x107 => ?_)
                    refine lv_if_eq (tgt := 161) hx hb dX3_run_136 (by decide) (fun c108 => ?_) (fun c108 => ?_)
                    · skip
                      have i108_x107 : iv_R 0 0 x107 := ((k_x107.cutLo (n := 0) (iv_eq_r c108 q_0).1).cutHi (n := 0) (iv_eq_r c108 q_0).2)
                      refine lv_iload hx hb dX3_run_161 (lv_at hl 2 rfl) ?_
                      refine lv_iconst (v := 2) hx hb dX3_run_163 (by decide) ?_
                      refine lv_icmp_lt (tgt := 414) hx hb dX3_run_164 (by decide) (fun c110 => ?_) (fun c110 => ?_)
                      · skip
                        have i110_x1 : iv_R 1 1 x1 := (i104_x1.cutHi (n := 1) (iv_lt_r c110 q_2 (by decide)))
                        refine iv_iinc hx hb i6_x2 (lo := 1) (hi := 1023) (by decide) dX3_run_414 hl (k := 1) rfl (by decide) (fun x112 ls e_x112 i_x112 hl => ?_)
                        have hl : lv_has ls 9 [(5, .int x112), (6, .int x15), (4, .int x1), (0, .ref h0), (2, .int x_1), (3, .ref h3)] := hl
                        refine lv_goto (tgt := 6) hx hb dX3_run_417 (by decide) ?_
                        exact ih_6 G3 hM _ _ hB a_h0 a_h3 x1 (i110_x1.wk (by decide)) x112 (i_x112.wk (by decide)) (iv_mup (c := 1) i_x2 (by decide) (by decide) (by omega) hn_6) _ (lv_sub hl [0, 2, 3, 4, 5] rfl)
                      · skip
                        have i112_x1 : iv_R 2 39 x1 := (i104_x1.cutLo (n := 2) (iv_le_l (iv_nlt c110) q_2))
                        refine iv_iinc hx hb i112_x1 (lo := 1) (hi := 38) (by decide) dX3_run_167 hl (k := 2) rfl (by decide) (fun x114 ls e_x114 i_x114 hl => ?_)
                        have hl : lv_has ls 9 [(4, .int x114), (6, .int x15), (5, .int x2), (0, .ref h0), (2, .int x_1), (3, .ref h3)] := hl
                        refine lv_aload_n hx hb dX3_run_170 rfl (lv_at hl 3 rfl) ?_
                        refine iv_getr X ft_X3 hB a_h0 sh_3 6 (by decide) rfl k_fl_X3_11 dX3_run_171 (fun b115 g_b115 r_b115 e_b115 a_b115 => ?_)
                        refine lv_iload hx hb dX3_run_174 (lv_at hl 0 rfl) ?_
                        refine lv_iconst (v := 1) hx hb dX3_run_176 (by decide) ?_
                        refine iv_isub hx hb i_x114 q_1 (lo := 0) (hi := 37) (by decide) dX3_run_177 (fun x116 e_x116 i_x116 => ?_)
                        refine iv_ald X hB a_b115 sh_28 (iv_in i_x116 (by decide)) dX3_run_178 (fun x117 e_x117 i_x117 => ?_)
                        refine lv_istore (lv' := [(7, .int x117), (4, .int x114), (6, .int x15), (5, .int x2), (0, .ref h0), (2, .int x_1), (3, .ref h3)]) hx hb dX3_run_179 hl (by decide) rfl (fun ls hl => ?_)
                        refine lv_aload_n hx hb dX3_run_181 rfl (lv_at hl 4 rfl) ?_
                        refine iv_getr0 X ft_X3 hB a_h0 sh_3 6 (by decide) rfl k_fl_X3_11 dX3_run_182 e_b115 ?_
                        refine lv_iload hx hb dX3_run_185 (lv_at hl 1 rfl) ?_
                        refine iv_ald X hB a_b115 sh_28 (iv_in i_x114 (by decide)) dX3_run_187 (fun x118 e_x118 i_x118 => ?_)
                        refine lv_istore (lv' := [(8, .int x118), (7, .int x117), (4, .int x114), (6, .int x15), (5, .int x2), (0, .ref h0), (2, .int x_1), (3, .ref h3)]) hx hb dX3_run_188 hl (by decide) rfl (fun ls hl => ?_)
                        refine lv_iload hx hb dX3_run_190 (lv_at hl 3 rfl) ?_
                        have w119 : ¬ x15.toInt = 42 := by have w1 := i99_x15.1; have w2 := i99_x15.2; omega
                        have w120 : ¬ x15.toInt = 43 := by have w1 := i99_x15.1; have w2 := i99_x15.2; omega
                        have w121 : ¬ x15.toInt = 45 := by have w1 := i99_x15.1; have w2 := i99_x15.2; omega
                        have w122 : ¬ x15.toInt = 60 := by have w1 := i99_x15.1; have w2 := i99_x15.2; omega
                        have w123 : ¬ x15.toInt = 61 := by have w1 := i99_x15.1; have w2 := i99_x15.2; omega
                        have w124 : ¬ x15.toInt = 62 := by have w1 := i99_x15.1; have w2 := i99_x15.2; omega
                        have w125 : ¬ x15.toInt = 136 := by have w1 := i99_x15.1; have w2 := i99_x15.2; omega
                        refine lv_lookup (off := 208) (tgt := 400) hx hb dX3_run_192 (by decide) (by simp [Op.lookupswitch.offset, List.find?, w119, Ne.symm w119, w120, Ne.symm w120, w121, Ne.symm w121, w122, Ne.symm w122, w123, Ne.symm w123, w124, Ne.symm w124, w125, Ne.symm w125]) (by decide) ?_
                        refine lv_aload_n hx hb dX3_run_400 rfl (lv_at hl 5 rfl) ?_
                        refine iv_getr0 X ft_X3 hB a_h0 sh_3 6 (by decide) rfl k_fl_X3_11 dX3_run_401 e_b115 ?_
                        refine lv_iload hx hb dX3_run_404 (lv_at hl 2 rfl) ?_
                        refine lv_iconst (v := 1) hx hb dX3_run_406 (by decide) ?_
                        refine iv_isub hx hb i_x114 q_1 (lo := 0) (hi := 37) (by decide) dX3_run_407 (fun x126 e_x126 i_x126 => ?_)
                        refine lv_iload hx hb dX3_run_408 (lv_at hl 1 rfl) ?_
                        refine lv_iload hx hb dX3_run_410 (lv_at hl 0 rfl) ?_
                        refine lv_ior hx hb dX3_run_412 ?_
                        refine lv_topi (fun x127 e_x127 => ?_)
                        have i_x127 := iv_R.all x127
                        refine iv_ast X hB a_b115 sh_28 (iv_in i_x126 (by decide)) i_x127 dX3_run_413 (fun H locs hB => ?_)
                        have hm := iv_Md.ast (j := x126.toNatClampNeg) (x := x127) a_b115 rfl (by decide)
                        have h9 := iv_up_eq (G := G3) (a := b115) (k := (28, upd g_b115 x126.toNatClampNeg x127, r_b115))
                        generalize iv_up G3 b115 _ = G128 at hB hm h9
                        have hM := hM.stp hm (by decide)
                        have a_h0 := hm.at a_h0 (by decide)
                        have a_h3 := hm.at a_h3 (by decide)
                        refine iv_iinc hx hb i6_x2 (lo := 1) (hi := 1023) (by decide) dX3_run_414 hl (k := 4) rfl (by decide) (fun x130 ls e_x130 i_x130 hl => ?_)
                        have hl : lv_has ls 9 [(5, .int x130), (8, .int x118), (7, .int x117), (4, .int x114), (6, .int x15), (0, .ref h0), (2, .int x_1), (3, .ref h3)] := hl
                        refine lv_goto (tgt := 6) hx hb dX3_run_417 (by decide) ?_
                        exact ih_6 G128 hM _ _ hB a_h0 a_h3 x114 (i_x114.wk (by decide)) x130 (i_x130.wk (by decide)) (iv_mup (c := 1) i_x2 (by decide) (by decide) (by omega) hn_6) _ (lv_sub hl [0, 3, 5, 6, 7] rfl)
                    · skip
                      refine lv_aload_n hx hb dX3_run_139 rfl (lv_at hl 3 rfl) ?_
                      refine iv_getr X ft_X3 hB a_h0 sh_3 6 (by decide) rfl k_fl_X3_11 dX3_run_140 (fun b131 g_b131 r_b131 e_b131 a_b131 => ?_)
                      refine lv_iload hx hb dX3_run_143 (lv_at hl 2 rfl) ?_
                      refine lv_iconst (v := 1) hx hb dX3_run_145 (by decide) ?_
                      refine iv_isub hx hb i104_x1 q_1 (lo := 0) (hi := 38) (by decide) dX3_run_146 (fun x132 e_x132 i_x132 => ?_)
                      refine lv_dup2_11 hx hb dX3_run_147 rfl rfl ?_
                      refine iv_ald X hB a_b131 sh_28 (iv_in i_x132 (by decide)) dX3_run_148 (fun x133 e_x133 i_x133 => ?_)
                      refine lv_aload_n hx hb dX3_run_149 rfl (lv_at hl 3 rfl) ?_
                      refine iv_getr0 X ft_X3 hB a_h0 sh_3 5 (by decide) rfl k_fl_X3_37 dX3_run_150 e_b106 ?_
                      refine lv_iload hx hb dX3_run_153 (lv_at hl 1 rfl) ?_
                      refine iv_ald X hB a_b106 (sh_l4 r_h0) (iv_inU i6_x2 (by decide) (by have w1 := iv_ltU (iv_nle c4) u_x_1; omega)) dX3_run_155 (fun x134 e_x134 k_x134 => ?_)
                      obtain rfl : x107 = x134 := e_x107.trans e_x134.symm
                      refine lv_idiv hx hb dX3_run_156 c108 ?_
                      refine lv_topi (fun x135 e_x135 => ?_)
                      have i_x135 := iv_R.all x135
                      refine iv_ast X hB a_b131 sh_28 (iv_in i_x132 (by decide)) i_x135 dX3_run_157 (fun H locs hB => ?_)
                      have hm := iv_Md.ast (j := x132.toNatClampNeg) (x := x135) a_b131 rfl (by decide)
                      have h9 := iv_up_eq (G := G3) (a := b131) (k := (28, upd g_b131 x132.toNatClampNeg x135, r_b131))
                      generalize iv_up G3 b131 _ = G136 at hB hm h9
                      have hM := hM.stp hm (by decide)
                      have a_h0 := hm.at a_h0 (by decide)
                      have a_h3 := hm.at a_h3 (by decide)
                      refine lv_goto (tgt := 414) hx hb dX3_run_158 (by decide) ?_
                      refine iv_iinc hx hb i6_x2 (lo := 1) (hi := 1023) (by decide) dX3_run_414 hl (k := 1) rfl (by decide) (fun x138 ls e_x138 i_x138 hl => ?_)
                      have hl : lv_has ls 9 [(5, .int x138), (6, .int x15), (4, .int x1), (0, .ref h0), (2, .int x_1), (3, .ref h3)] := hl
                      refine lv_goto (tgt := 6) hx hb dX3_run_417 (by decide) ?_
                      exact ih_6 G136 hM _ _ hB a_h0 a_h3 x1 (i104_x1.wk (by decide)) x138 (i_x138.wk (by decide)) (iv_mup (c := 1) i_x2 (by decide) (by decide) (by omega) hn_6) _ (lv_sub hl [0, 2, 3, 4, 5] rfl)
              · skip
                have i138_x15 : iv_R 137 137 x15 := (i26_x15.cutLo (n := 137) (iv_eq_r c28 q_137).1)
                refine lv_iload hx hb dX3_run_87 (lv_at hl 2 rfl) ?_
                refine lv_iconst (v := 1) hx hb dX3_run_89 (by decide) ?_
                refine lv_icmp_lt (tgt := 116) hx hb dX3_run_90 (by decide) (fun c140 => ?_) (fun c140 => ?_)
                · skip
                  have i140_x1 : iv_R 0 0 x1 := (i12_x1.cutHi (n := 0) (iv_lt_r c140 q_1 (by decide)))
                  refine lv_iload hx hb dX3_run_116 (lv_at hl 0 rfl) ?_
                  refine lv_bipush (v := 47) hx hb dX3_run_118 (by decide) ?_
                  refine lv_icmp_ne (tgt := 161) hx hb dX3_run_120 (by decide) (fun c142 => ?_) (fun c142 => ?_)
                  · skip
                    refine lv_iload hx hb dX3_run_161 (lv_at hl 2 rfl) ?_
                    refine lv_iconst (v := 2) hx hb dX3_run_163 (by decide) ?_
                    refine lv_icmp_lt (tgt := 414) hx hb dX3_run_164 (by decide) (fun c143 => ?_) (fun c143 => ?_)
                    · skip
                      refine iv_iinc hx hb i6_x2 (lo := 1) (hi := 1023) (by decide) dX3_run_414 hl (k := 1) rfl (by decide) (fun x144 ls e_x144 i_x144 hl => ?_)
                      have hl : lv_has ls 9 [(5, .int x144), (6, .int x15), (4, .int x1), (0, .ref h0), (2, .int x_1), (3, .ref h3)] := hl
                      refine lv_goto (tgt := 6) hx hb dX3_run_417 (by decide) ?_
                      exact ih_6 G3 hM _ _ hB a_h0 a_h3 x1 (i140_x1.wk (by decide)) x144 (i_x144.wk (by decide)) (iv_mup (c := 1) i_x2 (by decide) (by decide) (by omega) hn_6) _ (lv_sub hl [0, 2, 3, 4, 5] rfl)
                    · skip
                      exact (q_2.cutHi (n := 0) (iv_le_r (iv_nlt c143) i140_x1)).no (by decide)
                  · skip
                    exact (i138_x15.cutHi (n := 47) (iv_eq_r c142 q_47).2).no (by decide)
                · skip
                  have i144_x1 : iv_R 1 39 x1 := (i12_x1.cutLo (n := 1) (iv_le_l (iv_nlt c140) q_1))
                  refine lv_aload_n hx hb dX3_run_93 rfl (lv_at hl 3 rfl) ?_
                  refine iv_getr X ft_X3 hB a_h0 sh_3 6 (by decide) rfl k_fl_X3_11 dX3_run_94 (fun b146 g_b146 r_b146 e_b146 a_b146 => ?_)
                  refine lv_iload hx hb dX3_run_97 (lv_at hl 2 rfl) ?_
                  refine lv_iconst (v := 1) hx hb dX3_run_99 (by decide) ?_
                  refine iv_isub hx hb i144_x1 q_1 (lo := 0) (hi := 38) (by decide) dX3_run_100 (fun x147 e_x147 i_x147 => ?_)
                  refine lv_iconst (v := 1) hx hb dX3_run_101 (by decide) ?_
                  refine lv_aload_n hx hb dX3_run_102 rfl (lv_at hl 3 rfl) ?_
                  refine iv_getr0 X ft_X3 hB a_h0 sh_3 6 (by decide) rfl k_fl_X3_11 dX3_run_103 e_b146 ?_
                  refine lv_iload hx hb dX3_run_106 (lv_at hl 2 rfl) ?_
                  refine lv_iconst (v := 1) hx hb dX3_run_108 (by decide) ?_
                  refine iv_isub hx hb i144_x1 q_1 (lo := 0) (hi := 38) (by decide) dX3_run_109 (fun x148 e_x148 i_x148 => ?_)
                  refine iv_ald X hB a_b146 sh_28 (iv_in i_x148 (by decide)) dX3_run_110 (fun x149 e_x149 i_x149 => ?_)
                  refine lv_isub hx hb dX3_run_111 ?_
                  refine lv_topi (fun x150 e_x150 => ?_)
                  have i_x150 := iv_R.all x150
                  refine iv_ast X hB a_b146 sh_28 (iv_in i_x147 (by decide)) i_x150 dX3_run_112 (fun H locs hB => ?_)
                  have hm := iv_Md.ast (j := x147.toNatClampNeg) (x := x150) a_b146 rfl (by decide)
                  have h9 := iv_up_eq (G := G3) (a := b146) (k := (28, upd g_b146 x147.toNatClampNeg x150, r_b146))
                  generalize iv_up G3 b146 _ = G151 at hB hm h9
                  have hM := hM.stp hm (by decide)
                  have a_h0 := hm.at a_h0 (by decide)
                  have a_h3 := hm.at a_h3 (by decide)
                  refine lv_goto (tgt := 414) hx hb dX3_run_113 (by decide) ?_
                  refine iv_iinc hx hb i6_x2 (lo := 1) (hi := 1023) (by decide) dX3_run_414 hl (k := 1) rfl (by decide) (fun x153 ls e_x153 i_x153 hl => ?_)
                  have hl : lv_has ls 9 [(5, .int x153), (6, .int x15), (4, .int x1), (0, .ref h0), (2, .int x_1), (3, .ref h3)] := hl
                  refine lv_goto (tgt := 6) hx hb dX3_run_417 (by decide) ?_
                  exact ih_6 G151 hM _ _ hB a_h0 a_h3 x1 (i144_x1.wk (by decide)) x153 (i_x153.wk (by decide)) (iv_mup (c := 1) i_x2 (by decide) (by decide) (by omega) hn_6) _ (lv_sub hl [0, 2, 3, 4, 5] rfl)
            · skip
              have i153_x15 : iv_R 138 148 x15 := (k_x15.cutLo (n := 138) (iv_le_l (iv_nlt c26) q_138))
              refine lv_aload_n hx hb dX3_run_42 rfl (lv_at hl 3 rfl) ?_
              refine iv_getr X ft_X3 hB a_h0 sh_3 6 (by decide) rfl k_fl_X3_11 dX3_run_43 (fun b155 g_b155 r_b155 e_b155 a_b155 => ?_)
              refine lv_iload hx hb dX3_run_46 (lv_at hl 2 rfl) ?_
              refine lv_iload hx hb dX3_run_48 (lv_at hl 0 rfl) ?_
              refine lv_iconst (v := 2) hx hb dX3_run_50 (by decide) ?_
              refine lv_icmp_ne (tgt := 64) hx hb dX3_run_51 (by decide) (fun c156 => ?_) (fun c156 => ?_)
              · skip
                refine lv_aload_n hx hb dX3_run_64 rfl (lv_at hl 5 rfl) ?_
                refine lv_iload hx hb dX3_run_65 (lv_at hl 0 rfl) ?_
                refine lv_sipush (v := 138) hx hb dX3_run_67 (by decide) ?_
                refine iv_isub hx hb i153_x15 q_138 (lo := 0) (hi := 10) (by decide) dX3_run_70 (fun x157 e_x157 i_x157 => ?_)
                refine iv_ald X hB a_h3 sh_30 (iv_in i_x157 (by decide)) dX3_run_71 (fun x158 e_x158 i_x158 => ?_)
                refine iv_ast X hB a_b155 sh_28 (iv_in i12_x1 (by decide)) i_x158 dX3_run_72 (fun H locs hB => ?_)
                have hm := iv_Md.ast (j := x1.toNatClampNeg) (x := x158) a_b155 rfl (by decide)
                have h9 := iv_up_eq (G := G3) (a := b155) (k := (28, upd g_b155 x1.toNatClampNeg x158, r_b155))
                generalize iv_up G3 b155 _ = G159 at hB hm h9
                have hM := hM.stp hm (by decide)
                have a_h0 := hm.at a_h0 (by decide)
                have a_h3 := hm.at a_h3 (by decide)
                refine iv_iinc hx hb i12_x1 (lo := 1) (hi := 40) (by decide) dX3_run_73 hl (k := 2) rfl (by decide) (fun x161 ls e_x161 i_x161 hl => ?_)
                have hl : lv_has ls 9 [(4, .int x161), (6, .int x15), (5, .int x2), (0, .ref h0), (2, .int x_1), (3, .ref h3)] := hl
                refine lv_goto (tgt := 414) hx hb dX3_run_76 (by decide) ?_
                refine iv_iinc hx hb i6_x2 (lo := 1) (hi := 1023) (by decide) dX3_run_414 hl (k := 2) rfl (by decide) (fun x162 ls e_x162 i_x162 hl => ?_)
                have hl : lv_has ls 9 [(5, .int x162), (4, .int x161), (6, .int x15), (0, .ref h0), (2, .int x_1), (3, .ref h3)] := hl
                refine lv_goto (tgt := 6) hx hb dX3_run_417 (by decide) ?_
                exact ih_6 G159 hM _ _ hB a_h0 a_h3 x161 (i_x161.wk (by decide)) x162 (i_x162.wk (by decide)) (iv_mup (c := 1) i_x2 (by decide) (by decide) (by omega) hn_6) _ (lv_sub hl [0, 1, 3, 4, 5] rfl)
              · skip
                exact absurd c156 c16
  exact L_6 _ G hM _ _ hB a_h0 a_h3 0 (q_0.wk (by decide)) x_0 i_x_0 (Nat.lt_succ_self _) _ (lv_sub hl [0, 1, 2, 4, 5] rfl)
theorem dX3_answer_0 : decode cX3_answer 0 = .ok (.iconst 0, 1) := by decide +kernel
theorem dX3_answer_1 : decode cX3_answer 1 = .ok (.istore 4, 2) := by decide +kernel
theorem dX3_answer_3 : decode cX3_answer 3 = .ok (.iload 4, 2) := by decide +kernel
theorem dX3_answer_5 : decode cX3_answer 5 = .ok (.aload_n 0, 1) := by decide +kernel
theorem dX3_answer_6 : decode cX3_answer 6 = .ok (.getfield 15, 3) := by decide +kernel
theorem dX3_answer_9 : decode cX3_answer 9 = .ok (.if_icmp .ge 95, 3) := by decide +kernel
theorem dX3_answer_12 : decode cX3_answer 12 = .ok (.aload_n 0, 1) := by decide +kernel
theorem dX3_answer_13 : decode cX3_answer 13 = .ok (.getfield 25, 3) := by decide +kernel
theorem dX3_answer_16 : decode cX3_answer 16 = .ok (.iload 4, 2) := by decide +kernel
theorem dX3_answer_18 : decode cX3_answer 18 = .ok (.iaload, 1) := by decide +kernel
theorem dX3_answer_19 : decode cX3_answer 19 = .ok (.iload_n 1, 1) := by decide +kernel
theorem dX3_answer_20 : decode cX3_answer 20 = .ok (.if_icmp .ne 7, 3) := by decide +kernel
theorem dX3_answer_23 : decode cX3_answer 23 = .ok (.iconst 1, 1) := by decide +kernel
theorem dX3_answer_24 : decode cX3_answer 24 = .ok (.goto 4, 3) := by decide +kernel
theorem dX3_answer_27 : decode cX3_answer 27 = .ok (.iconst 0, 1) := by decide +kernel
theorem dX3_answer_28 : decode cX3_answer 28 = .ok (.istore 5, 2) := by decide +kernel
theorem dX3_answer_30 : decode cX3_answer 30 = .ok (.iload 5, 2) := by decide +kernel
theorem dX3_answer_32 : decode cX3_answer 32 = .ok (.ifCond .eq 66, 3) := by decide +kernel
theorem dX3_answer_35 : decode cX3_answer 35 = .ok (.aload_n 0, 1) := by decide +kernel
theorem dX3_answer_36 : decode cX3_answer 36 = .ok (.getfield 31, 3) := by decide +kernel
theorem dX3_answer_39 : decode cX3_answer 39 = .ok (.iload 4, 2) := by decide +kernel
theorem dX3_answer_41 : decode cX3_answer 41 = .ok (.iaload, 1) := by decide +kernel
theorem dX3_answer_42 : decode cX3_answer 42 = .ok (.aload_n 0, 1) := by decide +kernel
theorem dX3_answer_43 : decode cX3_answer 43 = .ok (.getfield 28, 3) := by decide +kernel
theorem dX3_answer_46 : decode cX3_answer 46 = .ok (.iload 4, 2) := by decide +kernel
theorem dX3_answer_48 : decode cX3_answer 48 = .ok (.iconst 1, 1) := by decide +kernel
theorem dX3_answer_49 : decode cX3_answer 49 = .ok (.iadd, 1) := by decide +kernel
theorem dX3_answer_50 : decode cX3_answer 50 = .ok (.iaload, 1) := by decide +kernel
theorem dX3_answer_51 : decode cX3_answer 51 = .ok (.if_icmp .eq 27, 3) := by decide +kernel
theorem dX3_answer_54 : decode cX3_answer 54 = .ok (.aload_n 0, 1) := by decide +kernel
theorem dX3_answer_55 : decode cX3_answer 55 = .ok (.aload_n 0, 1) := by decide +kernel
theorem dX3_answer_56 : decode cX3_answer 56 = .ok (.getfield 31, 3) := by decide +kernel
theorem dX3_answer_59 : decode cX3_answer 59 = .ok (.iload 4, 2) := by decide +kernel
theorem dX3_answer_61 : decode cX3_answer 61 = .ok (.iaload, 1) := by decide +kernel
theorem dX3_answer_62 : decode cX3_answer 62 = .ok (.aload_n 0, 1) := by decide +kernel
theorem dX3_answer_63 : decode cX3_answer 63 = .ok (.getfield 28, 3) := by decide +kernel
theorem dX3_answer_66 : decode cX3_answer 66 = .ok (.iload 4, 2) := by decide +kernel
theorem dX3_answer_68 : decode cX3_answer 68 = .ok (.iconst 1, 1) := by decide +kernel
theorem dX3_answer_69 : decode cX3_answer 69 = .ok (.iadd, 1) := by decide +kernel
theorem dX3_answer_70 : decode cX3_answer 70 = .ok (.iaload, 1) := by decide +kernel
theorem dX3_answer_71 : decode cX3_answer 71 = .ok (.aload_n 2, 1) := by decide +kernel
theorem dX3_answer_72 : decode cX3_answer 72 = .ok (.invokevirtual 43, 3) := by decide +kernel
theorem dX3_answer_75 : decode cX3_answer 75 = .ok (.ifCond .eq 23, 3) := by decide +kernel
theorem dX3_answer_78 : decode cX3_answer 78 = .ok (.aload_n 0, 1) := by decide +kernel
theorem dX3_answer_79 : decode cX3_answer 79 = .ok (.aload_n 0, 1) := by decide +kernel
theorem dX3_answer_80 : decode cX3_answer 80 = .ok (.getfield 28, 3) := by decide +kernel
theorem dX3_answer_83 : decode cX3_answer 83 = .ok (.iload 4, 2) := by decide +kernel
theorem dX3_answer_85 : decode cX3_answer 85 = .ok (.iaload, 1) := by decide +kernel
theorem dX3_answer_86 : decode cX3_answer 86 = .ok (.aload_n 0, 1) := by decide +kernel
theorem dX3_answer_87 : decode cX3_answer 87 = .ok (.getfield 31, 3) := by decide +kernel
theorem dX3_answer_90 : decode cX3_answer 90 = .ok (.iload 4, 2) := by decide +kernel
theorem dX3_answer_92 : decode cX3_answer 92 = .ok (.iaload, 1) := by decide +kernel
theorem dX3_answer_93 : decode cX3_answer 93 = .ok (.aload_n 2, 1) := by decide +kernel
theorem dX3_answer_94 : decode cX3_answer 94 = .ok (.invokevirtual 43, 3) := by decide +kernel
theorem dX3_answer_97 : decode cX3_answer 97 = .ok (.ireturn, 1) := by decide +kernel
theorem dX3_answer_98 : decode cX3_answer 98 = .ok (.iinc 4 1, 3) := by decide +kernel
theorem dX3_answer_101 : decode cX3_answer 101 = .ok (.goto (-98), 3) := by decide +kernel
theorem dX3_answer_104 : decode cX3_answer 104 = .ok (.iload_n 3, 1) := by decide +kernel
theorem dX3_answer_105 : decode cX3_answer 105 = .ok (.ireturn, 1) := by decide +kernel
set_option maxHeartbeats 4000000 in
set_option maxRecDepth 100000 in
theorem c_X3_answer (l : Launch) (D : va_G) (tys : List (ClassId × FieldType)) (base : Nat) (G : iv_G) (h0 : Nat) (g_h0 : Nat → Int32) (r_h0 : Nat → Nat) (a_h0 : G h0 = some (3, g_h0, r_h0)) (x_0 : Int32) (i_x_0 : iv_R 131 133 x_0) (h2 : Nat) (g_h2 : Nat → Int32) (r_h2 : Nat → Nat) (a_h2 : G h2 = some (30, g_h2, r_h2)) (x_2 : Int32) (i_x_2 : iv_R (-2147483648) 2147483647 x_2) : Met l yX3_answer (Cond.code yX3_answer cX3_answer 6 (some .int) :: iv_W0) ({ frames := 1, cells := 0, slots := 0, locals := 28 }) (iv_Pc iv_sh D classes tys base G [.ref h0, .int x_0, .ref h2, .int x_2]) (iv_Qi iv_sh D classes tys base (fun v G' => iv_Md [28] G G' ∧ iv_R (-2147483648) 2147483647 v)) 0 0 (iv_A base) := by
  refine iv_head (by decide) (Nat.le_of_ble_eq_true rfl) ?_
  intro p e s m args below meth c ls X hr hlocks hname hB hl
  have X := X
  have hx := X.1.1
  have hb := X.1.2.1
  have hM : iv_Md [28] G G := iv_Md.rf
  have hl : lv_has ls 6 [(0, .ref h0), (1, .int x_0), (2, .ref h2), (3, .int x_2)] := hl
  refine lv_iconst (v := 0) hx hb dX3_answer_0 (by decide) ?_
  refine lv_istore (lv' := [(4, .int 0), (0, .ref h0), (1, .int x_0), (2, .ref h2), (3, .int x_2)]) hx hb dX3_answer_1 hl (by decide) rfl (fun ls hl => ?_)
  have L_3 : ∀ (n_3 : Nat) (G2 : iv_G) (hM : iv_Md [28] G G2) (H : Heap) (locs : List Loc) (hB : iv_B iv_sh D classes tys base G2 s.heap H locs) (a_h0 : G2 h0 = some (3, g_h0, r_h0)) (a_h2 : G2 h2 = some (30, g_h2, r_h2)) (x1 : Int32) (i_x1 : iv_R 0 64 x1) (hn_3 : (65 - x1.toInt).toNat < n_3) (ls : Array Slot) (hl : lv_has ls 6 [(4, .int x1), (0, .ref h0), (1, .int x_0), (2, .ref h2), (3, .int x_2)]), W p l e ({ frames := 1, cells := 0, slots := 0, locals := 28 } : Room) s m args below meth c H locs 0 0 (MQ below (iv_Qi iv_sh D classes tys base (fun v G' => iv_Md [28] G G' ∧ iv_R (-2147483648) 2147483647 v)) args s 0 0 (iv_A base)) (F0 m 3 ls []) := by
    intro n_3
    induction n_3 with
    | zero => intro G2 hM H locs hB a_h0 a_h2 x1 i_x1 hn_3 ls hl; exact absurd hn_3 (Nat.not_lt_zero _)
    | succ n_3 ih_3 =>
      intro G2 hM H locs hB a_h0 a_h2 x1 i_x1 hn_3 ls hl
      refine lv_iload hx hb dX3_answer_3 (lv_at hl 0 rfl) ?_
      refine lv_aload_n hx hb dX3_answer_5 rfl (lv_at hl 1 rfl) ?_
      refine iv_geti X ft_X3 hB a_h0 sh_3 0 (by decide) rfl k_fl_X3_15 dX3_answer_6 (fun x3 e_x3 k_x3 => ?_)
      have k_x3 : iv_R ((r_h0 10 % 64 : Nat) : Int) ((r_h0 10 % 64 : Nat) : Int) x3 := k_x3
      have i_x3 : iv_R 0 63 x3 := k_x3.wk ⟨by omega, by omega⟩
      refine lv_icmp_ge (tgt := 104) hx hb dX3_answer_9 (by decide) (fun c4 => ?_) (fun c4 => ?_)
      · skip
        refine lv_iload_n hx hb dX3_answer_104 rfl (lv_at hl 4 rfl) ?_
        exact iv_iret X hr hlocks hB ⟨hM, i_x_2⟩ dX3_answer_105
      · skip
        have i4_x1 : iv_R 0 62 x1 := (i_x1.cutHi (n := 62) (iv_lt_r (iv_nle c4) i_x3 (by decide)))
        have i5_x3 : iv_R 1 63 x3 := (i_x3.cutLo (n := 1) (iv_lt_l (iv_nle c4) i_x1 (by decide)))
        refine lv_aload_n hx hb dX3_answer_12 rfl (lv_at hl 1 rfl) ?_
        refine iv_getr X ft_X3 hB a_h0 sh_3 1 (by decide) rfl k_fl_X3_25 dX3_answer_13 (fun b7 g_b7 r_b7 e_b7 a_b7 => ?_)
        refine lv_iload hx hb dX3_answer_16 (lv_at hl 0 rfl) ?_
        refine iv_ald X hB a_b7 (sh_l0 r_h0) (iv_inU i4_x1 (by decide) (by have w1 := iv_ltU (iv_nle c4) k_x3.2; omega)) dX3_answer_18 (fun x8 e_x8 k_x8 => ?_)
        refine lv_iload_n hx hb dX3_answer_19 rfl (lv_at hl 2 rfl) ?_
        refine lv_icmp_ne (tgt := 27) hx hb dX3_answer_20 (by decide) (fun c9 => ?_) (fun c9 => ?_)
        · skip
          refine lv_iconst (v := 0) hx hb dX3_answer_27 (by decide) ?_
          refine lv_istore (lv' := [(5, .int 0), (4, .int x1), (0, .ref h0), (1, .int x_0), (2, .ref h2), (3, .int x_2)]) hx hb dX3_answer_28 hl (by decide) rfl (fun ls hl => ?_)
          refine lv_iload hx hb dX3_answer_30 (lv_at hl 0 rfl) ?_
          refine lv_if_eq (tgt := 98) hx hb dX3_answer_32 (by decide) (fun c10 => ?_) (fun c10 => ?_)
          · skip
            refine iv_iinc hx hb i4_x1 (lo := 1) (hi := 63) (by decide) dX3_answer_98 hl (k := 1) rfl (by decide) (fun x11 ls e_x11 i_x11 hl => ?_)
            have hl : lv_has ls 6 [(4, .int x11), (5, .int 0), (0, .ref h0), (1, .int x_0), (2, .ref h2), (3, .int x_2)] := hl
            refine lv_goto (tgt := 3) hx hb dX3_answer_101 (by decide) ?_
            exact ih_3 G2 hM _ _ hB a_h0 a_h2 x11 (i_x11.wk (by decide)) (iv_mup (c := 1) i_x1 (by decide) (by decide) (by omega) hn_3) _ (lv_sub hl [0, 2, 3, 4, 5] rfl)
          · skip
            exact absurd rfl c10
        · skip
          have i11_x8 : iv_R 131 133 x8 := ((k_x8.cutLo (n := 131) (iv_eq_r c9 i_x_0).1).cutHi (n := 133) (iv_eq_r c9 i_x_0).2)
          refine lv_iconst (v := 1) hx hb dX3_answer_23 (by decide) ?_
          refine lv_goto (tgt := 28) hx hb dX3_answer_24 (by decide) ?_
          refine lv_istore (lv' := [(5, .int 1), (4, .int x1), (0, .ref h0), (1, .int x_0), (2, .ref h2), (3, .int x_2)]) hx hb dX3_answer_28 hl (by decide) rfl (fun ls hl => ?_)
          refine lv_iload hx hb dX3_answer_30 (lv_at hl 0 rfl) ?_
          refine lv_if_eq (tgt := 98) hx hb dX3_answer_32 (by decide) (fun c13 => ?_) (fun c13 => ?_)
          · skip
            exact (q_1.cutHi (n := 0) (iv_eq_r c13 q_0).2).no (by decide)
          · skip
            refine lv_aload_n hx hb dX3_answer_35 rfl (lv_at hl 2 rfl) ?_
            refine iv_getr X ft_X3 hB a_h0 sh_3 3 (by decide) rfl k_fl_X3_31 dX3_answer_36 (fun b14 g_b14 r_b14 e_b14 a_b14 => ?_)
            refine lv_iload hx hb dX3_answer_39 (lv_at hl 1 rfl) ?_
            refine iv_ald X hB a_b14 (sh_l2 r_h0) (iv_inU i4_x1 (by decide) (by have w1 := iv_ltU (iv_nle c4) k_x3.2; omega)) dX3_answer_41 (fun x15 e_x15 k_x15 => ?_)
            have i_x15 : iv_R 0 1023 x15 := k_x15.wk ⟨by decide, by omega⟩
            refine lv_aload_n hx hb dX3_answer_42 rfl (lv_at hl 2 rfl) ?_
            refine iv_getr X ft_X3 hB a_h0 sh_3 2 (by decide) rfl k_fl_X3_28 dX3_answer_43 (fun b16 g_b16 r_b16 e_b16 a_b16 => ?_)
            refine lv_iload hx hb dX3_answer_46 (lv_at hl 1 rfl) ?_
            refine lv_iconst (v := 1) hx hb dX3_answer_48 (by decide) ?_
            refine iv_iadd hx hb i4_x1 q_1 (lo := 1) (hi := 63) (by decide) dX3_answer_49 (fun x17 e_x17 i_x17 => ?_)
            refine iv_ald X hB a_b16 (sh_l1 r_h0) (iv_inU i_x17 (by decide) (by have w1 := iv_ltU (iv_nle c4) k_x3.2; have w2 : x17.toInt = x1.toInt + 1 := e_x17; omega)) dX3_answer_50 (fun x18 e_x18 k_x18 => ?_)
            have i_x18 : iv_R 0 1023 x18 := k_x18.wk ⟨by decide, by omega⟩
            refine lv_icmp_eq (tgt := 78) hx hb dX3_answer_51 (by decide) (fun c19 => ?_) (fun c19 => ?_)
            · skip
              refine lv_aload_n hx hb dX3_answer_78 rfl (lv_at hl 2 rfl) ?_
              refine lv_aload_n hx hb dX3_answer_79 rfl (lv_at hl 2 rfl) ?_
              refine iv_getr0 X ft_X3 hB a_h0 sh_3 2 (by decide) rfl k_fl_X3_28 dX3_answer_80 e_b16 ?_
              refine lv_iload hx hb dX3_answer_83 (lv_at hl 1 rfl) ?_
              refine iv_ald X hB a_b16 (sh_l1 r_h0) (iv_inU i4_x1 (by decide) (by have w1 := iv_ltU (iv_nle c4) k_x3.2; omega)) dX3_answer_85 (fun x20 e_x20 k_x20 => ?_)
              have i_x20 : iv_R 0 1023 x20 := k_x20.wk ⟨by decide, by omega⟩
              refine lv_aload_n hx hb dX3_answer_86 rfl (lv_at hl 2 rfl) ?_
              refine iv_getr0 X ft_X3 hB a_h0 sh_3 3 (by decide) rfl k_fl_X3_31 dX3_answer_87 e_b14 ?_
              refine lv_iload hx hb dX3_answer_90 (lv_at hl 1 rfl) ?_
              refine iv_ald X hB a_b14 (sh_l2 r_h0) (iv_inU i4_x1 (by decide) (by have w1 := iv_ltU (iv_nle c4) k_x3.2; omega)) dX3_answer_92 (fun x21 e_x21 k_x21 => ?_)
              obtain rfl : x15 = x21 := e_x15.trans e_x21.symm
              refine lv_aload_n hx hb dX3_answer_93 rfl (lv_at hl 4 rfl) ?_
              refine iv_cVi X k_good k_mf_X3_run k_im_X3_run k_sel_X3_run k_ml_X3_43 ft_X3 hB a_h0 sh_3 (As := [.int x20, .int x15, .ref h2]) (c_X3_run l D tys base G2 h0 g_h0 r_h0 a_h0 x20 i_x20 x15 i_x15 k_x15.2 h2 g_h2 r_h2 a_h2) ⟨rfl, rfl⟩ ⟨Nat.le_of_ble_eq_true rfl, Nat.le_of_ble_eq_true rfl⟩ ⟨Nat.le_of_ble_eq_true rfl, Nat.le_of_ble_eq_true rfl⟩ rfl rfl hl.1 (Nat.le_of_ble_eq_true rfl) dX3_answer_94 (fun x22 G9 H locs hq hB => ?_)
              obtain ⟨hm, i_x22⟩ := hq
              obtain ⟨G23, hG9⟩ : ∃ g, g = G9 := ⟨_, rfl⟩
              rw [← hG9] at hm hB
              have hM := hM.stp hm (by decide)
              have a_h0 := hm.at a_h0 (by decide)
              have a_h2 := hm.at a_h2 (by decide)
              exact iv_iret X hr hlocks hB ⟨hM, i_x22⟩ dX3_answer_97
            · skip
              refine lv_aload_n hx hb dX3_answer_54 rfl (lv_at hl 2 rfl) ?_
              refine lv_aload_n hx hb dX3_answer_55 rfl (lv_at hl 2 rfl) ?_
              refine iv_getr0 X ft_X3 hB a_h0 sh_3 3 (by decide) rfl k_fl_X3_31 dX3_answer_56 e_b14 ?_
              refine lv_iload hx hb dX3_answer_59 (lv_at hl 1 rfl) ?_
              refine iv_ald X hB a_b14 (sh_l2 r_h0) (iv_inU i4_x1 (by decide) (by have w1 := iv_ltU (iv_nle c4) k_x3.2; omega)) dX3_answer_61 (fun x24 e_x24 k_x24 => ?_)
              obtain rfl : x15 = x24 := e_x15.trans e_x24.symm
              refine lv_aload_n hx hb dX3_answer_62 rfl (lv_at hl 2 rfl) ?_
              refine iv_getr0 X ft_X3 hB a_h0 sh_3 2 (by decide) rfl k_fl_X3_28 dX3_answer_63 e_b16 ?_
              refine lv_iload hx hb dX3_answer_66 (lv_at hl 1 rfl) ?_
              refine lv_iconst (v := 1) hx hb dX3_answer_68 (by decide) ?_
              refine iv_iadd hx hb i4_x1 q_1 (lo := 1) (hi := 63) (by decide) dX3_answer_69 (fun x25 e_x25 i_x25 => ?_)
              refine iv_ald X hB a_b16 (sh_l1 r_h0) (iv_inU i_x25 (by decide) (by have w1 := iv_ltU (iv_nle c4) k_x3.2; have w2 : x25.toInt = x1.toInt + 1 := e_x25; omega)) dX3_answer_70 (fun x26 e_x26 k_x26 => ?_)
              have i_x26 : iv_R 0 1023 x26 := k_x26.wk ⟨by decide, by omega⟩
              refine lv_aload_n hx hb dX3_answer_71 rfl (lv_at hl 4 rfl) ?_
              refine iv_cVi X k_good k_mf_X3_run k_im_X3_run k_sel_X3_run k_ml_X3_43 ft_X3 hB a_h0 sh_3 (As := [.int x15, .int x26, .ref h2]) (c_X3_run l D tys base G2 h0 g_h0 r_h0 a_h0 x15 i_x15 x26 i_x26 k_x26.2 h2 g_h2 r_h2 a_h2) ⟨rfl, rfl⟩ ⟨Nat.le_of_ble_eq_true rfl, Nat.le_of_ble_eq_true rfl⟩ ⟨Nat.le_of_ble_eq_true rfl, Nat.le_of_ble_eq_true rfl⟩ rfl rfl hl.1 (Nat.le_of_ble_eq_true rfl) dX3_answer_72 (fun x27 G9 H locs hq hB => ?_)
              obtain ⟨hm, i_x27⟩ := hq
              obtain ⟨G28, hG9⟩ : ∃ g, g = G9 := ⟨_, rfl⟩
              rw [← hG9] at hm hB
              have hM := hM.stp hm (by decide)
              have a_h0 := hm.at a_h0 (by decide)
              have a_h2 := hm.at a_h2 (by decide)
              refine lv_if_eq (tgt := 98) hx hb dX3_answer_75 (by decide) (fun c29 => ?_) (fun c29 => ?_)
              · skip
                have i29_x27 : iv_R 0 0 x27 := ((i_x27.cutLo (n := 0) (iv_eq_r c29 q_0).1).cutHi (n := 0) (iv_eq_r c29 q_0).2)
                refine iv_iinc hx hb i4_x1 (lo := 1) (hi := 63) (by decide) dX3_answer_98 hl (k := 1) rfl (by decide) (fun x31 ls e_x31 i_x31 hl => ?_)
                have hl : lv_has ls 6 [(4, .int x31), (5, .int 1), (0, .ref h0), (1, .int x_0), (2, .ref h2), (3, .int x_2)] := hl
                refine lv_goto (tgt := 3) hx hb dX3_answer_101 (by decide) ?_
                exact ih_3 G28 hM _ _ hB a_h0 a_h2 x31 (i_x31.wk (by decide)) (iv_mup (c := 1) i_x1 (by decide) (by decide) (by omega) hn_3) _ (lv_sub hl [0, 2, 3, 4, 5] rfl)
              · skip
                refine lv_aload_n hx hb dX3_answer_78 rfl (lv_at hl 2 rfl) ?_
                refine lv_aload_n hx hb dX3_answer_79 rfl (lv_at hl 2 rfl) ?_
                refine iv_getr X ft_X3 hB a_h0 sh_3 2 (by decide) rfl k_fl_X3_28 dX3_answer_80 (fun b32 g_b32 r_b32 e_b32 a_b32 => ?_)
                refine lv_iload hx hb dX3_answer_83 (lv_at hl 1 rfl) ?_
                refine iv_ald X hB a_b32 (sh_l1 r_h0) (iv_inU i4_x1 (by decide) (by have w1 := iv_ltU (iv_nle c4) k_x3.2; omega)) dX3_answer_85 (fun x33 e_x33 k_x33 => ?_)
                have i_x33 : iv_R 0 1023 x33 := k_x33.wk ⟨by decide, by omega⟩
                refine lv_aload_n hx hb dX3_answer_86 rfl (lv_at hl 2 rfl) ?_
                refine iv_getr X ft_X3 hB a_h0 sh_3 3 (by decide) rfl k_fl_X3_31 dX3_answer_87 (fun b34 g_b34 r_b34 e_b34 a_b34 => ?_)
                refine lv_iload hx hb dX3_answer_90 (lv_at hl 1 rfl) ?_
                refine iv_ald X hB a_b34 (sh_l2 r_h0) (iv_inU i4_x1 (by decide) (by have w1 := iv_ltU (iv_nle c4) k_x3.2; omega)) dX3_answer_92 (fun x35 e_x35 k_x35 => ?_)
                have i_x35 : iv_R 0 1023 x35 := k_x35.wk ⟨by decide, by omega⟩
                refine lv_aload_n hx hb dX3_answer_93 rfl (lv_at hl 4 rfl) ?_
                refine iv_cVi X k_good k_mf_X3_run k_im_X3_run k_sel_X3_run k_ml_X3_43 ft_X3 hB a_h0 sh_3 (As := [.int x33, .int x35, .ref h2]) (c_X3_run l D tys base G28 h0 g_h0 r_h0 a_h0 x33 i_x33 x35 i_x35 k_x35.2 h2 g_h2 r_h2 a_h2) ⟨rfl, rfl⟩ ⟨Nat.le_of_ble_eq_true rfl, Nat.le_of_ble_eq_true rfl⟩ ⟨Nat.le_of_ble_eq_true rfl, Nat.le_of_ble_eq_true rfl⟩ rfl rfl hl.1 (Nat.le_of_ble_eq_true rfl) dX3_answer_94 (fun x36 G9 H locs hq hB => ?_)
                obtain ⟨hm, i_x36⟩ := hq
                obtain ⟨G37, hG9⟩ : ∃ g, g = G9 := ⟨_, rfl⟩
                rw [← hG9] at hm hB
                have hM := hM.stp hm (by decide)
                have a_h0 := hm.at a_h0 (by decide)
                have a_h2 := hm.at a_h2 (by decide)
                exact iv_iret X hr hlocks hB ⟨hM, i_x36⟩ dX3_answer_97
  exact L_3 _ G hM _ _ hB a_h0 a_h2 0 (q_0.wk (by decide)) (Nat.lt_succ_self _) _ (lv_sub hl [0, 1, 2, 3, 4] rfl)
theorem dX2_loudFrom_0 : decode cX2_loudFrom 0 = .ok (.aload_n 0, 1) := by decide +kernel
theorem dX2_loudFrom_1 : decode cX2_loudFrom 1 = .ok (.iload_n 1, 1) := by decide +kernel
theorem dX2_loudFrom_2 : decode cX2_loudFrom 2 = .ok (.invokevirtual 52, 3) := by decide +kernel
theorem dX2_loudFrom_5 : decode cX2_loudFrom 5 = .ok (.aload_n 0, 1) := by decide +kernel
theorem dX2_loudFrom_6 : decode cX2_loudFrom 6 = .ok (.getfield 9, 3) := by decide +kernel
theorem dX2_loudFrom_9 : decode cX2_loudFrom 9 = .ok (.iconst 5, 1) := by decide +kernel
theorem dX2_loudFrom_10 : decode cX2_loudFrom 10 = .ok (.iload_n 2, 1) := by decide +kernel
theorem dX2_loudFrom_11 : decode cX2_loudFrom 11 = .ok (.iastore, 1) := by decide +kernel
theorem dX2_loudFrom_12 : decode cX2_loudFrom 12 = .ok (.aload_n 0, 1) := by decide +kernel
theorem dX2_loudFrom_13 : decode cX2_loudFrom 13 = .ok (.getfield 9, 3) := by decide +kernel
theorem dX2_loudFrom_16 : decode cX2_loudFrom 16 = .ok (.bipush 6, 2) := by decide +kernel
theorem dX2_loudFrom_18 : decode cX2_loudFrom 18 = .ok (.iload_n 3, 1) := by decide +kernel
theorem dX2_loudFrom_19 : decode cX2_loudFrom 19 = .ok (.iastore, 1) := by decide +kernel
theorem dX2_loudFrom_20 : decode cX2_loudFrom 20 = .ok (.aload_n 0, 1) := by decide +kernel
theorem dX2_loudFrom_21 : decode cX2_loudFrom 21 = .ok (.getfield 15, 3) := by decide +kernel
theorem dX2_loudFrom_24 : decode cX2_loudFrom 24 = .ok (.getfield 56, 3) := by decide +kernel
theorem dX2_loudFrom_27 : decode cX2_loudFrom 27 = .ok (.sipush 131, 3) := by decide +kernel
theorem dX2_loudFrom_30 : decode cX2_loudFrom 30 = .ok (.aload_n 0, 1) := by decide +kernel
theorem dX2_loudFrom_31 : decode cX2_loudFrom 31 = .ok (.getfield 9, 3) := by decide +kernel
theorem dX2_loudFrom_34 : decode cX2_loudFrom 34 = .ok (.aload_n 0, 1) := by decide +kernel
theorem dX2_loudFrom_35 : decode cX2_loudFrom 35 = .ok (.getfield 15, 3) := by decide +kernel
theorem dX2_loudFrom_38 : decode cX2_loudFrom 38 = .ok (.getfield 19, 3) := by decide +kernel
theorem dX2_loudFrom_41 : decode cX2_loudFrom 41 = .ok (.iload_n 1, 1) := by decide +kernel
theorem dX2_loudFrom_42 : decode cX2_loudFrom 42 = .ok (.aaload, 1) := by decide +kernel
theorem dX2_loudFrom_43 : decode cX2_loudFrom 43 = .ok (.getfield 25, 3) := by decide +kernel
theorem dX2_loudFrom_46 : decode cX2_loudFrom 46 = .ok (.iload_n 2, 1) := by decide +kernel
theorem dX2_loudFrom_47 : decode cX2_loudFrom 47 = .ok (.isub, 1) := by decide +kernel
theorem dX2_loudFrom_48 : decode cX2_loudFrom 48 = .ok (.invokevirtual 60, 3) := by decide +kernel
theorem dX2_loudFrom_51 : decode cX2_loudFrom 51 = .ok (.istore 4, 2) := by decide +kernel
theorem dX2_loudFrom_53 : decode cX2_loudFrom 53 = .ok (.iconst 0, 1) := by decide +kernel
theorem dX2_loudFrom_54 : decode cX2_loudFrom 54 = .ok (.sipush 999, 3) := by decide +kernel
theorem dX2_loudFrom_57 : decode cX2_loudFrom 57 = .ok (.iload 4, 2) := by decide +kernel
theorem dX2_loudFrom_59 : decode cX2_loudFrom 59 = .ok (.invokestatic 66, 3) := by decide +kernel
theorem dX2_loudFrom_62 : decode cX2_loudFrom 62 = .ok (.invokestatic 72, 3) := by decide +kernel
theorem dX2_loudFrom_65 : decode cX2_loudFrom 65 = .ok (.ireturn, 1) := by decide +kernel
set_option maxHeartbeats 4000000 in
set_option maxRecDepth 100000 in
theorem c_X2_loudFrom (l : Launch) (D : va_G) (tys : List (ClassId × FieldType)) (base : Nat) (G : iv_G) (h0 : Nat) (g_h0 : Nat → Int32) (r_h0 : Nat → Nat) (a_h0 : G h0 = some (2, g_h0, r_h0)) (x_0 : Int32) (i_x_0 : iv_R 0 9 x_0) (x_1 : Int32) (i_x_1 : iv_R (-2147483648) 2147483647 x_1) (x_2 : Int32) (i_x_2 : iv_R 0 23 x_2) : Met l yX2_loudFrom (Cond.code yX2_loudFrom cX2_loudFrom 5 (some .int) :: iv_W0) ({ frames := 2, cells := 0, slots := 0, locals := 53 }) (iv_Pc iv_sh D classes tys base G [.ref h0, .int x_0, .int x_1, .int x_2]) (iv_Qi iv_sh D classes tys base (fun v G' => iv_Md [28, 30] G G' ∧ iv_R 0 999 v)) 0 0 (iv_A base) := by
  refine iv_head (by decide) (Nat.le_of_ble_eq_true rfl) ?_
  intro p e s m args below meth c ls X hr hlocks hname hB hl
  have X := X
  have hx := X.1.1
  have hb := X.1.2.1
  have hM : iv_Md [28, 30] G G := iv_Md.rf
  have hl : lv_has ls 5 [(0, .ref h0), (1, .int x_0), (2, .int x_1), (3, .int x_2)] := hl
  refine lv_aload_n hx hb dX2_loudFrom_0 rfl (lv_at hl 0 rfl) ?_
  refine lv_iload_n hx hb dX2_loudFrom_1 rfl (lv_at hl 1 rfl) ?_
  refine iv_cVv X k_good k_mf_X2_learn k_im_X2_learn k_sel_X2_learn k_ml_X2_52 ft_X2 hB a_h0 sh_2 (As := [.int x_0]) (c_X2_learn l D tys base G h0 g_h0 r_h0 a_h0 x_0 i_x_0) ⟨rfl, rfl⟩ ⟨Nat.le_of_ble_eq_true rfl, Nat.le_of_ble_eq_true rfl⟩ ⟨Nat.le_of_ble_eq_true rfl, Nat.le_of_ble_eq_true rfl⟩ rfl rfl hl.1 (Nat.le_of_ble_eq_true rfl) dX2_loudFrom_2 (fun G9 H locs hq hB => ?_)
  have hm := hq
  obtain ⟨G1, hG9⟩ : ∃ g, g = G9 := ⟨_, rfl⟩
  rw [← hG9] at hm hB
  have hM := hM.stp hm (by decide)
  have a_h0 := hm.at a_h0 (by decide)
  refine lv_aload_n hx hb dX2_loudFrom_5 rfl (lv_at hl 0 rfl) ?_
  refine iv_getr X ft_X2 hB a_h0 sh_2 1 (by decide) rfl k_fl_X2_9 dX2_loudFrom_6 (fun b2 g_b2 r_b2 e_b2 a_b2 => ?_)
  refine lv_iconst (v := 5) hx hb dX2_loudFrom_9 (by decide) ?_
  refine lv_iload_n hx hb dX2_loudFrom_10 rfl (lv_at hl 2 rfl) ?_
  refine iv_ast X hB a_b2 sh_30 (iv_in q_5 (by decide)) i_x_1 dX2_loudFrom_11 (fun H locs hB => ?_)
  have hm := iv_Md.ast (j := (5 : Int32).toNatClampNeg) (x := x_1) a_b2 rfl (by decide)
  have h9 := iv_up_eq (G := G1) (a := b2) (k := (30, upd g_b2 (5 : Int32).toNatClampNeg x_1, r_b2))
  generalize iv_up G1 b2 _ = G3 at hB hm h9
  have hM := hM.stp hm (by decide)
  have a_h0 := hm.at a_h0 (by decide)
  refine lv_aload_n hx hb dX2_loudFrom_12 rfl (lv_at hl 0 rfl) ?_
  refine iv_getr X ft_X2 hB a_h0 sh_2 1 (by decide) rfl k_fl_X2_9 dX2_loudFrom_13 (fun b5 g_b5 r_b5 e_b5 a_b5 => ?_)
  refine lv_bipush (v := 6) hx hb dX2_loudFrom_16 (by decide) ?_
  refine lv_iload_n hx hb dX2_loudFrom_18 rfl (lv_at hl 3 rfl) ?_
  refine iv_ast X hB a_b5 sh_30 (iv_in q_6 (by decide)) (i_x_2.wk (by decide)) dX2_loudFrom_19 (fun H locs hB => ?_)
  have hm := iv_Md.ast (j := (6 : Int32).toNatClampNeg) (x := x_2) a_b5 rfl (by decide)
  have h9 := iv_up_eq (G := G3) (a := b5) (k := (30, upd g_b5 (6 : Int32).toNatClampNeg x_2, r_b5))
  generalize iv_up G3 b5 _ = G6 at hB hm h9
  have hM := hM.stp hm (by decide)
  have a_h0 := hm.at a_h0 (by decide)
  refine lv_aload_n hx hb dX2_loudFrom_20 rfl (lv_at hl 0 rfl) ?_
  refine iv_getr X ft_X2 hB a_h0 sh_2 0 (by decide) rfl k_fl_X2_15 dX2_loudFrom_21 (fun b8 g_b8 r_b8 e_b8 a_b8 => ?_)
  refine iv_getr X ft_X5 hB a_b8 sh_5 13 (by decide) rfl k_fl_X2_56 dX2_loudFrom_24 (fun b9 g_b9 r_b9 e_b9 a_b9 => ?_)
  refine lv_sipush (v := 131) hx hb dX2_loudFrom_27 (by decide) ?_
  refine lv_aload_n hx hb dX2_loudFrom_30 rfl (lv_at hl 0 rfl) ?_
  refine iv_getr X ft_X2 hB a_h0 sh_2 1 (by decide) rfl k_fl_X2_9 dX2_loudFrom_31 (fun b10 g_b10 r_b10 e_b10 a_b10 => ?_)
  refine lv_aload_n hx hb dX2_loudFrom_34 rfl (lv_at hl 0 rfl) ?_
  refine iv_getr0 X ft_X2 hB a_h0 sh_2 0 (by decide) rfl k_fl_X2_15 dX2_loudFrom_35 e_b8 ?_
  refine iv_getr X ft_X5 hB a_b8 sh_5 0 (by decide) rfl k_fl_X2_19 dX2_loudFrom_38 (fun b11 g_b11 r_b11 e_b11 a_b11 => ?_)
  refine lv_iload_n hx hb dX2_loudFrom_41 rfl (lv_at hl 1 rfl) ?_
  refine iv_aald X hB a_b11 sh_40 (iv_in i_x_0 (by decide)) dX2_loudFrom_42 (fun b12 g_b12 r_b12 e_b12 a_b12 => ?_)
  refine iv_geti X ft_X1 hB a_b12 sh_1 2 (by decide) rfl k_fl_X2_25 dX2_loudFrom_43 (fun x13 e_x13 i_x13 => ?_)
  refine lv_iload_n hx hb dX2_loudFrom_46 rfl (lv_at hl 2 rfl) ?_
  refine lv_isub hx hb dX2_loudFrom_47 ?_
  refine lv_topi (fun x14 e_x14 => ?_)
  have i_x14 := iv_R.all x14
  refine iv_cVi X k_good k_mf_X3_answer k_im_X3_answer k_sel_X3_answer k_ml_X2_60 ft_X3 hB a_b9 sh_3 (As := [.int 131, .ref b10, .int x14]) (c_X3_answer l D tys base G6 b9 g_b9 r_b9 a_b9 131 (q_131.wk (by decide)) b10 g_b10 r_b10 a_b10 x14 i_x14) ⟨rfl, rfl⟩ ⟨Nat.le_of_ble_eq_true rfl, Nat.le_of_ble_eq_true rfl⟩ ⟨Nat.le_of_ble_eq_true rfl, Nat.le_of_ble_eq_true rfl⟩ rfl rfl hl.1 (Nat.le_of_ble_eq_true rfl) dX2_loudFrom_48 (fun x15 G9 H locs hq hB => ?_)
  obtain ⟨hm, i_x15⟩ := hq
  obtain ⟨G16, hG9⟩ : ∃ g, g = G9 := ⟨_, rfl⟩
  rw [← hG9] at hm hB
  have hM := hM.stp hm (by decide)
  have a_h0 := hm.at a_h0 (by decide)
  refine lv_istore (lv' := [(4, .int x15), (0, .ref h0), (1, .int x_0), (2, .int x_1), (3, .int x_2)]) hx hb dX2_loudFrom_51 hl (by decide) rfl (fun ls hl => ?_)
  refine lv_iconst (v := 0) hx hb dX2_loudFrom_53 (by decide) ?_
  refine lv_sipush (v := 999) hx hb dX2_loudFrom_54 (by decide) ?_
  refine lv_iload hx hb dX2_loudFrom_57 (lv_at hl 0 rfl) ?_
  refine iv_mmin X hl.1 k_mm_X2_66 ⟨Nat.le_of_ble_eq_true rfl, Nat.le_of_ble_eq_true rfl⟩ ⟨Nat.le_of_ble_eq_true rfl, Nat.le_of_ble_eq_true rfl⟩ q_999 i_x15 (lo := (-2147483648)) (hi := 999) (by decide) dX2_loudFrom_59 (fun x17 e_x17 i_x17 => ?_)
  refine iv_mmax X hl.1 k_mm_X2_72 ⟨Nat.le_of_ble_eq_true rfl, Nat.le_of_ble_eq_true rfl⟩ ⟨Nat.le_of_ble_eq_true rfl, Nat.le_of_ble_eq_true rfl⟩ q_0 i_x17 (lo := 0) (hi := 999) (by decide) dX2_loudFrom_62 (fun x18 e_x18 i_x18 => ?_)
  exact iv_iret X hr hlocks hB ⟨hM, i_x18⟩ dX2_loudFrom_65
theorem dX11_isTower_0 : decode cX11_isTower 0 = .ok (.iload_n 0, 1) := by decide +kernel
theorem dX11_isTower_1 : decode cX11_isTower 1 = .ok (.iconst 0, 1) := by decide +kernel
theorem dX11_isTower_2 : decode cX11_isTower 2 = .ok (.iconst 3, 1) := by decide +kernel
theorem dX11_isTower_3 : decode cX11_isTower 3 = .ok (.invokestatic 83, 3) := by decide +kernel
theorem dX11_isTower_6 : decode cX11_isTower 6 = .ok (.ireturn, 1) := by decide +kernel
set_option maxHeartbeats 4000000 in
set_option maxRecDepth 100000 in
theorem c_X11_isTower (l : Launch) (D : va_G) (tys : List (ClassId × FieldType)) (base : Nat) (G : iv_G) (x_0 : Int32) (i_x_0 : iv_R (-2147483648) 2147483647 x_0) : Met l yX11_isTower (Cond.code yX11_isTower cX11_isTower 1 (some .boolean) :: iv_W0) ({ frames := 1, cells := 0, slots := 0, locals := 22 }) (iv_Pc iv_sh D classes tys base G [.int x_0]) (iv_Qi iv_sh D classes tys base (fun v G' => G = G' ∧ iv_R 0 1 v ∧ (¬ v = 0 → iv_R 0 3 x_0))) 0 0 (iv_A base) := by
  refine iv_head (by decide) (Nat.le_of_ble_eq_true rfl) ?_
  intro p e s m args below meth c ls X hr hlocks hname hB hl
  have X := X
  have hx := X.1.1
  have hb := X.1.2.1
  have hl : lv_has ls 1 [(0, .int x_0)] := hl
  refine lv_iload_n hx hb dX11_isTower_0 rfl (lv_at hl 0 rfl) ?_
  refine lv_iconst (v := 0) hx hb dX11_isTower_1 (by decide) ?_
  refine lv_iconst (v := 3) hx hb dX11_isTower_2 (by decide) ?_
  refine iv_cSi X k_good k_mf_X11_isWithin k_st_X11_isWithin k_ml_X11_83 hB (As := [.int x_0, .int 0, .int 3]) (c_X11_isWithin l D tys base G x_0 i_x_0 0 (q_0.wk (by decide)) 3 (q_3.wk (by decide))) ⟨rfl, rfl⟩ ⟨Nat.le_of_ble_eq_true rfl, Nat.le_of_ble_eq_true rfl⟩ ⟨Nat.le_of_ble_eq_true rfl, Nat.le_of_ble_eq_true rfl⟩ rfl rfl hl.1 (Nat.le_of_ble_eq_true rfl) dX11_isTower_3 (fun x1 G9 H locs hq hB => ?_)
  obtain ⟨rfl, i_x1, hp2⟩ := hq
  have k3 : ¬ x1 = 0 → iv_R 0 3 x_0 := fun h => ⟨iv_max i_x_0.1 (Int.le_trans q_0.1 (hp2.1 h).1) (by decide), iv_min i_x_0.2 (Int.le_trans (hp2.1 h).2 q_3.2) (by decide)⟩
  exact iv_zret X hr hlocks hB i_x1 ⟨rfl, i_x1, fun h => (k3 h).wk (by decide)⟩ dX11_isTower_6
theorem dX5_distance_0 : decode cX5_distance 0 = .ok (.iload_n 1, 1) := by decide +kernel
theorem dX5_distance_1 : decode cX5_distance 1 = .ok (.invokestatic 106, 3) := by decide +kernel
theorem dX5_distance_4 : decode cX5_distance 4 = .ok (.ifCond .eq 23, 3) := by decide +kernel
theorem dX5_distance_7 : decode cX5_distance 7 = .ok (.iload_n 2, 1) := by decide +kernel
theorem dX5_distance_8 : decode cX5_distance 8 = .ok (.invokestatic 106, 3) := by decide +kernel
theorem dX5_distance_11 : decode cX5_distance 11 = .ok (.ifCond .eq 16, 3) := by decide +kernel
theorem dX5_distance_14 : decode cX5_distance 14 = .ok (.aload_n 0, 1) := by decide +kernel
theorem dX5_distance_15 : decode cX5_distance 15 = .ok (.getfield 17, 3) := by decide +kernel
theorem dX5_distance_18 : decode cX5_distance 18 = .ok (.iload_n 1, 1) := by decide +kernel
theorem dX5_distance_19 : decode cX5_distance 19 = .ok (.iconst 4, 1) := by decide +kernel
theorem dX5_distance_20 : decode cX5_distance 20 = .ok (.imul, 1) := by decide +kernel
theorem dX5_distance_21 : decode cX5_distance 21 = .ok (.iload_n 2, 1) := by decide +kernel
theorem dX5_distance_22 : decode cX5_distance 22 = .ok (.iadd, 1) := by decide +kernel
theorem dX5_distance_23 : decode cX5_distance 23 = .ok (.iaload, 1) := by decide +kernel
theorem dX5_distance_24 : decode cX5_distance 24 = .ok (.goto 4, 3) := by decide +kernel
theorem dX5_distance_27 : decode cX5_distance 27 = .ok (.iconst 0, 1) := by decide +kernel
theorem dX5_distance_28 : decode cX5_distance 28 = .ok (.ireturn, 1) := by decide +kernel
set_option maxHeartbeats 4000000 in
set_option maxRecDepth 100000 in
theorem c_X5_distance (l : Launch) (D : va_G) (tys : List (ClassId × FieldType)) (base : Nat) (G : iv_G) (h0 : Nat) (g_h0 : Nat → Int32) (r_h0 : Nat → Nat) (a_h0 : G h0 = some (5, g_h0, r_h0)) (x_0 : Int32) (i_x_0 : iv_R (-2147483648) 2147483647 x_0) (x_1 : Int32) (i_x_1 : iv_R (-2147483648) 2147483647 x_1) : Met l yX5_distance (Cond.code yX5_distance cX5_distance 3 (some .int) :: iv_W0) ({ frames := 2, cells := 0, slots := 0, locals := 42 }) (iv_Pc iv_sh D classes tys base G [.ref h0, .int x_0, .int x_1]) (iv_Qi iv_sh D classes tys base (fun v G' => G = G' ∧ iv_R (-2147483648) 2147483647 v)) 0 0 (iv_A base) := by
  refine iv_head (by decide) (Nat.le_of_ble_eq_true rfl) ?_
  intro p e s m args below meth c ls X hr hlocks hname hB hl
  have X := X
  have hx := X.1.1
  have hb := X.1.2.1
  have hl : lv_has ls 3 [(0, .ref h0), (1, .int x_0), (2, .int x_1)] := hl
  refine lv_iload_n hx hb dX5_distance_0 rfl (lv_at hl 1 rfl) ?_
  refine iv_cSNi X k_good k_mf_X11_isTower k_st_X11_isTower (k_mn_X5_106 X.2.2) hB (As := [.int x_0]) (c_X11_isTower l D tys base G x_0 i_x_0) ⟨rfl, rfl⟩ ⟨Nat.le_of_ble_eq_true rfl, Nat.le_of_ble_eq_true rfl⟩ ⟨Nat.le_of_ble_eq_true rfl, Nat.le_of_ble_eq_true rfl⟩ rfl rfl hl.1 (Nat.le_of_ble_eq_true rfl) dX5_distance_1 (fun x1 G9 H locs hq hB => ?_)
  obtain ⟨rfl, i_x1, hp2⟩ := hq
  refine lv_if_eq (tgt := 27) hx hb dX5_distance_4 (by decide) (fun c3 => ?_) (fun c3 => ?_)
  · skip
    have i3_x1 : iv_R 0 0 x1 := (i_x1.cutHi (n := 0) (iv_eq_r c3 q_0).2)
    refine lv_iconst (v := 0) hx hb dX5_distance_27 (by decide) ?_
    exact iv_iret X hr hlocks hB ⟨rfl, (q_0.wk (by decide))⟩ dX5_distance_28
  · skip
    have i4_x1 : iv_R 1 1 x1 := iv_ne_lo c3 i_x1 q_0 (by decide)
    have i5_x_0 : iv_R 0 3 x_0 := ((i_x_0.cutLo (n := 0) (hp2 c3).1).cutHi (n := 3) (hp2 c3).2)
    refine lv_iload_n hx hb dX5_distance_7 rfl (lv_at hl 2 rfl) ?_
    refine iv_cSNi X k_good k_mf_X11_isTower k_st_X11_isTower (k_mn_X5_106 X.2.2) hB (As := [.int x_1]) (c_X11_isTower l D tys base G x_1 i_x_1) ⟨rfl, rfl⟩ ⟨Nat.le_of_ble_eq_true rfl, Nat.le_of_ble_eq_true rfl⟩ ⟨Nat.le_of_ble_eq_true rfl, Nat.le_of_ble_eq_true rfl⟩ rfl rfl hl.1 (Nat.le_of_ble_eq_true rfl) dX5_distance_8 (fun x7 G9 H locs hq hB => ?_)
    obtain ⟨rfl, i_x7, hp8⟩ := hq
    refine lv_if_eq (tgt := 27) hx hb dX5_distance_11 (by decide) (fun c9 => ?_) (fun c9 => ?_)
    · skip
      have i9_x7 : iv_R 0 0 x7 := (i_x7.cutHi (n := 0) (iv_eq_r c9 q_0).2)
      refine lv_iconst (v := 0) hx hb dX5_distance_27 (by decide) ?_
      exact iv_iret X hr hlocks hB ⟨rfl, (q_0.wk (by decide))⟩ dX5_distance_28
    · skip
      have i10_x7 : iv_R 1 1 x7 := iv_ne_lo c9 i_x7 q_0 (by decide)
      have i11_x_1 : iv_R 0 3 x_1 := ((i_x_1.cutLo (n := 0) (hp8 c9).1).cutHi (n := 3) (hp8 c9).2)
      refine lv_aload_n hx hb dX5_distance_14 rfl (lv_at hl 0 rfl) ?_
      refine iv_getr X ft_X5 hB a_h0 sh_5 2 (by decide) rfl k_fl_X5_17 dX5_distance_15 (fun b13 g_b13 r_b13 e_b13 a_b13 => ?_)
      refine lv_iload_n hx hb dX5_distance_18 rfl (lv_at hl 1 rfl) ?_
      refine lv_iconst (v := 4) hx hb dX5_distance_19 (by decide) ?_
      refine iv_imul hx hb i5_x_0 q_4 (lo := 0) (hi := 12) (by decide) dX5_distance_20 (fun x14 e_x14 i_x14 => ?_)
      refine lv_iload_n hx hb dX5_distance_21 rfl (lv_at hl 2 rfl) ?_
      refine iv_iadd hx hb i_x14 i11_x_1 (lo := 0) (hi := 15) (by decide) dX5_distance_22 (fun x15 e_x15 i_x15 => ?_)
      refine iv_ald X hB a_b13 sh_20 (iv_in i_x15 (by decide)) dX5_distance_23 (fun x16 e_x16 i_x16 => ?_)
      refine lv_goto (tgt := 28) hx hb dX5_distance_24 (by decide) ?_
      exact iv_iret X hr hlocks hB ⟨rfl, i_x16⟩ dX5_distance_28
theorem dX2_loudAt_0 : decode cX2_loudAt 0 = .ok (.aload_n 0, 1) := by decide +kernel
theorem dX2_loudAt_1 : decode cX2_loudAt 1 = .ok (.iload_n 1, 1) := by decide +kernel
theorem dX2_loudAt_2 : decode cX2_loudAt 2 = .ok (.aload_n 0, 1) := by decide +kernel
theorem dX2_loudAt_3 : decode cX2_loudAt 3 = .ok (.getfield 15, 3) := by decide +kernel
theorem dX2_loudAt_6 : decode cX2_loudAt 6 = .ok (.aload_n 0, 1) := by decide +kernel
theorem dX2_loudAt_7 : decode cX2_loudAt 7 = .ok (.getfield 15, 3) := by decide +kernel
theorem dX2_loudAt_10 : decode cX2_loudAt 10 = .ok (.getfield 19, 3) := by decide +kernel
theorem dX2_loudAt_13 : decode cX2_loudAt 13 = .ok (.iload_n 1, 1) := by decide +kernel
theorem dX2_loudAt_14 : decode cX2_loudAt 14 = .ok (.aaload, 1) := by decide +kernel
theorem dX2_loudAt_15 : decode cX2_loudAt 15 = .ok (.getfield 75, 3) := by decide +kernel
theorem dX2_loudAt_18 : decode cX2_loudAt 18 = .ok (.iload_n 2, 1) := by decide +kernel
theorem dX2_loudAt_19 : decode cX2_loudAt 19 = .ok (.invokevirtual 78, 3) := by decide +kernel
theorem dX2_loudAt_22 : decode cX2_loudAt 22 = .ok (.iload_n 3, 1) := by decide +kernel
theorem dX2_loudAt_23 : decode cX2_loudAt 23 = .ok (.invokevirtual 81, 3) := by decide +kernel
theorem dX2_loudAt_26 : decode cX2_loudAt 26 = .ok (.ireturn, 1) := by decide +kernel
set_option maxHeartbeats 4000000 in
set_option maxRecDepth 100000 in
theorem c_X2_loudAt (l : Launch) (D : va_G) (tys : List (ClassId × FieldType)) (base : Nat) (G : iv_G) (h0 : Nat) (g_h0 : Nat → Int32) (r_h0 : Nat → Nat) (a_h0 : G h0 = some (2, g_h0, r_h0)) (x_0 : Int32) (i_x_0 : iv_R 0 9 x_0) (x_1 : Int32) (i_x_1 : iv_R (-2147483648) 2147483647 x_1) (x_2 : Int32) (i_x_2 : iv_R 0 23 x_2) : Met l yX2_loudAt (Cond.code yX2_loudAt cX2_loudAt 4 (some .int) :: iv_W0) ({ frames := 3, cells := 0, slots := 0, locals := 77 }) (iv_Pc iv_sh D classes tys base G [.ref h0, .int x_0, .int x_1, .int x_2]) (iv_Qi iv_sh D classes tys base (fun v G' => iv_Md [28, 30] G G' ∧ iv_R 0 999 v)) 0 0 (iv_A base) := by
  refine iv_head (by decide) (Nat.le_of_ble_eq_true rfl) ?_
  intro p e s m args below meth c ls X hr hlocks hname hB hl
  have X := X
  have hx := X.1.1
  have hb := X.1.2.1
  have hM : iv_Md [28, 30] G G := iv_Md.rf
  have hl : lv_has ls 4 [(0, .ref h0), (1, .int x_0), (2, .int x_1), (3, .int x_2)] := hl
  refine lv_aload_n hx hb dX2_loudAt_0 rfl (lv_at hl 0 rfl) ?_
  refine lv_iload_n hx hb dX2_loudAt_1 rfl (lv_at hl 1 rfl) ?_
  refine lv_aload_n hx hb dX2_loudAt_2 rfl (lv_at hl 0 rfl) ?_
  refine iv_getr X ft_X2 hB a_h0 sh_2 0 (by decide) rfl k_fl_X2_15 dX2_loudAt_3 (fun b1 g_b1 r_b1 e_b1 a_b1 => ?_)
  refine lv_aload_n hx hb dX2_loudAt_6 rfl (lv_at hl 0 rfl) ?_
  refine iv_getr0 X ft_X2 hB a_h0 sh_2 0 (by decide) rfl k_fl_X2_15 dX2_loudAt_7 e_b1 ?_
  refine iv_getr X ft_X5 hB a_b1 sh_5 0 (by decide) rfl k_fl_X2_19 dX2_loudAt_10 (fun b2 g_b2 r_b2 e_b2 a_b2 => ?_)
  refine lv_iload_n hx hb dX2_loudAt_13 rfl (lv_at hl 1 rfl) ?_
  refine iv_aald X hB a_b2 sh_40 (iv_in i_x_0 (by decide)) dX2_loudAt_14 (fun b3 g_b3 r_b3 e_b3 a_b3 => ?_)
  refine iv_geti X ft_X1 hB a_b3 sh_1 0 (by decide) rfl k_fl_X2_75 dX2_loudAt_15 (fun x4 e_x4 i_x4 => ?_)
  refine lv_iload_n hx hb dX2_loudAt_18 rfl (lv_at hl 2 rfl) ?_
  refine iv_cVi X k_good k_mf_X5_distance k_im_X5_distance k_sel_X5_distance k_ml_X2_78 ft_X5 hB a_b1 sh_5 (As := [.int x4, .int x_1]) (c_X5_distance l D tys base G b1 g_b1 r_b1 a_b1 x4 i_x4 x_1 i_x_1) ⟨rfl, rfl⟩ ⟨Nat.le_of_ble_eq_true rfl, Nat.le_of_ble_eq_true rfl⟩ ⟨Nat.le_of_ble_eq_true rfl, Nat.le_of_ble_eq_true rfl⟩ rfl rfl hl.1 (Nat.le_of_ble_eq_true rfl) dX2_loudAt_19 (fun x5 G9 H locs hq hB => ?_)
  obtain ⟨rfl, i_x5⟩ := hq
  refine lv_iload_n hx hb dX2_loudAt_22 rfl (lv_at hl 3 rfl) ?_
  refine iv_cVi X k_good k_mf_X2_loudFrom k_im_X2_loudFrom k_sel_X2_loudFrom k_ml_X2_81 ft_X2 hB a_h0 sh_2 (As := [.int x_0, .int x5, .int x_2]) (c_X2_loudFrom l D tys base G h0 g_h0 r_h0 a_h0 x_0 i_x_0 x5 i_x5 x_2 i_x_2) ⟨rfl, rfl⟩ ⟨Nat.le_of_ble_eq_true rfl, Nat.le_of_ble_eq_true rfl⟩ ⟨Nat.le_of_ble_eq_true rfl, Nat.le_of_ble_eq_true rfl⟩ rfl rfl hl.1 (Nat.le_of_ble_eq_true rfl) dX2_loudAt_23 (fun x6 G9 H locs hq hB => ?_)
  obtain ⟨hm, i_x6⟩ := hq
  obtain ⟨G7, hG9⟩ : ∃ g, g = G9 := ⟨_, rfl⟩
  rw [← hG9] at hm hB
  have hM := hM.stp hm (by decide)
  have a_h0 := hm.at a_h0 (by decide)
  exact iv_iret X hr hlocks hB ⟨hM, i_x6⟩ dX2_loudAt_26
theorem dX5_areOctaves_0 : decode cX5_areOctaves 0 = .ok (.aload_n 0, 1) := by decide +kernel
theorem dX5_areOctaves_1 : decode cX5_areOctaves 1 = .ok (.getfield 11, 3) := by decide +kernel
theorem dX5_areOctaves_4 : decode cX5_areOctaves 4 = .ok (.iload_n 1, 1) := by decide +kernel
theorem dX5_areOctaves_5 : decode cX5_areOctaves 5 = .ok (.aaload, 1) := by decide +kernel
theorem dX5_areOctaves_6 : decode cX5_areOctaves 6 = .ok (.getfield 109, 3) := by decide +kernel
theorem dX5_areOctaves_9 : decode cX5_areOctaves 9 = .ok (.aload_n 0, 1) := by decide +kernel
theorem dX5_areOctaves_10 : decode cX5_areOctaves 10 = .ok (.getfield 11, 3) := by decide +kernel
theorem dX5_areOctaves_13 : decode cX5_areOctaves 13 = .ok (.iload_n 2, 1) := by decide +kernel
theorem dX5_areOctaves_14 : decode cX5_areOctaves 14 = .ok (.aaload, 1) := by decide +kernel
theorem dX5_areOctaves_15 : decode cX5_areOctaves 15 = .ok (.getfield 109, 3) := by decide +kernel
theorem dX5_areOctaves_18 : decode cX5_areOctaves 18 = .ok (.isub, 1) := by decide +kernel
theorem dX5_areOctaves_19 : decode cX5_areOctaves 19 = .ok (.invokestatic 112, 3) := by decide +kernel
theorem dX5_areOctaves_22 : decode cX5_areOctaves 22 = .ok (.bipush 12, 2) := by decide +kernel
theorem dX5_areOctaves_24 : decode cX5_areOctaves 24 = .ok (.irem, 1) := by decide +kernel
theorem dX5_areOctaves_25 : decode cX5_areOctaves 25 = .ok (.ifCond .ne 7, 3) := by decide +kernel
theorem dX5_areOctaves_28 : decode cX5_areOctaves 28 = .ok (.iconst 1, 1) := by decide +kernel
theorem dX5_areOctaves_29 : decode cX5_areOctaves 29 = .ok (.goto 4, 3) := by decide +kernel
theorem dX5_areOctaves_32 : decode cX5_areOctaves 32 = .ok (.iconst 0, 1) := by decide +kernel
theorem dX5_areOctaves_33 : decode cX5_areOctaves 33 = .ok (.ireturn, 1) := by decide +kernel
set_option maxHeartbeats 4000000 in
set_option maxRecDepth 100000 in
theorem c_X5_areOctaves (l : Launch) (D : va_G) (tys : List (ClassId × FieldType)) (base : Nat) (G : iv_G) (h0 : Nat) (g_h0 : Nat → Int32) (r_h0 : Nat → Nat) (a_h0 : G h0 = some (5, g_h0, r_h0)) (x_0 : Int32) (i_x_0 : iv_R 0 9 x_0) (x_1 : Int32) (i_x_1 : iv_R 0 9 x_1) : Met l yX5_areOctaves (Cond.code yX5_areOctaves cX5_areOctaves 3 (some .boolean) :: iv_W0) ({ frames := 1, cells := 0, slots := 0, locals := 13 }) (iv_Pc iv_sh D classes tys base G [.ref h0, .int x_0, .int x_1]) (iv_Qi iv_sh D classes tys base (fun v G' => G = G' ∧ iv_R 0 1 v)) 0 0 (iv_A base) := by
  refine iv_head (by decide) (Nat.le_of_ble_eq_true rfl) ?_
  intro p e s m args below meth c ls X hr hlocks hname hB hl
  have X := X
  have hx := X.1.1
  have hb := X.1.2.1
  have hl : lv_has ls 3 [(0, .ref h0), (1, .int x_0), (2, .int x_1)] := hl
  refine lv_aload_n hx hb dX5_areOctaves_0 rfl (lv_at hl 0 rfl) ?_
  refine iv_getr X ft_X5 hB a_h0 sh_5 0 (by decide) rfl k_fl_X5_11 dX5_areOctaves_1 (fun b1 g_b1 r_b1 e_b1 a_b1 => ?_)
  refine lv_iload_n hx hb dX5_areOctaves_4 rfl (lv_at hl 1 rfl) ?_
  refine iv_aald X hB a_b1 sh_40 (iv_in i_x_0 (by decide)) dX5_areOctaves_5 (fun b2 g_b2 r_b2 e_b2 a_b2 => ?_)
  refine iv_geti X ft_X1 hB a_b2 sh_1 1 (by decide) rfl k_fl_X5_109 dX5_areOctaves_6 (fun x3 e_x3 i_x3 => ?_)
  refine lv_aload_n hx hb dX5_areOctaves_9 rfl (lv_at hl 0 rfl) ?_
  refine iv_getr0 X ft_X5 hB a_h0 sh_5 0 (by decide) rfl k_fl_X5_11 dX5_areOctaves_10 e_b1 ?_
  refine lv_iload_n hx hb dX5_areOctaves_13 rfl (lv_at hl 2 rfl) ?_
  refine iv_aald X hB a_b1 sh_40 (iv_in i_x_1 (by decide)) dX5_areOctaves_14 (fun b4 g_b4 r_b4 e_b4 a_b4 => ?_)
  refine iv_geti X ft_X1 hB a_b4 sh_1 1 (by decide) rfl k_fl_X5_109 dX5_areOctaves_15 (fun x5 e_x5 i_x5 => ?_)
  refine lv_isub hx hb dX5_areOctaves_18 ?_
  refine lv_topi (fun x6 e_x6 => ?_)
  have i_x6 := iv_R.all x6
  refine iv_mabs X hl.1 k_mm_X5_112 ⟨Nat.le_of_ble_eq_true rfl, Nat.le_of_ble_eq_true rfl⟩ ⟨Nat.le_of_ble_eq_true rfl, Nat.le_of_ble_eq_true rfl⟩ dX5_areOctaves_19 (fun x7 e_x7 i_x7 => ?_)
  refine lv_bipush (v := 12) hx hb dX5_areOctaves_22 (by decide) ?_
  refine iv_irem hx hb i_x7 q_12 (lo := (-11)) (hi := 11) (by decide) dX5_areOctaves_24 (fun x8 e_x8 i_x8 => ?_)
  refine lv_if_ne (tgt := 32) hx hb dX5_areOctaves_25 (by decide) (fun c9 => ?_) (fun c9 => ?_)
  · skip
    refine lv_iconst (v := 0) hx hb dX5_areOctaves_32 (by decide) ?_
    exact iv_zret X hr hlocks hB (q_0.wk (by decide)) ⟨rfl, (q_0.wk (by decide))⟩ dX5_areOctaves_33
  · skip
    have i9_x8 : iv_R 0 0 x8 := ((i_x8.cutLo (n := 0) (iv_eq_r c9 q_0).1).cutHi (n := 0) (iv_eq_r c9 q_0).2)
    refine lv_iconst (v := 1) hx hb dX5_areOctaves_28 (by decide) ?_
    refine lv_goto (tgt := 33) hx hb dX5_areOctaves_29 (by decide) ?_
    exact iv_zret X hr hlocks hB (q_1.wk (by decide)) ⟨rfl, (q_1.wk (by decide))⟩ dX5_areOctaves_33
theorem dX5_hasBell_0 : decode cX5_hasBell 0 = .ok (.iload_n 1, 1) := by decide +kernel
theorem dX5_hasBell_1 : decode cX5_hasBell 1 = .ok (.ifCond .lt 15, 3) := by decide +kernel
theorem dX5_hasBell_4 : decode cX5_hasBell 4 = .ok (.iload_n 1, 1) := by decide +kernel
theorem dX5_hasBell_5 : decode cX5_hasBell 5 = .ok (.aload_n 0, 1) := by decide +kernel
theorem dX5_hasBell_6 : decode cX5_hasBell 6 = .ok (.getfield 61, 3) := by decide +kernel
theorem dX5_hasBell_9 : decode cX5_hasBell 9 = .ok (.if_icmp .ge 7, 3) := by decide +kernel
theorem dX5_hasBell_12 : decode cX5_hasBell 12 = .ok (.iconst 1, 1) := by decide +kernel
theorem dX5_hasBell_13 : decode cX5_hasBell 13 = .ok (.goto 4, 3) := by decide +kernel
theorem dX5_hasBell_16 : decode cX5_hasBell 16 = .ok (.iconst 0, 1) := by decide +kernel
theorem dX5_hasBell_17 : decode cX5_hasBell 17 = .ok (.ireturn, 1) := by decide +kernel
set_option maxHeartbeats 4000000 in
set_option maxRecDepth 100000 in
theorem c_X5_hasBell (l : Launch) (D : va_G) (tys : List (ClassId × FieldType)) (base : Nat) (G : iv_G) (h0 : Nat) (g_h0 : Nat → Int32) (r_h0 : Nat → Nat) (a_h0 : G h0 = some (5, g_h0, r_h0)) (x_0 : Int32) (i_x_0 : iv_R (-2147483648) 2147483647 x_0) : Met l yX5_hasBell (Cond.code yX5_hasBell cX5_hasBell 2 (some .boolean) :: iv_W0) ({ frames := 0, cells := 0, slots := 0, locals := 0 }) (iv_Pc iv_sh D classes tys base G [.ref h0, .int x_0]) (iv_Qi iv_sh D classes tys base (fun v G' => G = G' ∧ iv_R 0 1 v ∧ (¬ v = 0 → iv_R 0 9 x_0))) 0 0 (iv_A base) := by
  refine iv_head (by decide) (Nat.le_of_ble_eq_true rfl) ?_
  intro p e s m args below meth c ls X hr hlocks hname hB hl
  have X := X
  have hx := X.1.1
  have hb := X.1.2.1
  have hl : lv_has ls 2 [(0, .ref h0), (1, .int x_0)] := hl
  refine lv_iload_n hx hb dX5_hasBell_0 rfl (lv_at hl 1 rfl) ?_
  refine lv_if_lt (tgt := 16) hx hb dX5_hasBell_1 (by decide) (fun c1 => ?_) (fun c1 => ?_)
  · skip
    have i1_x_0 : iv_R (-2147483648) (-1) x_0 := (i_x_0.cutHi (n := (-1)) (iv_lt_r c1 q_0 (by decide)))
    refine lv_iconst (v := 0) hx hb dX5_hasBell_16 (by decide) ?_
    exact iv_zret X hr hlocks hB (q_0.wk (by decide)) ⟨rfl, (q_0.wk (by decide)), fun h => absurd (iv_z q_0) h⟩ dX5_hasBell_17
  · skip
    have i2_x_0 : iv_R 0 2147483647 x_0 := (i_x_0.cutLo (n := 0) (iv_le_l (iv_nlt c1) q_0))
    refine lv_iload_n hx hb dX5_hasBell_4 rfl (lv_at hl 1 rfl) ?_
    refine lv_aload_n hx hb dX5_hasBell_5 rfl (lv_at hl 0 rfl) ?_
    refine iv_geti X ft_X5 hB a_h0 sh_5 1 (by decide) rfl k_fl_X5_61 dX5_hasBell_6 (fun x4 e_x4 i_x4 => ?_)
    refine lv_icmp_ge (tgt := 16) hx hb dX5_hasBell_9 (by decide) (fun c5 => ?_) (fun c5 => ?_)
    · skip
      refine lv_iconst (v := 0) hx hb dX5_hasBell_16 (by decide) ?_
      exact iv_zret X hr hlocks hB (q_0.wk (by decide)) ⟨rfl, (q_0.wk (by decide)), fun h => absurd (iv_z q_0) h⟩ dX5_hasBell_17
    · skip
      have i5_x_0 : iv_R 0 9 x_0 := (i2_x_0.cutHi (n := 9) (iv_lt_r (iv_nle c5) i_x4 (by decide)))
      have i6_x4 : iv_R 1 10 x4 := (i_x4.cutLo (n := 1) (iv_lt_l (iv_nle c5) i2_x_0 (by decide)))
      refine lv_iconst (v := 1) hx hb dX5_hasBell_12 (by decide) ?_
      refine lv_goto (tgt := 17) hx hb dX5_hasBell_13 (by decide) ?_
      exact iv_zret X hr hlocks hB (q_1.wk (by decide)) ⟨rfl, (q_1.wk (by decide)), fun _ => i5_x_0⟩ dX5_hasBell_17
