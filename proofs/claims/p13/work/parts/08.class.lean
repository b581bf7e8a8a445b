theorem dX5_soundsIn_0 : decode cX5_soundsIn 0 = .ok (.aload_n 0, 1) := by decide +kernel
theorem dX5_soundsIn_1 : decode cX5_soundsIn 1 = .ok (.iload_n 1, 1) := by decide +kernel
theorem dX5_soundsIn_2 : decode cX5_soundsIn 2 = .ok (.invokevirtual 88, 3) := by decide +kernel
theorem dX5_soundsIn_5 : decode cX5_soundsIn 5 = .ok (.ifCond .eq 24, 3) := by decide +kernel
theorem dX5_soundsIn_8 : decode cX5_soundsIn 8 = .ok (.aload_n 0, 1) := by decide +kernel
theorem dX5_soundsIn_9 : decode cX5_soundsIn 9 = .ok (.getfield 11, 3) := by decide +kernel
theorem dX5_soundsIn_12 : decode cX5_soundsIn 12 = .ok (.iload_n 1, 1) := by decide +kernel
theorem dX5_soundsIn_13 : decode cX5_soundsIn 13 = .ok (.aaload, 1) := by decide +kernel
theorem dX5_soundsIn_14 : decode cX5_soundsIn 14 = .ok (.getfield 92, 3) := by decide +kernel
theorem dX5_soundsIn_17 : decode cX5_soundsIn 17 = .ok (.ifCond .ne 12, 3) := by decide +kernel
theorem dX5_soundsIn_20 : decode cX5_soundsIn 20 = .ok (.aload_n 0, 1) := by decide +kernel
theorem dX5_soundsIn_21 : decode cX5_soundsIn 21 = .ok (.getfield 40, 3) := by decide +kernel
theorem dX5_soundsIn_24 : decode cX5_soundsIn 24 = .ok (.iload_n 1, 1) := by decide +kernel
theorem dX5_soundsIn_25 : decode cX5_soundsIn 25 = .ok (.iaload, 1) := by decide +kernel
theorem dX5_soundsIn_26 : decode cX5_soundsIn 26 = .ok (.goto 4, 3) := by decide +kernel
theorem dX5_soundsIn_29 : decode cX5_soundsIn 29 = .ok (.iconst 0, 1) := by decide +kernel
theorem dX5_soundsIn_30 : decode cX5_soundsIn 30 = .ok (.ireturn, 1) := by decide +kernel
set_option maxHeartbeats 4000000 in
set_option maxRecDepth 100000 in
theorem c_X5_soundsIn (l : Launch) (D : va_G) (tys : List (ClassId × FieldType)) (base : Nat) (G : iv_G) (h0 : Nat) (g_h0 : Nat → Int32) (r_h0 : Nat → Nat) (a_h0 : G h0 = some (5, g_h0, r_h0)) (x_0 : Int32) (i_x_0 : iv_R 0 9 x_0) : Met l yX5_soundsIn (Cond.code yX5_soundsIn cX5_soundsIn 2 (some .int) :: iv_W0) ({ frames := 1, cells := 0, slots := 0, locals := 21 }) (iv_Pc iv_sh D classes tys base G [.ref h0, .int x_0]) (iv_Qi iv_sh D classes tys base (fun v G' => G = G' ∧ iv_R (-2147483648) 2147483647 v)) 0 0 (iv_A base) := by
  refine iv_head (by decide) (Nat.le_of_ble_eq_true rfl) ?_
  intro p e s m args below meth c ls X hr hlocks hname hB hl
  have X := X
  have hx := X.1.1
  have hb := X.1.2.1
  have hl : lv_has ls 2 [(0, .ref h0), (1, .int x_0)] := hl
  refine lv_aload_n hx hb dX5_soundsIn_0 rfl (lv_at hl 0 rfl) ?_
  refine lv_iload_n hx hb dX5_soundsIn_1 rfl (lv_at hl 1 rfl) ?_
  refine iv_cVi X k_good k_mf_X5_hasBell k_im_X5_hasBell k_sel_X5_hasBell k_ml_X5_88 ft_X5 hB a_h0 sh_5 (As := [.int x_0]) (c_X5_hasBell l D tys base G h0 g_h0 r_h0 a_h0 x_0 (i_x_0.wk (by decide))) ⟨rfl, rfl⟩ ⟨Nat.le_of_ble_eq_true rfl, Nat.le_of_ble_eq_true rfl⟩ ⟨Nat.le_of_ble_eq_true rfl, Nat.le_of_ble_eq_true rfl⟩ rfl rfl hl.1 (Nat.le_of_ble_eq_true rfl) dX5_soundsIn_2 (fun x1 G9 H locs hq hB => ?_)
  obtain ⟨rfl, i_x1, hp2⟩ := hq
  refine lv_if_eq (tgt := 29) hx hb dX5_soundsIn_5 (by decide) (fun c3 => ?_) (fun c3 => ?_)
  · skip
    have i3_x1 : iv_R 0 0 x1 := (i_x1.cutHi (n := 0) (iv_eq_r c3 q_0).2)
    refine lv_iconst (v := 0) hx hb dX5_soundsIn_29 (by decide) ?_
    exact iv_iret X hr hlocks hB ⟨rfl, (q_0.wk (by decide))⟩ dX5_soundsIn_30
  · skip
    have i4_x1 : iv_R 1 1 x1 := iv_ne_lo c3 i_x1 q_0 (by decide)
    refine lv_aload_n hx hb dX5_soundsIn_8 rfl (lv_at hl 0 rfl) ?_
    refine iv_getr X ft_X5 hB a_h0 sh_5 0 (by decide) rfl k_fl_X5_11 dX5_soundsIn_9 (fun b6 g_b6 r_b6 e_b6 a_b6 => ?_)
    refine lv_iload_n hx hb dX5_soundsIn_12 rfl (lv_at hl 1 rfl) ?_
    refine iv_aald X hB a_b6 sh_40 (iv_in i_x_0 (by decide)) dX5_soundsIn_13 (fun b7 g_b7 r_b7 e_b7 a_b7 => ?_)
    refine iv_geti X ft_X1 hB a_b7 sh_1 6 (by decide) rfl k_fl_X5_92 dX5_soundsIn_14 (fun x8 e_x8 i_x8 => ?_)
    refine lv_if_ne (tgt := 29) hx hb dX5_soundsIn_17 (by decide) (fun c9 => ?_) (fun c9 => ?_)
    · skip
      refine lv_iconst (v := 0) hx hb dX5_soundsIn_29 (by decide) ?_
      exact iv_iret X hr hlocks hB ⟨rfl, (q_0.wk (by decide))⟩ dX5_soundsIn_30
    · skip
      have i9_x8 : iv_R 0 0 x8 := ((i_x8.cutLo (n := 0) (iv_eq_r c9 q_0).1).cutHi (n := 0) (iv_eq_r c9 q_0).2)
      refine lv_aload_n hx hb dX5_soundsIn_20 rfl (lv_at hl 0 rfl) ?_
      refine iv_getr X ft_X5 hB a_h0 sh_5 11 (by decide) rfl k_fl_X5_40 dX5_soundsIn_21 (fun b11 g_b11 r_b11 e_b11 a_b11 => ?_)
      refine lv_iload_n hx hb dX5_soundsIn_24 rfl (lv_at hl 1 rfl) ?_
      refine iv_ald X hB a_b11 sh_21 (iv_in i_x_0 (by decide)) dX5_soundsIn_25 (fun x12 e_x12 i_x12 => ?_)
      refine lv_goto (tgt := 30) hx hb dX5_soundsIn_26 (by decide) ?_
      exact iv_iret X hr hlocks hB ⟨rfl, i_x12⟩ dX5_soundsIn_30
theorem dX5_soundsAt_0 : decode cX5_soundsAt 0 = .ok (.aload_n 0, 1) := by decide +kernel
theorem dX5_soundsAt_1 : decode cX5_soundsAt 1 = .ok (.iload_n 1, 1) := by decide +kernel
theorem dX5_soundsAt_2 : decode cX5_soundsAt 2 = .ok (.invokevirtual 95, 3) := by decide +kernel
theorem dX5_soundsAt_5 : decode cX5_soundsAt 5 = .ok (.iload_n 2, 1) := by decide +kernel
theorem dX5_soundsAt_6 : decode cX5_soundsAt 6 = .ok (.iushr, 1) := by decide +kernel
theorem dX5_soundsAt_7 : decode cX5_soundsAt 7 = .ok (.iconst 1, 1) := by decide +kernel
theorem dX5_soundsAt_8 : decode cX5_soundsAt 8 = .ok (.iand, 1) := by decide +kernel
theorem dX5_soundsAt_9 : decode cX5_soundsAt 9 = .ok (.iconst 1, 1) := by decide +kernel
theorem dX5_soundsAt_10 : decode cX5_soundsAt 10 = .ok (.if_icmp .ne 7, 3) := by decide +kernel
theorem dX5_soundsAt_13 : decode cX5_soundsAt 13 = .ok (.iconst 1, 1) := by decide +kernel
theorem dX5_soundsAt_14 : decode cX5_soundsAt 14 = .ok (.goto 4, 3) := by decide +kernel
theorem dX5_soundsAt_17 : decode cX5_soundsAt 17 = .ok (.iconst 0, 1) := by decide +kernel
theorem dX5_soundsAt_18 : decode cX5_soundsAt 18 = .ok (.ireturn, 1) := by decide +kernel
set_option maxHeartbeats 4000000 in
set_option maxRecDepth 100000 in
theorem c_X5_soundsAt (l : Launch) (D : va_G) (tys : List (ClassId × FieldType)) (base : Nat) (G : iv_G) (h0 : Nat) (g_h0 : Nat → Int32) (r_h0 : Nat → Nat) (a_h0 : G h0 = some (5, g_h0, r_h0)) (x_0 : Int32) (i_x_0 : iv_R 0 9 x_0) (x_1 : Int32) (i_x_1 : iv_R 0 23 x_1) : Met l yX5_soundsAt (Cond.code yX5_soundsAt cX5_soundsAt 3 (some .boolean) :: iv_W0) ({ frames := 2, cells := 0, slots := 0, locals := 42 }) (iv_Pc iv_sh D classes tys base G [.ref h0, .int x_0, .int x_1]) (iv_Qi iv_sh D classes tys base (fun v G' => G = G' ∧ iv_R 0 1 v)) 0 0 (iv_A base) := by
  refine iv_head (by decide) (Nat.le_of_ble_eq_true rfl) ?_
  intro p e s m args below meth c ls X hr hlocks hname hB hl
  have X := X
  have hx := X.1.1
  have hb := X.1.2.1
  have hl : lv_has ls 3 [(0, .ref h0), (1, .int x_0), (2, .int x_1)] := hl
  refine lv_aload_n hx hb dX5_soundsAt_0 rfl (lv_at hl 0 rfl) ?_
  refine lv_iload_n hx hb dX5_soundsAt_1 rfl (lv_at hl 1 rfl) ?_
  refine iv_cVi X k_good k_mf_X5_soundsIn k_im_X5_soundsIn k_sel_X5_soundsIn k_ml_X5_95 ft_X5 hB a_h0 sh_5 (As := [.int x_0]) (c_X5_soundsIn l D tys base G h0 g_h0 r_h0 a_h0 x_0 i_x_0) ⟨rfl, rfl⟩ ⟨Nat.le_of_ble_eq_true rfl, Nat.le_of_ble_eq_true rfl⟩ ⟨Nat.le_of_ble_eq_true rfl, Nat.le_of_ble_eq_true rfl⟩ rfl rfl hl.1 (Nat.le_of_ble_eq_true rfl) dX5_soundsAt_2 (fun x1 G9 H locs hq hB => ?_)
  obtain ⟨rfl, i_x1⟩ := hq
  refine lv_iload_n hx hb dX5_soundsAt_5 rfl (lv_at hl 2 rfl) ?_
  refine lv_iushr hx hb dX5_soundsAt_6 rfl ?_
  refine lv_topi (fun x2 e_x2 => ?_)
  have i_x2 := iv_R.all x2
  refine lv_iconst (v := 1) hx hb dX5_soundsAt_7 (by decide) ?_
  refine iv_iand_r hx hb q_1 (by decide) dX5_soundsAt_8 (fun x3 e_x3 i_x3 => ?_)
  refine lv_iconst (v := 1) hx hb dX5_soundsAt_9 (by decide) ?_
  refine lv_icmp_ne (tgt := 17) hx hb dX5_soundsAt_10 (by decide) (fun c4 => ?_) (fun c4 => ?_)
  · skip
    have i4_x3 : iv_R 0 0 x3 := iv_ne_hi c4 i_x3 q_1 (by decide)
    refine lv_iconst (v := 0) hx hb dX5_soundsAt_17 (by decide) ?_
    exact iv_zret X hr hlocks hB (q_0.wk (by decide)) ⟨rfl, (q_0.wk (by decide))⟩ dX5_soundsAt_18
  · skip
    have i5_x3 : iv_R 1 1 x3 := (i_x3.cutLo (n := 1) (iv_eq_r c4 q_1).1)
    refine lv_iconst (v := 1) hx hb dX5_soundsAt_13 (by decide) ?_
    refine lv_goto (tgt := 18) hx hb dX5_soundsAt_14 (by decide) ?_
    exact iv_zret X hr hlocks hB (q_1.wk (by decide)) ⟨rfl, (q_1.wk (by decide))⟩ dX5_soundsAt_18
theorem dX2_calledTo_0 : decode cX2_calledTo 0 = .ok (.aload_n 0, 1) := by decide +kernel
theorem dX2_calledTo_1 : decode cX2_calledTo 1 = .ok (.getfield 15, 3) := by decide +kernel
theorem dX2_calledTo_4 : decode cX2_calledTo 4 = .ok (.getfield 19, 3) := by decide +kernel
theorem dX2_calledTo_7 : decode cX2_calledTo 7 = .ok (.iload_n 1, 1) := by decide +kernel
theorem dX2_calledTo_8 : decode cX2_calledTo 8 = .ok (.aaload, 1) := by decide +kernel
theorem dX2_calledTo_9 : decode cX2_calledTo 9 = .ok (.getfield 75, 3) := by decide +kernel
theorem dX2_calledTo_12 : decode cX2_calledTo 12 = .ok (.istore_n 3, 1) := by decide +kernel
theorem dX2_calledTo_13 : decode cX2_calledTo 13 = .ok (.iload_n 1, 1) := by decide +kernel
theorem dX2_calledTo_14 : decode cX2_calledTo 14 = .ok (.istore 4, 2) := by decide +kernel
theorem dX2_calledTo_16 : decode cX2_calledTo 16 = .ok (.aload_n 0, 1) := by decide +kernel
theorem dX2_calledTo_17 : decode cX2_calledTo 17 = .ok (.iload_n 1, 1) := by decide +kernel
theorem dX2_calledTo_18 : decode cX2_calledTo 18 = .ok (.iconst 0, 1) := by decide +kernel
theorem dX2_calledTo_19 : decode cX2_calledTo 19 = .ok (.iload_n 2, 1) := by decide +kernel
theorem dX2_calledTo_20 : decode cX2_calledTo 20 = .ok (.invokevirtual 81, 3) := by decide +kernel
theorem dX2_calledTo_23 : decode cX2_calledTo 23 = .ok (.istore 5, 2) := by decide +kernel
theorem dX2_calledTo_25 : decode cX2_calledTo 25 = .ok (.iconst 0, 1) := by decide +kernel
theorem dX2_calledTo_26 : decode cX2_calledTo 26 = .ok (.istore 6, 2) := by decide +kernel
theorem dX2_calledTo_28 : decode cX2_calledTo 28 = .ok (.iload 6, 2) := by decide +kernel
theorem dX2_calledTo_30 : decode cX2_calledTo 30 = .ok (.aload_n 0, 1) := by decide +kernel
theorem dX2_calledTo_31 : decode cX2_calledTo 31 = .ok (.getfield 15, 3) := by decide +kernel
theorem dX2_calledTo_34 : decode cX2_calledTo 34 = .ok (.getfield 85, 3) := by decide +kernel
theorem dX2_calledTo_37 : decode cX2_calledTo 37 = .ok (.if_icmp .ge 60, 3) := by decide +kernel
theorem dX2_calledTo_40 : decode cX2_calledTo 40 = .ok (.aload_n 0, 1) := by decide +kernel
theorem dX2_calledTo_41 : decode cX2_calledTo 41 = .ok (.getfield 15, 3) := by decide +kernel
theorem dX2_calledTo_44 : decode cX2_calledTo 44 = .ok (.iload 6, 2) := by decide +kernel
theorem dX2_calledTo_46 : decode cX2_calledTo 46 = .ok (.iload_n 2, 1) := by decide +kernel
theorem dX2_calledTo_47 : decode cX2_calledTo 47 = .ok (.invokevirtual 100, 3) := by decide +kernel
theorem dX2_calledTo_50 : decode cX2_calledTo 50 = .ok (.ifCond .eq 41, 3) := by decide +kernel
theorem dX2_calledTo_53 : decode cX2_calledTo 53 = .ok (.aload_n 0, 1) := by decide +kernel
theorem dX2_calledTo_54 : decode cX2_calledTo 54 = .ok (.getfield 15, 3) := by decide +kernel
theorem dX2_calledTo_57 : decode cX2_calledTo 57 = .ok (.iload_n 1, 1) := by decide +kernel
theorem dX2_calledTo_58 : decode cX2_calledTo 58 = .ok (.iload 6, 2) := by decide +kernel
theorem dX2_calledTo_60 : decode cX2_calledTo 60 = .ok (.invokevirtual 106, 3) := by decide +kernel
theorem dX2_calledTo_63 : decode cX2_calledTo 63 = .ok (.ifCond .eq 28, 3) := by decide +kernel
theorem dX2_calledTo_66 : decode cX2_calledTo 66 = .ok (.aload_n 0, 1) := by decide +kernel
theorem dX2_calledTo_67 : decode cX2_calledTo 67 = .ok (.iload 6, 2) := by decide +kernel
theorem dX2_calledTo_69 : decode cX2_calledTo 69 = .ok (.iload_n 3, 1) := by decide +kernel
theorem dX2_calledTo_70 : decode cX2_calledTo 70 = .ok (.iload_n 2, 1) := by decide +kernel
theorem dX2_calledTo_71 : decode cX2_calledTo 71 = .ok (.invokevirtual 103, 3) := by decide +kernel
theorem dX2_calledTo_74 : decode cX2_calledTo 74 = .ok (.istore 7, 2) := by decide +kernel
theorem dX2_calledTo_76 : decode cX2_calledTo 76 = .ok (.iload 7, 2) := by decide +kernel
theorem dX2_calledTo_78 : decode cX2_calledTo 78 = .ok (.iload 5, 2) := by decide +kernel
theorem dX2_calledTo_80 : decode cX2_calledTo 80 = .ok (.if_icmp .le 11, 3) := by decide +kernel
theorem dX2_calledTo_83 : decode cX2_calledTo 83 = .ok (.iload 7, 2) := by decide +kernel
theorem dX2_calledTo_85 : decode cX2_calledTo 85 = .ok (.istore 5, 2) := by decide +kernel
theorem dX2_calledTo_87 : decode cX2_calledTo 87 = .ok (.iload 6, 2) := by decide +kernel
theorem dX2_calledTo_89 : decode cX2_calledTo 89 = .ok (.istore 4, 2) := by decide +kernel
theorem dX2_calledTo_91 : decode cX2_calledTo 91 = .ok (.iinc 6 1, 3) := by decide +kernel
theorem dX2_calledTo_94 : decode cX2_calledTo 94 = .ok (.goto (-66), 3) := by decide +kernel
theorem dX2_calledTo_97 : decode cX2_calledTo 97 = .ok (.iload 4, 2) := by decide +kernel
theorem dX2_calledTo_99 : decode cX2_calledTo 99 = .ok (.ireturn, 1) := by decide +kernel
set_option maxHeartbeats 4000000 in
set_option maxRecDepth 100000 in
theorem c_X2_calledTo (l : Launch) (D : va_G) (tys : List (ClassId × FieldType)) (base : Nat) (G : iv_G) (h0 : Nat) (g_h0 : Nat → Int32) (r_h0 : Nat → Nat) (a_h0 : G h0 = some (2, g_h0, r_h0)) (x_0 : Int32) (i_x_0 : iv_R 0 9 x_0) (x_1 : Int32) (i_x_1 : iv_R 0 23 x_1) : Met l yX2_calledTo (Cond.code yX2_calledTo cX2_calledTo 8 (some .int) :: iv_W0) ({ frames := 4, cells := 0, slots := 0, locals := 100 }) (iv_Pc iv_sh D classes tys base G [.ref h0, .int x_0, .int x_1]) (iv_Qi iv_sh D classes tys base (fun v G' => iv_Md [28, 30] G G' ∧ iv_R 0 9 v)) 0 0 (iv_A base) := by
  refine iv_head (by decide) (Nat.le_of_ble_eq_true rfl) ?_
  intro p e s m args below meth c ls X hr hlocks hname hB hl
  have X := X
  have hx := X.1.1
  have hb := X.1.2.1
  have hM : iv_Md [28, 30] G G := iv_Md.rf
  have hl : lv_has ls 8 [(0, .ref h0), (1, .int x_0), (2, .int x_1)] := hl
  refine lv_aload_n hx hb dX2_calledTo_0 rfl (lv_at hl 0 rfl) ?_
  refine iv_getr X ft_X2 hB a_h0 sh_2 0 (by decide) rfl k_fl_X2_15 dX2_calledTo_1 (fun b1 g_b1 r_b1 e_b1 a_b1 => ?_)
  refine iv_getr X ft_X5 hB a_b1 sh_5 0 (by decide) rfl k_fl_X2_19 dX2_calledTo_4 (fun b2 g_b2 r_b2 e_b2 a_b2 => ?_)
  refine lv_iload_n hx hb dX2_calledTo_7 rfl (lv_at hl 1 rfl) ?_
  refine iv_aald X hB a_b2 sh_40 (iv_in i_x_0 (by decide)) dX2_calledTo_8 (fun b3 g_b3 r_b3 e_b3 a_b3 => ?_)
  refine iv_geti X ft_X1 hB a_b3 sh_1 0 (by decide) rfl k_fl_X2_75 dX2_calledTo_9 (fun x4 e_x4 i_x4 => ?_)
  refine lv_istore_n (lv' := [(3, .int x4), (0, .ref h0), (1, .int x_0), (2, .int x_1)]) hx hb dX2_calledTo_12 rfl hl (by decide) rfl (fun ls hl => ?_)
  refine lv_iload_n hx hb dX2_calledTo_13 rfl (lv_at hl 2 rfl) ?_
  refine lv_istore (lv' := [(4, .int x_0), (3, .int x4), (0, .ref h0), (1, .int x_0), (2, .int x_1)]) hx hb dX2_calledTo_14 hl (by decide) rfl (fun ls hl => ?_)
  refine lv_aload_n hx hb dX2_calledTo_16 rfl (lv_at hl 2 rfl) ?_
  refine lv_iload_n hx hb dX2_calledTo_17 rfl (lv_at hl 3 rfl) ?_
  refine lv_iconst (v := 0) hx hb dX2_calledTo_18 (by decide) ?_
  refine lv_iload_n hx hb dX2_calledTo_19 rfl (lv_at hl 4 rfl) ?_
  refine iv_cVi X k_good k_mf_X2_loudFrom k_im_X2_loudFrom k_sel_X2_loudFrom k_ml_X2_81 ft_X2 hB a_h0 sh_2 (As := [.int x_0, .int 0, .int x_1]) (c_X2_loudFrom l D tys base G h0 g_h0 r_h0 a_h0 x_0 i_x_0 0 (q_0.wk (by decide)) x_1 i_x_1) ⟨rfl, rfl⟩ ⟨Nat.le_of_ble_eq_true rfl, Nat.le_of_ble_eq_true rfl⟩ ⟨Nat.le_of_ble_eq_true rfl, Nat.le_of_ble_eq_true rfl⟩ rfl rfl hl.1 (Nat.le_of_ble_eq_true rfl) dX2_calledTo_20 (fun x5 G9 H locs hq hB => ?_)
  obtain ⟨hm, i_x5⟩ := hq
  obtain ⟨G6, hG9⟩ : ∃ g, g = G9 := ⟨_, rfl⟩
  rw [← hG9] at hm hB
  have hM := hM.stp hm (by decide)
  have a_h0 := hm.at a_h0 (by decide)
  refine lv_istore (lv' := [(5, .int x5), (4, .int x_0), (3, .int x4), (0, .ref h0), (1, .int x_0), (2, .int x_1)]) hx hb dX2_calledTo_23 hl (by decide) rfl (fun ls hl => ?_)
  refine lv_iconst (v := 0) hx hb dX2_calledTo_25 (by decide) ?_
  refine lv_istore (lv' := [(6, .int 0), (5, .int x5), (4, .int x_0), (3, .int x4), (0, .ref h0), (1, .int x_0), (2, .int x_1)]) hx hb dX2_calledTo_26 hl (by decide) rfl (fun ls hl => ?_)
  have L_28 : ∀ (n_28 : Nat) (G10 : iv_G) (hM : iv_Md [28, 30] G G10) (H : Heap) (locs : List Loc) (hB : iv_B iv_sh D classes tys base G10 s.heap H locs) (a_h0 : G10 h0 = some (2, g_h0, r_h0)) (x7 : Int32) (i_x7 : iv_R 0 9 x7) (x8 : Int32) (i_x8 : iv_R 0 999 x8) (x9 : Int32) (i_x9 : iv_R 0 10 x9) (hn_28 : (11 - x9.toInt).toNat < n_28) (ls : Array Slot) (hl : lv_has ls 8 [(6, .int x9), (5, .int x8), (4, .int x7), (3, .int x4), (0, .ref h0), (1, .int x_0), (2, .int x_1)]), W p l e ({ frames := 4, cells := 0, slots := 0, locals := 100 } : Room) s m args below meth c H locs 0 0 (MQ below (iv_Qi iv_sh D classes tys base (fun v G' => iv_Md [28, 30] G G' ∧ iv_R 0 9 v)) args s 0 0 (iv_A base)) (F0 m 28 ls []) := by
    intro n_28
    induction n_28 with
    | zero => intro G10 hM H locs hB a_h0 x7 i_x7 x8 i_x8 x9 i_x9 hn_28 ls hl; exact absurd hn_28 (Nat.not_lt_zero _)
    | succ n_28 ih_28 =>
      intro G10 hM H locs hB a_h0 x7 i_x7 x8 i_x8 x9 i_x9 hn_28 ls hl
      refine lv_iload hx hb dX2_calledTo_28 (lv_at hl 0 rfl) ?_
      refine lv_aload_n hx hb dX2_calledTo_30 rfl (lv_at hl 4 rfl) ?_
      refine iv_getr X ft_X2 hB a_h0 sh_2 0 (by decide) rfl k_fl_X2_15 dX2_calledTo_31 (fun b11 g_b11 r_b11 e_b11 a_b11 => ?_)
      refine iv_geti X ft_X5 hB a_b11 sh_5 1 (by decide) rfl k_fl_X2_85 dX2_calledTo_34 (fun x12 e_x12 i_x12 => ?_)
      refine lv_icmp_ge (tgt := 97) hx hb dX2_calledTo_37 (by decide) (fun c13 => ?_) (fun c13 => ?_)
      · skip
        refine lv_iload hx hb dX2_calledTo_97 (lv_at hl 2 rfl) ?_
        exact iv_iret X hr hlocks hB ⟨hM, i_x7⟩ dX2_calledTo_99
      · skip
        have i13_x9 : iv_R 0 9 x9 := (i_x9.cutHi (n := 9) (iv_lt_r (iv_nle c13) i_x12 (by decide)))
        have i14_x12 : iv_R 1 10 x12 := (i_x12.cutLo (n := 1) (iv_lt_l (iv_nle c13) i_x9 (by decide)))
        refine lv_aload_n hx hb dX2_calledTo_40 rfl (lv_at hl 4 rfl) ?_
        refine iv_getr0 X ft_X2 hB a_h0 sh_2 0 (by decide) rfl k_fl_X2_15 dX2_calledTo_41 e_b11 ?_
        refine lv_iload hx hb dX2_calledTo_44 (lv_at hl 0 rfl) ?_
        refine lv_iload_n hx hb dX2_calledTo_46 rfl (lv_at hl 6 rfl) ?_
        refine iv_cVi X k_good k_mf_X5_soundsAt k_im_X5_soundsAt k_sel_X5_soundsAt k_ml_X2_100 ft_X5 hB a_b11 sh_5 (As := [.int x9, .int x_1]) (c_X5_soundsAt l D tys base G10 b11 g_b11 r_b11 a_b11 x9 i13_x9 x_1 i_x_1) ⟨rfl, rfl⟩ ⟨Nat.le_of_ble_eq_true rfl, Nat.le_of_ble_eq_true rfl⟩ ⟨Nat.le_of_ble_eq_true rfl, Nat.le_of_ble_eq_true rfl⟩ rfl rfl hl.1 (Nat.le_of_ble_eq_true rfl) dX2_calledTo_47 (fun x16 G9 H locs hq hB => ?_)
        obtain ⟨rfl, i_x16⟩ := hq
        refine lv_if_eq (tgt := 91) hx hb dX2_calledTo_50 (by decide) (fun c17 => ?_) (fun c17 => ?_)
        · skip
          have i17_x16 : iv_R 0 0 x16 := (i_x16.cutHi (n := 0) (iv_eq_r c17 q_0).2)
          refine iv_iinc hx hb i13_x9 (lo := 1) (hi := 10) (by decide) dX2_calledTo_91 hl (k := 0) rfl (by decide) (fun x19 ls e_x19 i_x19 hl => ?_)
          have hl : lv_has ls 8 [(6, .int x19), (5, .int x8), (4, .int x7), (3, .int x4), (0, .ref h0), (1, .int x_0), (2, .int x_1)] := hl
          refine lv_goto (tgt := 28) hx hb dX2_calledTo_94 (by decide) ?_
          exact ih_28 G10 hM _ _ hB a_h0 x7 i_x7 x8 i_x8 x19 (i_x19.wk (by decide)) (iv_mup (c := 1) i_x9 (by decide) (by decide) (by omega) hn_28) _ (lv_sub hl [0, 1, 2, 3, 4, 5, 6] rfl)
        · skip
          have i19_x16 : iv_R 1 1 x16 := iv_ne_lo c17 i_x16 q_0 (by decide)
          refine lv_aload_n hx hb dX2_calledTo_53 rfl (lv_at hl 4 rfl) ?_
          refine iv_getr0 X ft_X2 hB a_h0 sh_2 0 (by decide) rfl k_fl_X2_15 dX2_calledTo_54 e_b11 ?_
          refine lv_iload_n hx hb dX2_calledTo_57 rfl (lv_at hl 5 rfl) ?_
          refine lv_iload hx hb dX2_calledTo_58 (lv_at hl 0 rfl) ?_
          refine iv_cVi X k_good k_mf_X5_areOctaves k_im_X5_areOctaves k_sel_X5_areOctaves k_ml_X2_106 ft_X5 hB a_b11 sh_5 (As := [.int x_0, .int x9]) (c_X5_areOctaves l D tys base G10 b11 g_b11 r_b11 a_b11 x_0 i_x_0 x9 i13_x9) ⟨rfl, rfl⟩ ⟨Nat.le_of_ble_eq_true rfl, Nat.le_of_ble_eq_true rfl⟩ ⟨Nat.le_of_ble_eq_true rfl, Nat.le_of_ble_eq_true rfl⟩ rfl rfl hl.1 (Nat.le_of_ble_eq_true rfl) dX2_calledTo_60 (fun x21 G9 H locs hq hB => ?_)
          obtain ⟨rfl, i_x21⟩ := hq
          refine lv_if_eq (tgt := 91) hx hb dX2_calledTo_63 (by decide) (fun c22 => ?_) (fun c22 => ?_)
          · skip
            have i22_x21 : iv_R 0 0 x21 := (i_x21.cutHi (n := 0) (iv_eq_r c22 q_0).2)
            refine iv_iinc hx hb i13_x9 (lo := 1) (hi := 10) (by decide) dX2_calledTo_91 hl (k := 0) rfl (by decide) (fun x24 ls e_x24 i_x24 hl => ?_)
            have hl : lv_has ls 8 [(6, .int x24), (5, .int x8), (4, .int x7), (3, .int x4), (0, .ref h0), (1, .int x_0), (2, .int x_1)] := hl
            refine lv_goto (tgt := 28) hx hb dX2_calledTo_94 (by decide) ?_
            exact ih_28 G10 hM _ _ hB a_h0 x7 i_x7 x8 i_x8 x24 (i_x24.wk (by decide)) (iv_mup (c := 1) i_x9 (by decide) (by decide) (by omega) hn_28) _ (lv_sub hl [0, 1, 2, 3, 4, 5, 6] rfl)
          · skip
            have i24_x21 : iv_R 1 1 x21 := iv_ne_lo c22 i_x21 q_0 (by decide)
            refine lv_aload_n hx hb dX2_calledTo_66 rfl (lv_at hl 4 rfl) ?_
            refine lv_iload hx hb dX2_calledTo_67 (lv_at hl 0 rfl) ?_
            refine lv_iload_n hx hb dX2_calledTo_69 rfl (lv_at hl 3 rfl) ?_
            refine lv_iload_n hx hb dX2_calledTo_70 rfl (lv_at hl 6 rfl) ?_
            refine iv_cVi X k_good k_mf_X2_loudAt k_im_X2_loudAt k_sel_X2_loudAt k_ml_X2_103 ft_X2 hB a_h0 sh_2 (As := [.int x9, .int x4, .int x_1]) (c_X2_loudAt l D tys base G10 h0 g_h0 r_h0 a_h0 x9 i13_x9 x4 i_x4 x_1 i_x_1) ⟨rfl, rfl⟩ ⟨Nat.le_of_ble_eq_true rfl, Nat.le_of_ble_eq_true rfl⟩ ⟨Nat.le_of_ble_eq_true rfl, Nat.le_of_ble_eq_true rfl⟩ rfl rfl hl.1 (Nat.le_of_ble_eq_true rfl) dX2_calledTo_71 (fun x26 G9 H locs hq hB => ?_)
            obtain ⟨hm, i_x26⟩ := hq
            obtain ⟨G27, hG9⟩ : ∃ g, g = G9 := ⟨_, rfl⟩
            rw [← hG9] at hm hB
            have hM := hM.stp hm (by decide)
            have a_h0 := hm.at a_h0 (by decide)
            refine lv_istore (lv' := [(7, .int x26), (6, .int x9), (5, .int x8), (4, .int x7), (3, .int x4), (0, .ref h0), (1, .int x_0), (2, .int x_1)]) hx hb dX2_calledTo_74 hl (by decide) rfl (fun ls hl => ?_)
            refine lv_iload hx hb dX2_calledTo_76 (lv_at hl 0 rfl) ?_
            refine lv_iload hx hb dX2_calledTo_78 (lv_at hl 2 rfl) ?_
            refine lv_icmp_le (tgt := 91) hx hb dX2_calledTo_80 (by decide) (fun c28 => ?_) (fun c28 => ?_)
            · skip
              refine iv_iinc hx hb i13_x9 (lo := 1) (hi := 10) (by decide) dX2_calledTo_91 hl (k := 1) rfl (by decide) (fun x29 ls e_x29 i_x29 hl => ?_)
              have hl : lv_has ls 8 [(6, .int x29), (7, .int x26), (5, .int x8), (4, .int x7), (3, .int x4), (0, .ref h0), (1, .int x_0), (2, .int x_1)] := hl
              refine lv_goto (tgt := 28) hx hb dX2_calledTo_94 (by decide) ?_
              exact ih_28 G27 hM _ _ hB a_h0 x7 i_x7 x8 i_x8 x29 (i_x29.wk (by decide)) (iv_mup (c := 1) i_x9 (by decide) (by decide) (by omega) hn_28) _ (lv_sub hl [0, 2, 3, 4, 5, 6, 7] rfl)
            · skip
              have i29_x8 : iv_R 0 998 x8 := (i_x8.cutHi (n := 998) (iv_lt_r (iv_nle c28) i_x26 (by decide)))
              have i30_x26 : iv_R 1 999 x26 := (i_x26.cutLo (n := 1) (iv_lt_l (iv_nle c28) i_x8 (by decide)))
              refine lv_iload hx hb dX2_calledTo_83 (lv_at hl 0 rfl) ?_
              refine lv_istore (lv' := [(5, .int x26), (7, .int x26), (6, .int x9), (4, .int x7), (3, .int x4), (0, .ref h0), (1, .int x_0), (2, .int x_1)]) hx hb dX2_calledTo_85 hl (by decide) rfl (fun ls hl => ?_)
              refine lv_iload hx hb dX2_calledTo_87 (lv_at hl 2 rfl) ?_
              refine lv_istore (lv' := [(4, .int x9), (5, .int x26), (7, .int x26), (6, .int x9), (3, .int x4), (0, .ref h0), (1, .int x_0), (2, .int x_1)]) hx hb dX2_calledTo_89 hl (by decide) rfl (fun ls hl => ?_)
              refine iv_iinc hx hb i13_x9 (lo := 1) (hi := 10) (by decide) dX2_calledTo_91 hl (k := 3) rfl (by decide) (fun x32 ls e_x32 i_x32 hl => ?_)
              have hl : lv_has ls 8 [(6, .int x32), (4, .int x9), (5, .int x26), (7, .int x26), (3, .int x4), (0, .ref h0), (1, .int x_0), (2, .int x_1)] := hl
              refine lv_goto (tgt := 28) hx hb dX2_calledTo_94 (by decide) ?_
              exact ih_28 G27 hM _ _ hB a_h0 x9 i13_x9 x26 (i30_x26.wk (by decide)) x32 (i_x32.wk (by decide)) (iv_mup (c := 1) i_x9 (by decide) (by decide) (by omega) hn_28) _ (lv_sub hl [0, 2, 1, 4, 5, 6, 7] rfl)
  exact L_28 _ G6 hM _ _ hB a_h0 x_0 i_x_0 x5 i_x5 0 (q_0.wk (by decide)) (Nat.lt_succ_self _) _ (lv_sub hl [0, 1, 2, 3, 4, 5, 6] rfl)
theorem dX2_drowningHours_0 : decode cX2_drowningHours 0 = .ok (.aload_n 0, 1) := by decide +kernel
theorem dX2_drowningHours_1 : decode cX2_drowningHours 1 = .ok (.getfield 15, 3) := by decide +kernel
theorem dX2_drowningHours_4 : decode cX2_drowningHours 4 = .ok (.aload_n 0, 1) := by decide +kernel
theorem dX2_drowningHours_5 : decode cX2_drowningHours 5 = .ok (.getfield 15, 3) := by decide +kernel
theorem dX2_drowningHours_8 : decode cX2_drowningHours 8 = .ok (.getfield 19, 3) := by decide +kernel
theorem dX2_drowningHours_11 : decode cX2_drowningHours 11 = .ok (.iload_n 1, 1) := by decide +kernel
theorem dX2_drowningHours_12 : decode cX2_drowningHours 12 = .ok (.aaload, 1) := by decide +kernel
theorem dX2_drowningHours_13 : decode cX2_drowningHours 13 = .ok (.getfield 75, 3) := by decide +kernel
theorem dX2_drowningHours_16 : decode cX2_drowningHours 16 = .ok (.iload_n 3, 1) := by decide +kernel
theorem dX2_drowningHours_17 : decode cX2_drowningHours 17 = .ok (.invokevirtual 78, 3) := by decide +kernel
theorem dX2_drowningHours_20 : decode cX2_drowningHours 20 = .ok (.istore 5, 2) := by decide +kernel
theorem dX2_drowningHours_22 : decode cX2_drowningHours 22 = .ok (.iconst 0, 1) := by decide +kernel
theorem dX2_drowningHours_23 : decode cX2_drowningHours 23 = .ok (.istore 6, 2) := by decide +kernel
theorem dX2_drowningHours_25 : decode cX2_drowningHours 25 = .ok (.iconst 0, 1) := by decide +kernel
theorem dX2_drowningHours_26 : decode cX2_drowningHours 26 = .ok (.istore 7, 2) := by decide +kernel
theorem dX2_drowningHours_28 : decode cX2_drowningHours 28 = .ok (.iload 7, 2) := by decide +kernel
theorem dX2_drowningHours_30 : decode cX2_drowningHours 30 = .ok (.bipush 24, 2) := by decide +kernel
theorem dX2_drowningHours_32 : decode cX2_drowningHours 32 = .ok (.if_icmp .ge 63, 3) := by decide +kernel
theorem dX2_drowningHours_35 : decode cX2_drowningHours 35 = .ok (.iload 4, 2) := by decide +kernel
theorem dX2_drowningHours_37 : decode cX2_drowningHours 37 = .ok (.iload 7, 2) := by decide +kernel
theorem dX2_drowningHours_39 : decode cX2_drowningHours 39 = .ok (.iushr, 1) := by decide +kernel
theorem dX2_drowningHours_40 : decode cX2_drowningHours 40 = .ok (.iconst 1, 1) := by decide +kernel
theorem dX2_drowningHours_41 : decode cX2_drowningHours 41 = .ok (.iand, 1) := by decide +kernel
theorem dX2_drowningHours_42 : decode cX2_drowningHours 42 = .ok (.iconst 1, 1) := by decide +kernel
theorem dX2_drowningHours_43 : decode cX2_drowningHours 43 = .ok (.if_icmp .ne 7, 3) := by decide +kernel
theorem dX2_drowningHours_46 : decode cX2_drowningHours 46 = .ok (.iconst 1, 1) := by decide +kernel
theorem dX2_drowningHours_47 : decode cX2_drowningHours 47 = .ok (.goto 4, 3) := by decide +kernel
theorem dX2_drowningHours_50 : decode cX2_drowningHours 50 = .ok (.iconst 0, 1) := by decide +kernel
theorem dX2_drowningHours_51 : decode cX2_drowningHours 51 = .ok (.istore 8, 2) := by decide +kernel
theorem dX2_drowningHours_53 : decode cX2_drowningHours 53 = .ok (.iload 8, 2) := by decide +kernel
theorem dX2_drowningHours_55 : decode cX2_drowningHours 55 = .ok (.ifCond .eq 34, 3) := by decide +kernel
theorem dX2_drowningHours_58 : decode cX2_drowningHours 58 = .ok (.iconst 2, 1) := by decide +kernel
theorem dX2_drowningHours_59 : decode cX2_drowningHours 59 = .ok (.aload_n 0, 1) := by decide +kernel
theorem dX2_drowningHours_60 : decode cX2_drowningHours 60 = .ok (.iload_n 1, 1) := by decide +kernel
theorem dX2_drowningHours_61 : decode cX2_drowningHours 61 = .ok (.iload 5, 2) := by decide +kernel
theorem dX2_drowningHours_63 : decode cX2_drowningHours 63 = .ok (.iload 7, 2) := by decide +kernel
theorem dX2_drowningHours_65 : decode cX2_drowningHours 65 = .ok (.invokevirtual 81, 3) := by decide +kernel
theorem dX2_drowningHours_68 : decode cX2_drowningHours 68 = .ok (.imul, 1) := by decide +kernel
theorem dX2_drowningHours_69 : decode cX2_drowningHours 69 = .ok (.aload_n 0, 1) := by decide +kernel
theorem dX2_drowningHours_70 : decode cX2_drowningHours 70 = .ok (.iload_n 2, 1) := by decide +kernel
theorem dX2_drowningHours_71 : decode cX2_drowningHours 71 = .ok (.iconst 0, 1) := by decide +kernel
theorem dX2_drowningHours_72 : decode cX2_drowningHours 72 = .ok (.iload 7, 2) := by decide +kernel
theorem dX2_drowningHours_74 : decode cX2_drowningHours 74 = .ok (.invokevirtual 81, 3) := by decide +kernel
theorem dX2_drowningHours_77 : decode cX2_drowningHours 77 = .ok (.if_icmp .lt 12, 3) := by decide +kernel
theorem dX2_drowningHours_80 : decode cX2_drowningHours 80 = .ok (.iload 6, 2) := by decide +kernel
theorem dX2_drowningHours_82 : decode cX2_drowningHours 82 = .ok (.iconst 1, 1) := by decide +kernel
theorem dX2_drowningHours_83 : decode cX2_drowningHours 83 = .ok (.iload 7, 2) := by decide +kernel
theorem dX2_drowningHours_85 : decode cX2_drowningHours 85 = .ok (.ishl, 1) := by decide +kernel
theorem dX2_drowningHours_86 : decode cX2_drowningHours 86 = .ok (.ior, 1) := by decide +kernel
theorem dX2_drowningHours_87 : decode cX2_drowningHours 87 = .ok (.istore 6, 2) := by decide +kernel
theorem dX2_drowningHours_89 : decode cX2_drowningHours 89 = .ok (.iinc 7 1, 3) := by decide +kernel
theorem dX2_drowningHours_92 : decode cX2_drowningHours 92 = .ok (.goto (-64), 3) := by decide +kernel
theorem dX2_drowningHours_95 : decode cX2_drowningHours 95 = .ok (.iload 6, 2) := by decide +kernel
theorem dX2_drowningHours_97 : decode cX2_drowningHours 97 = .ok (.ireturn, 1) := by decide +kernel
set_option maxHeartbeats 4000000 in
set_option maxRecDepth 100000 in
theorem c_X2_drowningHours (l : Launch) (D : va_G) (tys : List (ClassId × FieldType)) (base : Nat) (G : iv_G) (h0 : Nat) (g_h0 : Nat → Int32) (r_h0 : Nat → Nat) (a_h0 : G h0 = some (2, g_h0, r_h0)) (x_0 : Int32) (i_x_0 : iv_R 0 9 x_0) (x_1 : Int32) (i_x_1 : iv_R 0 9 x_1) (x_2 : Int32) (i_x_2 : iv_R (-2147483648) 2147483647 x_2) (x_3 : Int32) (i_x_3 : iv_R (-2147483648) 2147483647 x_3) : Met l yX2_drowningHours (Cond.code yX2_drowningHours cX2_drowningHours 9 (some .int) :: iv_W0) ({ frames := 3, cells := 0, slots := 0, locals := 77 }) (iv_Pc iv_sh D classes tys base G [.ref h0, .int x_0, .int x_1, .int x_2, .int x_3]) (iv_Qi iv_sh D classes tys base (fun v G' => iv_Md [28, 30] G G' ∧ iv_R 0 2147483647 v)) 0 0 (iv_A base) := by
  refine iv_head (by decide) (Nat.le_of_ble_eq_true rfl) ?_
  intro p e s m args below meth c ls X hr hlocks hname hB hl
  have X := X
  have hx := X.1.1
  have hb := X.1.2.1
  have hM : iv_Md [28, 30] G G := iv_Md.rf
  have hl : lv_has ls 9 [(0, .ref h0), (1, .int x_0), (2, .int x_1), (3, .int x_2), (4, .int x_3)] := hl
  refine lv_aload_n hx hb dX2_drowningHours_0 rfl (lv_at hl 0 rfl) ?_
  refine iv_getr X ft_X2 hB a_h0 sh_2 0 (by decide) rfl k_fl_X2_15 dX2_drowningHours_1 (fun b1 g_b1 r_b1 e_b1 a_b1 => ?_)
  refine lv_aload_n hx hb dX2_drowningHours_4 rfl (lv_at hl 0 rfl) ?_
  refine iv_getr0 X ft_X2 hB a_h0 sh_2 0 (by decide) rfl k_fl_X2_15 dX2_drowningHours_5 e_b1 ?_
  refine iv_getr X ft_X5 hB a_b1 sh_5 0 (by decide) rfl k_fl_X2_19 dX2_drowningHours_8 (fun b2 g_b2 r_b2 e_b2 a_b2 => ?_)
  refine lv_iload_n hx hb dX2_drowningHours_11 rfl (lv_at hl 1 rfl) ?_
  refine iv_aald X hB a_b2 sh_40 (iv_in i_x_0 (by decide)) dX2_drowningHours_12 (fun b3 g_b3 r_b3 e_b3 a_b3 => ?_)
  refine iv_geti X ft_X1 hB a_b3 sh_1 0 (by decide) rfl k_fl_X2_75 dX2_drowningHours_13 (fun x4 e_x4 i_x4 => ?_)
  refine lv_iload_n hx hb dX2_drowningHours_16 rfl (lv_at hl 3 rfl) ?_
  refine iv_cVi X k_good k_mf_X5_distance k_im_X5_distance k_sel_X5_distance k_ml_X2_78 ft_X5 hB a_b1 sh_5 (As := [.int x4, .int x_2]) (c_X5_distance l D tys base G b1 g_b1 r_b1 a_b1 x4 i_x4 x_2 i_x_2) ⟨rfl, rfl⟩ ⟨Nat.le_of_ble_eq_true rfl, Nat.le_of_ble_eq_true rfl⟩ ⟨Nat.le_of_ble_eq_true rfl, Nat.le_of_ble_eq_true rfl⟩ rfl rfl hl.1 (Nat.le_of_ble_eq_true rfl) dX2_drowningHours_17 (fun x5 G9 H locs hq hB => ?_)
  obtain ⟨rfl, i_x5⟩ := hq
  refine lv_istore (lv' := [(5, .int x5), (0, .ref h0), (1, .int x_0), (2, .int x_1), (3, .int x_2), (4, .int x_3)]) hx hb dX2_drowningHours_20 hl (by decide) rfl (fun ls hl => ?_)
  refine lv_iconst (v := 0) hx hb dX2_drowningHours_22 (by decide) ?_
  refine lv_istore (lv' := [(6, .int 0), (5, .int x5), (0, .ref h0), (1, .int x_0), (2, .int x_1), (3, .int x_2), (4, .int x_3)]) hx hb dX2_drowningHours_23 hl (by decide) rfl (fun ls hl => ?_)
  refine lv_iconst (v := 0) hx hb dX2_drowningHours_25 (by decide) ?_
  refine lv_istore (lv' := [(7, .int 0), (6, .int 0), (5, .int x5), (0, .ref h0), (1, .int x_0), (2, .int x_1), (3, .int x_2), (4, .int x_3)]) hx hb dX2_drowningHours_26 hl (by decide) rfl (fun ls hl => ?_)
  have L_28 : ∀ (n_28 : Nat) (G8 : iv_G) (hM : iv_Md [28, 30] G G8) (H : Heap) (locs : List Loc) (hB : iv_B iv_sh D classes tys base G8 s.heap H locs) (a_h0 : G8 h0 = some (2, g_h0, r_h0)) (x6 : Int32) (i_x6 : iv_R 0 2147483647 x6) (x7 : Int32) (i_x7 : iv_R 0 24 x7) (hn_28 : (25 - x7.toInt).toNat < n_28) (ls : Array Slot) (hl : lv_has ls 9 [(7, .int x7), (6, .int x6), (5, .int x5), (0, .ref h0), (1, .int x_0), (2, .int x_1), (4, .int x_3)]), W p l e ({ frames := 3, cells := 0, slots := 0, locals := 77 } : Room) s m args below meth c H locs 0 0 (MQ below (iv_Qi iv_sh D classes tys base (fun v G' => iv_Md [28, 30] G G' ∧ iv_R 0 2147483647 v)) args s 0 0 (iv_A base)) (F0 m 28 ls []) := by
    intro n_28
    induction n_28 with
    | zero => intro G8 hM H locs hB a_h0 x6 i_x6 x7 i_x7 hn_28 ls hl; exact absurd hn_28 (Nat.not_lt_zero _)
    | succ n_28 ih_28 =>
      intro G8 hM H locs hB a_h0 x6 i_x6 x7 i_x7 hn_28 ls hl
      refine lv_iload hx hb dX2_drowningHours_28 (lv_at hl 0 rfl) ?_
      refine lv_bipush (v := 24) hx hb dX2_drowningHours_30 (by decide) ?_
      refine lv_icmp_ge (tgt := 95) hx hb dX2_drowningHours_32 (by decide) (fun c9 => ?_) (fun c9 => ?_)
      · skip
        have i9_x7 : iv_R 24 24 x7 := (i_x7.cutLo (n := 24) (iv_le_l c9 q_24))
        refine lv_iload hx hb dX2_drowningHours_95 (lv_at hl 1 rfl) ?_
        exact iv_iret X hr hlocks hB ⟨hM, i_x6⟩ dX2_drowningHours_97
      · skip
        have i10_x7 : iv_R 0 23 x7 := (i_x7.cutHi (n := 23) (iv_lt_r (iv_nle c9) q_24 (by decide)))
        refine lv_iload hx hb dX2_drowningHours_35 (lv_at hl 6 rfl) ?_
        refine lv_iload hx hb dX2_drowningHours_37 (lv_at hl 0 rfl) ?_
        refine lv_iushr hx hb dX2_drowningHours_39 rfl ?_
        refine lv_topi (fun x12 e_x12 => ?_)
        have i_x12 := iv_R.all x12
        refine lv_iconst (v := 1) hx hb dX2_drowningHours_40 (by decide) ?_
        refine iv_iand_r hx hb q_1 (by decide) dX2_drowningHours_41 (fun x13 e_x13 i_x13 => ?_)
        refine lv_iconst (v := 1) hx hb dX2_drowningHours_42 (by decide) ?_
        refine lv_icmp_ne (tgt := 50) hx hb dX2_drowningHours_43 (by decide) (fun c14 => ?_) (fun c14 => ?_)
        · skip
          have i14_x13 : iv_R 0 0 x13 := iv_ne_hi c14 i_x13 q_1 (by decide)
          refine lv_iconst (v := 0) hx hb dX2_drowningHours_50 (by decide) ?_
          refine lv_istore (lv' := [(8, .int 0), (7, .int x7), (6, .int x6), (5, .int x5), (0, .ref h0), (1, .int x_0), (2, .int x_1), (4, .int x_3)]) hx hb dX2_drowningHours_51 hl (by decide) rfl (fun ls hl => ?_)
          refine lv_iload hx hb dX2_drowningHours_53 (lv_at hl 0 rfl) ?_
          refine lv_if_eq (tgt := 89) hx hb dX2_drowningHours_55 (by decide) (fun c16 => ?_) (fun c16 => ?_)
          · skip
            refine iv_iinc hx hb i10_x7 (lo := 1) (hi := 24) (by decide) dX2_drowningHours_89 hl (k := 1) rfl (by decide) (fun x17 ls e_x17 i_x17 hl => ?_)
            have hl : lv_has ls 9 [(7, .int x17), (8, .int 0), (6, .int x6), (5, .int x5), (0, .ref h0), (1, .int x_0), (2, .int x_1), (4, .int x_3)] := hl
            refine lv_goto (tgt := 28) hx hb dX2_drowningHours_92 (by decide) ?_
            exact ih_28 G8 hM _ _ hB a_h0 x6 i_x6 x17 (i_x17.wk (by decide)) (iv_mup (c := 1) i_x7 (by decide) (by decide) (by omega) hn_28) _ (lv_sub hl [0, 2, 3, 4, 5, 6, 7] rfl)
          · skip
            exact absurd rfl c16
        · skip
          have i17_x13 : iv_R 1 1 x13 := (i_x13.cutLo (n := 1) (iv_eq_r c14 q_1).1)
          refine lv_iconst (v := 1) hx hb dX2_drowningHours_46 (by decide) ?_
          refine lv_goto (tgt := 51) hx hb dX2_drowningHours_47 (by decide) ?_
          refine lv_istore (lv' := [(8, .int 1), (7, .int x7), (6, .int x6), (5, .int x5), (0, .ref h0), (1, .int x_0), (2, .int x_1), (4, .int x_3)]) hx hb dX2_drowningHours_51 hl (by decide) rfl (fun ls hl => ?_)
          refine lv_iload hx hb dX2_drowningHours_53 (lv_at hl 0 rfl) ?_
          refine lv_if_eq (tgt := 89) hx hb dX2_drowningHours_55 (by decide) (fun c19 => ?_) (fun c19 => ?_)
          · skip
            exact (q_1.cutHi (n := 0) (iv_eq_r c19 q_0).2).no (by decide)
          · skip
            refine lv_iconst (v := 2) hx hb dX2_drowningHours_58 (by decide) ?_
            refine lv_aload_n hx hb dX2_drowningHours_59 rfl (lv_at hl 4 rfl) ?_
            refine lv_iload_n hx hb dX2_drowningHours_60 rfl (lv_at hl 5 rfl) ?_
            refine lv_iload hx hb dX2_drowningHours_61 (lv_at hl 3 rfl) ?_
            refine lv_iload hx hb dX2_drowningHours_63 (lv_at hl 1 rfl) ?_
            refine iv_cVi X k_good k_mf_X2_loudFrom k_im_X2_loudFrom k_sel_X2_loudFrom k_ml_X2_81 ft_X2 hB a_h0 sh_2 (As := [.int x_0, .int x5, .int x7]) (c_X2_loudFrom l D tys base G8 h0 g_h0 r_h0 a_h0 x_0 i_x_0 x5 i_x5 x7 i10_x7) ⟨rfl, rfl⟩ ⟨Nat.le_of_ble_eq_true rfl, Nat.le_of_ble_eq_true rfl⟩ ⟨Nat.le_of_ble_eq_true rfl, Nat.le_of_ble_eq_true rfl⟩ rfl rfl hl.1 (Nat.le_of_ble_eq_true rfl) dX2_drowningHours_65 (fun x20 G9 H locs hq hB => ?_)
            obtain ⟨hm, i_x20⟩ := hq
            obtain ⟨G21, hG9⟩ : ∃ g, g = G9 := ⟨_, rfl⟩
            rw [← hG9] at hm hB
            have hM := hM.stp hm (by decide)
            have a_h0 := hm.at a_h0 (by decide)
            refine iv_imul hx hb q_2 i_x20 (lo := 0) (hi := 1998) (by decide) dX2_drowningHours_68 (fun x22 e_x22 i_x22 => ?_)
            refine lv_aload_n hx hb dX2_drowningHours_69 rfl (lv_at hl 4 rfl) ?_
            refine lv_iload_n hx hb dX2_drowningHours_70 rfl (lv_at hl 6 rfl) ?_
            refine lv_iconst (v := 0) hx hb dX2_drowningHours_71 (by decide) ?_
            refine lv_iload hx hb dX2_drowningHours_72 (lv_at hl 1 rfl) ?_
            refine iv_cVi X k_good k_mf_X2_loudFrom k_im_X2_loudFrom k_sel_X2_loudFrom k_ml_X2_81 ft_X2 hB a_h0 sh_2 (As := [.int x_1, .int 0, .int x7]) (c_X2_loudFrom l D tys base G21 h0 g_h0 r_h0 a_h0 x_1 i_x_1 0 (q_0.wk (by decide)) x7 i10_x7) ⟨rfl, rfl⟩ ⟨Nat.le_of_ble_eq_true rfl, Nat.le_of_ble_eq_true rfl⟩ ⟨Nat.le_of_ble_eq_true rfl, Nat.le_of_ble_eq_true rfl⟩ rfl rfl hl.1 (Nat.le_of_ble_eq_true rfl) dX2_drowningHours_74 (fun x23 G9 H locs hq hB => ?_)
            obtain ⟨hm, i_x23⟩ := hq
            obtain ⟨G24, hG9⟩ : ∃ g, g = G9 := ⟨_, rfl⟩
            rw [← hG9] at hm hB
            have hM := hM.stp hm (by decide)
            have a_h0 := hm.at a_h0 (by decide)
            refine lv_icmp_lt (tgt := 89) hx hb dX2_drowningHours_77 (by decide) (fun c25 => ?_) (fun c25 => ?_)
            · skip
              have i25_x22 : iv_R 0 998 x22 := (i_x22.cutHi (n := 998) (iv_lt_r c25 i_x23 (by decide)))
              have i26_x23 : iv_R 1 999 x23 := (i_x23.cutLo (n := 1) (iv_lt_l c25 i_x22 (by decide)))
              refine iv_iinc hx hb i10_x7 (lo := 1) (hi := 24) (by decide) dX2_drowningHours_89 hl (k := 1) rfl (by decide) (fun x28 ls e_x28 i_x28 hl => ?_)
              have hl : lv_has ls 9 [(7, .int x28), (8, .int 1), (6, .int x6), (5, .int x5), (0, .ref h0), (1, .int x_0), (2, .int x_1), (4, .int x_3)] := hl
              refine lv_goto (tgt := 28) hx hb dX2_drowningHours_92 (by decide) ?_
              exact ih_28 G24 hM _ _ hB a_h0 x6 i_x6 x28 (i_x28.wk (by decide)) (iv_mup (c := 1) i_x7 (by decide) (by decide) (by omega) hn_28) _ (lv_sub hl [0, 2, 3, 4, 5, 6, 7] rfl)
            · skip
              refine lv_iload hx hb dX2_drowningHours_80 (lv_at hl 2 rfl) ?_
              refine lv_iconst (v := 1) hx hb dX2_drowningHours_82 (by decide) ?_
              refine lv_iload hx hb dX2_drowningHours_83 (lv_at hl 1 rfl) ?_
              refine iv_shl1 hx hb i10_x7 (lo := 1) (hi := 8388608) (by decide) dX2_drowningHours_85 (fun x29 e_x29 i_x29 => ?_)
              refine iv_ior hx hb i_x6 i_x29 (k := 31) (hi := 2147483647) (by decide) dX2_drowningHours_86 (fun x30 e_x30 i_x30 => ?_)
              refine lv_istore (lv' := [(6, .int x30), (8, .int 1), (7, .int x7), (5, .int x5), (0, .ref h0), (1, .int x_0), (2, .int x_1), (4, .int x_3)]) hx hb dX2_drowningHours_87 hl (by decide) rfl (fun ls hl => ?_)
              refine iv_iinc hx hb i10_x7 (lo := 1) (hi := 24) (by decide) dX2_drowningHours_89 hl (k := 2) rfl (by decide) (fun x31 ls e_x31 i_x31 hl => ?_)
              have hl : lv_has ls 9 [(7, .int x31), (6, .int x30), (8, .int 1), (5, .int x5), (0, .ref h0), (1, .int x_0), (2, .int x_1), (4, .int x_3)] := hl
              refine lv_goto (tgt := 28) hx hb dX2_drowningHours_92 (by decide) ?_
              exact ih_28 G24 hM _ _ hB a_h0 x30 i_x30 x31 (i_x31.wk (by decide)) (iv_mup (c := 1) i_x7 (by decide) (by decide) (by omega) hn_28) _ (lv_sub hl [0, 1, 3, 4, 5, 6, 7] rfl)
  exact L_28 _ G hM _ _ hB a_h0 0 (q_0.wk (by decide)) 0 (q_0.wk (by decide)) (Nat.lt_succ_self _) _ (lv_sub hl [0, 1, 2, 3, 4, 5, 7] rfl)
theorem dX5_areNear_0 : decode cX5_areNear 0 = .ok (.aload_n 0, 1) := by decide +kernel
theorem dX5_areNear_1 : decode cX5_areNear 1 = .ok (.getfield 11, 3) := by decide +kernel
theorem dX5_areNear_4 : decode cX5_areNear 4 = .ok (.iload_n 1, 1) := by decide +kernel
theorem dX5_areNear_5 : decode cX5_areNear 5 = .ok (.aaload, 1) := by decide +kernel
theorem dX5_areNear_6 : decode cX5_areNear 6 = .ok (.getfield 109, 3) := by decide +kernel
theorem dX5_areNear_9 : decode cX5_areNear 9 = .ok (.aload_n 0, 1) := by decide +kernel
theorem dX5_areNear_10 : decode cX5_areNear 10 = .ok (.getfield 11, 3) := by decide +kernel
theorem dX5_areNear_13 : decode cX5_areNear 13 = .ok (.iload_n 2, 1) := by decide +kernel
theorem dX5_areNear_14 : decode cX5_areNear 14 = .ok (.aaload, 1) := by decide +kernel
theorem dX5_areNear_15 : decode cX5_areNear 15 = .ok (.getfield 109, 3) := by decide +kernel
theorem dX5_areNear_18 : decode cX5_areNear 18 = .ok (.isub, 1) := by decide +kernel
theorem dX5_areNear_19 : decode cX5_areNear 19 = .ok (.invokestatic 112, 3) := by decide +kernel
theorem dX5_areNear_22 : decode cX5_areNear 22 = .ok (.aload_n 0, 1) := by decide +kernel
theorem dX5_areNear_23 : decode cX5_areNear 23 = .ok (.getfield 21, 3) := by decide +kernel
theorem dX5_areNear_26 : decode cX5_areNear 26 = .ok (.if_icmp .ge 7, 3) := by decide +kernel
theorem dX5_areNear_29 : decode cX5_areNear 29 = .ok (.iconst 1, 1) := by decide +kernel
theorem dX5_areNear_30 : decode cX5_areNear 30 = .ok (.goto 4, 3) := by decide +kernel
theorem dX5_areNear_33 : decode cX5_areNear 33 = .ok (.iconst 0, 1) := by decide +kernel
theorem dX5_areNear_34 : decode cX5_areNear 34 = .ok (.ireturn, 1) := by decide +kernel
set_option maxHeartbeats 4000000 in
set_option maxRecDepth 100000 in
theorem c_X5_areNear (l : Launch) (D : va_G) (tys : List (ClassId × FieldType)) (base : Nat) (G : iv_G) (h0 : Nat) (g_h0 : Nat → Int32) (r_h0 : Nat → Nat) (a_h0 : G h0 = some (5, g_h0, r_h0)) (x_0 : Int32) (i_x_0 : iv_R 0 9 x_0) (x_1 : Int32) (i_x_1 : iv_R 0 9 x_1) : Met l yX5_areNear (Cond.code yX5_areNear cX5_areNear 3 (some .boolean) :: iv_W0) ({ frames := 1, cells := 0, slots := 0, locals := 13 }) (iv_Pc iv_sh D classes tys base G [.ref h0, .int x_0, .int x_1]) (iv_Qi iv_sh D classes tys base (fun v G' => G = G' ∧ iv_R 0 1 v)) 0 0 (iv_A base) := by
  refine iv_head (by decide) (Nat.le_of_ble_eq_true rfl) ?_
  intro p e s m args below meth c ls X hr hlocks hname hB hl
  have X := X
  have hx := X.1.1
  have hb := X.1.2.1
  have hl : lv_has ls 3 [(0, .ref h0), (1, .int x_0), (2, .int x_1)] := hl
  refine lv_aload_n hx hb dX5_areNear_0 rfl (lv_at hl 0 rfl) ?_
  refine iv_getr X ft_X5 hB a_h0 sh_5 0 (by decide) rfl k_fl_X5_11 dX5_areNear_1 (fun b1 g_b1 r_b1 e_b1 a_b1 => ?_)
  refine lv_iload_n hx hb dX5_areNear_4 rfl (lv_at hl 1 rfl) ?_
  refine iv_aald X hB a_b1 sh_40 (iv_in i_x_0 (by decide)) dX5_areNear_5 (fun b2 g_b2 r_b2 e_b2 a_b2 => ?_)
  refine iv_geti X ft_X1 hB a_b2 sh_1 1 (by decide) rfl k_fl_X5_109 dX5_areNear_6 (fun x3 e_x3 i_x3 => ?_)
  refine lv_aload_n hx hb dX5_areNear_9 rfl (lv_at hl 0 rfl) ?_
  refine iv_getr0 X ft_X5 hB a_h0 sh_5 0 (by decide) rfl k_fl_X5_11 dX5_areNear_10 e_b1 ?_
  refine lv_iload_n hx hb dX5_areNear_13 rfl (lv_at hl 2 rfl) ?_
  refine iv_aald X hB a_b1 sh_40 (iv_in i_x_1 (by decide)) dX5_areNear_14 (fun b4 g_b4 r_b4 e_b4 a_b4 => ?_)
  refine iv_geti X ft_X1 hB a_b4 sh_1 1 (by decide) rfl k_fl_X5_109 dX5_areNear_15 (fun x5 e_x5 i_x5 => ?_)
  refine lv_isub hx hb dX5_areNear_18 ?_
  refine lv_topi (fun x6 e_x6 => ?_)
  have i_x6 := iv_R.all x6
  refine iv_mabs X hl.1 k_mm_X5_112 ⟨Nat.le_of_ble_eq_true rfl, Nat.le_of_ble_eq_true rfl⟩ ⟨Nat.le_of_ble_eq_true rfl, Nat.le_of_ble_eq_true rfl⟩ dX5_areNear_19 (fun x7 e_x7 i_x7 => ?_)
  refine lv_aload_n hx hb dX5_areNear_22 rfl (lv_at hl 0 rfl) ?_
  refine iv_geti X ft_X5 hB a_h0 sh_5 3 (by decide) rfl k_fl_X5_21 dX5_areNear_23 (fun x8 e_x8 i_x8 => ?_)
  refine lv_icmp_ge (tgt := 33) hx hb dX5_areNear_26 (by decide) (fun c9 => ?_) (fun c9 => ?_)
  · skip
    refine lv_iconst (v := 0) hx hb dX5_areNear_33 (by decide) ?_
    exact iv_zret X hr hlocks hB (q_0.wk (by decide)) ⟨rfl, (q_0.wk (by decide))⟩ dX5_areNear_34
  · skip
    have i9_x7 : iv_R (-2147483648) 2147483646 x7 := (i_x7.cutHi (n := 2147483646) (iv_lt_r (iv_nle c9) i_x8 (by decide)))
    have i10_x8 : iv_R (-2147483647) 2147483647 x8 := (i_x8.cutLo (n := (-2147483647)) (iv_lt_l (iv_nle c9) i_x7 (by decide)))
    refine lv_iconst (v := 1) hx hb dX5_areNear_29 (by decide) ?_
    refine lv_goto (tgt := 34) hx hb dX5_areNear_30 (by decide) ?_
    exact iv_zret X hr hlocks hB (q_1.wk (by decide)) ⟨rfl, (q_1.wk (by decide))⟩ dX5_areNear_34
theorem dX2_clearHours_0 : decode cX2_clearHours 0 = .ok (.iload_n 3, 1) := by decide +kernel
theorem dX2_clearHours_1 : decode cX2_clearHours 1 = .ok (.istore 4, 2) := by decide +kernel
theorem dX2_clearHours_3 : decode cX2_clearHours 3 = .ok (.iconst 0, 1) := by decide +kernel
theorem dX2_clearHours_4 : decode cX2_clearHours 4 = .ok (.istore 5, 2) := by decide +kernel
theorem dX2_clearHours_6 : decode cX2_clearHours 6 = .ok (.iload 5, 2) := by decide +kernel
theorem dX2_clearHours_8 : decode cX2_clearHours 8 = .ok (.aload_n 0, 1) := by decide +kernel
theorem dX2_clearHours_9 : decode cX2_clearHours 9 = .ok (.getfield 15, 3) := by decide +kernel
theorem dX2_clearHours_12 : decode cX2_clearHours 12 = .ok (.getfield 85, 3) := by decide +kernel
theorem dX2_clearHours_15 : decode cX2_clearHours 15 = .ok (.if_icmp .ge 55, 3) := by decide +kernel
theorem dX2_clearHours_18 : decode cX2_clearHours 18 = .ok (.iload 5, 2) := by decide +kernel
theorem dX2_clearHours_20 : decode cX2_clearHours 20 = .ok (.iload_n 1, 1) := by decide +kernel
theorem dX2_clearHours_21 : decode cX2_clearHours 21 = .ok (.if_icmp .eq 43, 3) := by decide +kernel
theorem dX2_clearHours_24 : decode cX2_clearHours 24 = .ok (.aload_n 0, 1) := by decide +kernel
theorem dX2_clearHours_25 : decode cX2_clearHours 25 = .ok (.getfield 15, 3) := by decide +kernel
theorem dX2_clearHours_28 : decode cX2_clearHours 28 = .ok (.iload_n 1, 1) := by decide +kernel
theorem dX2_clearHours_29 : decode cX2_clearHours 29 = .ok (.iload 5, 2) := by decide +kernel
theorem dX2_clearHours_31 : decode cX2_clearHours 31 = .ok (.invokevirtual 88, 3) := by decide +kernel
theorem dX2_clearHours_34 : decode cX2_clearHours 34 = .ok (.ifCond .eq 30, 3) := by decide +kernel
theorem dX2_clearHours_37 : decode cX2_clearHours 37 = .ok (.iload 4, 2) := by decide +kernel
theorem dX2_clearHours_39 : decode cX2_clearHours 39 = .ok (.aload_n 0, 1) := by decide +kernel
theorem dX2_clearHours_40 : decode cX2_clearHours 40 = .ok (.iload 5, 2) := by decide +kernel
theorem dX2_clearHours_42 : decode cX2_clearHours 42 = .ok (.iload_n 1, 1) := by decide +kernel
theorem dX2_clearHours_43 : decode cX2_clearHours 43 = .ok (.iload_n 2, 1) := by decide +kernel
theorem dX2_clearHours_44 : decode cX2_clearHours 44 = .ok (.iload 4, 2) := by decide +kernel
theorem dX2_clearHours_46 : decode cX2_clearHours 46 = .ok (.aload_n 0, 1) := by decide +kernel
theorem dX2_clearHours_47 : decode cX2_clearHours 47 = .ok (.getfield 15, 3) := by decide +kernel
theorem dX2_clearHours_50 : decode cX2_clearHours 50 = .ok (.iload 5, 2) := by decide +kernel
theorem dX2_clearHours_52 : decode cX2_clearHours 52 = .ok (.invokevirtual 92, 3) := by decide +kernel
theorem dX2_clearHours_55 : decode cX2_clearHours 55 = .ok (.iand, 1) := by decide +kernel
theorem dX2_clearHours_56 : decode cX2_clearHours 56 = .ok (.invokevirtual 96, 3) := by decide +kernel
theorem dX2_clearHours_59 : decode cX2_clearHours 59 = .ok (.iconst (-1), 1) := by decide +kernel
theorem dX2_clearHours_60 : decode cX2_clearHours 60 = .ok (.ixor, 1) := by decide +kernel
theorem dX2_clearHours_61 : decode cX2_clearHours 61 = .ok (.iand, 1) := by decide +kernel
theorem dX2_clearHours_62 : decode cX2_clearHours 62 = .ok (.istore 4, 2) := by decide +kernel
theorem dX2_clearHours_64 : decode cX2_clearHours 64 = .ok (.iinc 5 1, 3) := by decide +kernel
theorem dX2_clearHours_67 : decode cX2_clearHours 67 = .ok (.goto (-61), 3) := by decide +kernel
theorem dX2_clearHours_70 : decode cX2_clearHours 70 = .ok (.iload 4, 2) := by decide +kernel
theorem dX2_clearHours_72 : decode cX2_clearHours 72 = .ok (.ireturn, 1) := by decide +kernel
set_option maxHeartbeats 4000000 in
set_option maxRecDepth 100000 in
theorem c_X2_clearHours (l : Launch) (D : va_G) (tys : List (ClassId × FieldType)) (base : Nat) (G : iv_G) (h0 : Nat) (g_h0 : Nat → Int32) (r_h0 : Nat → Nat) (a_h0 : G h0 = some (2, g_h0, r_h0)) (x_0 : Int32) (i_x_0 : iv_R 0 9 x_0) (x_1 : Int32) (i_x_1 : iv_R (-2147483648) 2147483647 x_1) (x_2 : Int32) (i_x_2 : iv_R (-2147483648) 2147483647 x_2) : Met l yX2_clearHours (Cond.code yX2_clearHours cX2_clearHours 6 (some .int) :: iv_W0) ({ frames := 4, cells := 0, slots := 0, locals := 105 }) (iv_Pc iv_sh D classes tys base G [.ref h0, .int x_0, .int x_1, .int x_2]) (iv_Qi iv_sh D classes tys base (fun v G' => iv_Md [28, 30] G G' ∧ iv_R (-2147483648) 2147483647 v)) 0 0 (iv_A base) := by
  refine iv_head (by decide) (Nat.le_of_ble_eq_true rfl) ?_
  intro p e s m args below meth c ls X hr hlocks hname hB hl
  have X := X
  have hx := X.1.1
  have hb := X.1.2.1
  have hM : iv_Md [28, 30] G G := iv_Md.rf
  have hl : lv_has ls 6 [(0, .ref h0), (1, .int x_0), (2, .int x_1), (3, .int x_2)] := hl
  refine lv_iload_n hx hb dX2_clearHours_0 rfl (lv_at hl 3 rfl) ?_
  refine lv_istore (lv' := [(4, .int x_2), (0, .ref h0), (1, .int x_0), (2, .int x_1), (3, .int x_2)]) hx hb dX2_clearHours_1 hl (by decide) rfl (fun ls hl => ?_)
  refine lv_iconst (v := 0) hx hb dX2_clearHours_3 (by decide) ?_
  refine lv_istore (lv' := [(5, .int 0), (4, .int x_2), (0, .ref h0), (1, .int x_0), (2, .int x_1), (3, .int x_2)]) hx hb dX2_clearHours_4 hl (by decide) rfl (fun ls hl => ?_)
  have L_6 : ∀ (n_6 : Nat) (G3 : iv_G) (hM : iv_Md [28, 30] G G3) (H : Heap) (locs : List Loc) (hB : iv_B iv_sh D classes tys base G3 s.heap H locs) (a_h0 : G3 h0 = some (2, g_h0, r_h0)) (x1 : Int32) (i_x1 : iv_R (-2147483648) 2147483647 x1) (x2 : Int32) (i_x2 : iv_R 0 10 x2) (hn_6 : (11 - x2.toInt).toNat < n_6) (ls : Array Slot) (hl : lv_has ls 6 [(5, .int x2), (4, .int x1), (0, .ref h0), (1, .int x_0), (2, .int x_1)]), W p l e ({ frames := 4, cells := 0, slots := 0, locals := 105 } : Room) s m args below meth c H locs 0 0 (MQ below (iv_Qi iv_sh D classes tys base (fun v G' => iv_Md [28, 30] G G' ∧ iv_R (-2147483648) 2147483647 v)) args s 0 0 (iv_A base)) (F0 m 6 ls []) := by
    intro n_6
    induction n_6 with
    | zero => intro G3 hM H locs hB a_h0 x1 i_x1 x2 i_x2 hn_6 ls hl; exact absurd hn_6 (Nat.not_lt_zero _)
    | succ n_6 ih_6 =>
      intro G3 hM H locs hB a_h0 x1 i_x1 x2 i_x2 hn_6 ls hl
      refine lv_iload hx hb dX2_clearHours_6 (lv_at hl 0 rfl) ?_
      refine lv_aload_n hx hb dX2_clearHours_8 rfl (lv_at hl 2 rfl) ?_
      refine iv_getr X ft_X2 hB a_h0 sh_2 0 (by decide) rfl k_fl_X2_15 dX2_clearHours_9 (fun b4 g_b4 r_b4 e_b4 a_b4 => ?_)
      refine iv_geti X ft_X5 hB a_b4 sh_5 1 (by decide) rfl k_fl_X2_85 dX2_clearHours_12 (fun x5 e_x5 i_x5 => ?_)
      refine lv_icmp_ge (tgt := 70) hx hb dX2_clearHours_15 (by decide) (fun c6 => ?_) (fun c6 => ?_)
      · skip
        refine lv_iload hx hb dX2_clearHours_70 (lv_at hl 1 rfl) ?_
        exact iv_iret X hr hlocks hB ⟨hM, i_x1⟩ dX2_clearHours_72
      · skip
        have i6_x2 : iv_R 0 9 x2 := (i_x2.cutHi (n := 9) (iv_lt_r (iv_nle c6) i_x5 (by decide)))
        have i7_x5 : iv_R 1 10 x5 := (i_x5.cutLo (n := 1) (iv_lt_l (iv_nle c6) i_x2 (by decide)))
        refine lv_iload hx hb dX2_clearHours_18 (lv_at hl 0 rfl) ?_
        refine lv_iload_n hx hb dX2_clearHours_20 rfl (lv_at hl 3 rfl) ?_
        refine lv_icmp_eq (tgt := 64) hx hb dX2_clearHours_21 (by decide) (fun c9 => ?_) (fun c9 => ?_)
        · skip
          refine iv_iinc hx hb i6_x2 (lo := 1) (hi := 10) (by decide) dX2_clearHours_64 hl (k := 0) rfl (by decide) (fun x10 ls e_x10 i_x10 hl => ?_)
          have hl : lv_has ls 6 [(5, .int x10), (4, .int x1), (0, .ref h0), (1, .int x_0), (2, .int x_1)] := hl
          refine lv_goto (tgt := 6) hx hb dX2_clearHours_67 (by decide) ?_
          exact ih_6 G3 hM _ _ hB a_h0 x1 i_x1 x10 (i_x10.wk (by decide)) (iv_mup (c := 1) i_x2 (by decide) (by decide) (by omega) hn_6) _ (lv_sub hl [0, 1, 2, 3, 4] rfl)
        · skip
          refine lv_aload_n hx hb dX2_clearHours_24 rfl (lv_at hl 2 rfl) ?_
          refine iv_getr0 X ft_X2 hB a_h0 sh_2 0 (by decide) rfl k_fl_X2_15 dX2_clearHours_25 e_b4 ?_
          refine lv_iload_n hx hb dX2_clearHours_28 rfl (lv_at hl 3 rfl) ?_
          refine lv_iload hx hb dX2_clearHours_29 (lv_at hl 0 rfl) ?_
          refine iv_cVi X k_good k_mf_X5_areNear k_im_X5_areNear k_sel_X5_areNear k_ml_X2_88 ft_X5 hB a_b4 sh_5 (As := [.int x_0, .int x2]) (c_X5_areNear l D tys base G3 b4 g_b4 r_b4 a_b4 x_0 i_x_0 x2 i6_x2) ⟨rfl, rfl⟩ ⟨Nat.le_of_ble_eq_true rfl, Nat.le_of_ble_eq_true rfl⟩ ⟨Nat.le_of_ble_eq_true rfl, Nat.le_of_ble_eq_true rfl⟩ rfl rfl hl.1 (Nat.le_of_ble_eq_true rfl) dX2_clearHours_31 (fun x11 G9 H locs hq hB => ?_)
          obtain ⟨rfl, i_x11⟩ := hq
          refine lv_if_eq (tgt := 64) hx hb dX2_clearHours_34 (by decide) (fun c12 => ?_) (fun c12 => ?_)
          · skip
            have i12_x11 : iv_R 0 0 x11 := (i_x11.cutHi (n := 0) (iv_eq_r c12 q_0).2)
            refine iv_iinc hx hb i6_x2 (lo := 1) (hi := 10) (by decide) dX2_clearHours_64 hl (k := 0) rfl (by decide) (fun x14 ls e_x14 i_x14 hl => ?_)
            have hl : lv_has ls 6 [(5, .int x14), (4, .int x1), (0, .ref h0), (1, .int x_0), (2, .int x_1)] := hl
            refine lv_goto (tgt := 6) hx hb dX2_clearHours_67 (by decide) ?_
            exact ih_6 G3 hM _ _ hB a_h0 x1 i_x1 x14 (i_x14.wk (by decide)) (iv_mup (c := 1) i_x2 (by decide) (by decide) (by omega) hn_6) _ (lv_sub hl [0, 1, 2, 3, 4] rfl)
          · skip
            have i14_x11 : iv_R 1 1 x11 := iv_ne_lo c12 i_x11 q_0 (by decide)
            refine lv_iload hx hb dX2_clearHours_37 (lv_at hl 1 rfl) ?_
            refine lv_aload_n hx hb dX2_clearHours_39 rfl (lv_at hl 2 rfl) ?_
            refine lv_iload hx hb dX2_clearHours_40 (lv_at hl 0 rfl) ?_
            refine lv_iload_n hx hb dX2_clearHours_42 rfl (lv_at hl 3 rfl) ?_
            refine lv_iload_n hx hb dX2_clearHours_43 rfl (lv_at hl 4 rfl) ?_
            refine lv_iload hx hb dX2_clearHours_44 (lv_at hl 1 rfl) ?_
            refine lv_aload_n hx hb dX2_clearHours_46 rfl (lv_at hl 2 rfl) ?_
            refine iv_getr0 X ft_X2 hB a_h0 sh_2 0 (by decide) rfl k_fl_X2_15 dX2_clearHours_47 e_b4 ?_
            refine lv_iload hx hb dX2_clearHours_50 (lv_at hl 0 rfl) ?_
            refine iv_cVi X k_good k_mf_X5_soundsIn k_im_X5_soundsIn k_sel_X5_soundsIn k_ml_X2_92 ft_X5 hB a_b4 sh_5 (As := [.int x2]) (c_X5_soundsIn l D tys base G3 b4 g_b4 r_b4 a_b4 x2 i6_x2) ⟨rfl, rfl⟩ ⟨Nat.le_of_ble_eq_true rfl, Nat.le_of_ble_eq_true rfl⟩ ⟨Nat.le_of_ble_eq_true rfl, Nat.le_of_ble_eq_true rfl⟩ rfl rfl hl.1 (Nat.le_of_ble_eq_true rfl) dX2_clearHours_52 (fun x16 G9 H locs hq hB => ?_)
            obtain ⟨rfl, i_x16⟩ := hq
            refine lv_iand hx hb dX2_clearHours_55 ?_
            refine lv_topi (fun x17 e_x17 => ?_)
            have i_x17 := iv_R.all x17
            refine iv_cVi X k_good k_mf_X2_drowningHours k_im_X2_drowningHours k_sel_X2_drowningHours k_ml_X2_96 ft_X2 hB a_h0 sh_2 (As := [.int x2, .int x_0, .int x_1, .int x17]) (c_X2_drowningHours l D tys base G3 h0 g_h0 r_h0 a_h0 x2 i6_x2 x_0 i_x_0 x_1 i_x_1 x17 i_x17) ⟨rfl, rfl⟩ ⟨Nat.le_of_ble_eq_true rfl, Nat.le_of_ble_eq_true rfl⟩ ⟨Nat.le_of_ble_eq_true rfl, Nat.le_of_ble_eq_true rfl⟩ rfl rfl hl.1 (Nat.le_of_ble_eq_true rfl) dX2_clearHours_56 (fun x18 G9 H locs hq hB => ?_)
            obtain ⟨hm, i_x18⟩ := hq
            obtain ⟨G19, hG9⟩ : ∃ g, g = G9 := ⟨_, rfl⟩
            rw [← hG9] at hm hB
            have hM := hM.stp hm (by decide)
            have a_h0 := hm.at a_h0 (by decide)
            refine lv_iconst (v := (-1)) hx hb dX2_clearHours_59 (by decide) ?_
            refine lv_ixor hx hb dX2_clearHours_60 ?_
            refine lv_topi (fun x20 e_x20 => ?_)
            have i_x20 := iv_R.all x20
            refine lv_iand hx hb dX2_clearHours_61 ?_
            refine lv_topi (fun x21 e_x21 => ?_)
            have i_x21 := iv_R.all x21
            refine lv_istore (lv' := [(4, .int x21), (5, .int x2), (0, .ref h0), (1, .int x_0), (2, .int x_1)]) hx hb dX2_clearHours_62 hl (by decide) rfl (fun ls hl => ?_)
            refine iv_iinc hx hb i6_x2 (lo := 1) (hi := 10) (by decide) dX2_clearHours_64 hl (k := 1) rfl (by decide) (fun x22 ls e_x22 i_x22 hl => ?_)
            have hl : lv_has ls 6 [(5, .int x22), (4, .int x21), (0, .ref h0), (1, .int x_0), (2, .int x_1)] := hl
            refine lv_goto (tgt := 6) hx hb dX2_clearHours_67 (by decide) ?_
            exact ih_6 G19 hM _ _ hB a_h0 x21 i_x21 x22 (i_x22.wk (by decide)) (iv_mup (c := 1) i_x2 (by decide) (by decide) (by omega) hn_6) _ (lv_sub hl [0, 1, 2, 3, 4] rfl)
  exact L_6 _ G hM _ _ hB a_h0 x_2 i_x_2 0 (q_0.wk (by decide)) (Nat.lt_succ_self _) _ (lv_sub hl [0, 1, 2, 3, 4] rfl)
theorem dX0_bringChildren_0 : decode cX0_bringChildren 0 = .ok (.aload_n 0, 1) := by decide +kernel
theorem dX0_bringChildren_1 : decode cX0_bringChildren 1 = .ok (.getfield 9, 3) := by decide +kernel
theorem dX0_bringChildren_4 : decode cX0_bringChildren 4 = .ok (.iload_n 1, 1) := by decide +kernel
theorem dX0_bringChildren_5 : decode cX0_bringChildren 5 = .ok (.invokevirtual 25, 3) := by decide +kernel
theorem dX0_bringChildren_8 : decode cX0_bringChildren 8 = .ok (.istore_n 2, 1) := by decide +kernel
theorem dX0_bringChildren_9 : decode cX0_bringChildren 9 = .ok (.aload_n 0, 1) := by decide +kernel
theorem dX0_bringChildren_10 : decode cX0_bringChildren 10 = .ok (.getfield 15, 3) := by decide +kernel
theorem dX0_bringChildren_13 : decode cX0_bringChildren 13 = .ok (.iload_n 1, 1) := by decide +kernel
theorem dX0_bringChildren_14 : decode cX0_bringChildren 14 = .ok (.aload_n 0, 1) := by decide +kernel
theorem dX0_bringChildren_15 : decode cX0_bringChildren 15 = .ok (.getfield 9, 3) := by decide +kernel
theorem dX0_bringChildren_18 : decode cX0_bringChildren 18 = .ok (.getfield 35, 3) := by decide +kernel
theorem dX0_bringChildren_21 : decode cX0_bringChildren 21 = .ok (.iload_n 1, 1) := by decide +kernel
theorem dX0_bringChildren_22 : decode cX0_bringChildren 22 = .ok (.aaload, 1) := by decide +kernel
theorem dX0_bringChildren_23 : decode cX0_bringChildren 23 = .ok (.getfield 71, 3) := by decide +kernel
theorem dX0_bringChildren_26 : decode cX0_bringChildren 26 = .ok (.iload_n 2, 1) := by decide +kernel
theorem dX0_bringChildren_27 : decode cX0_bringChildren 27 = .ok (.invokevirtual 74, 3) := by decide +kernel
theorem dX0_bringChildren_30 : decode cX0_bringChildren 30 = .ok (.istore_n 3, 1) := by decide +kernel
theorem dX0_bringChildren_31 : decode cX0_bringChildren 31 = .ok (.aload_n 0, 1) := by decide +kernel
theorem dX0_bringChildren_32 : decode cX0_bringChildren 32 = .ok (.iload_n 1, 1) := by decide +kernel
theorem dX0_bringChildren_33 : decode cX0_bringChildren 33 = .ok (.aload_n 0, 1) := by decide +kernel
theorem dX0_bringChildren_34 : decode cX0_bringChildren 34 = .ok (.getfield 15, 3) := by decide +kernel
theorem dX0_bringChildren_37 : decode cX0_bringChildren 37 = .ok (.iload_n 1, 1) := by decide +kernel
theorem dX0_bringChildren_38 : decode cX0_bringChildren 38 = .ok (.iload_n 3, 1) := by decide +kernel
theorem dX0_bringChildren_39 : decode cX0_bringChildren 39 = .ok (.ifCond .eq 7, 3) := by decide +kernel
theorem dX0_bringChildren_42 : decode cX0_bringChildren 42 = .ok (.iload_n 3, 1) := by decide +kernel
theorem dX0_bringChildren_43 : decode cX0_bringChildren 43 = .ok (.goto 4, 3) := by decide +kernel
theorem dX0_bringChildren_46 : decode cX0_bringChildren 46 = .ok (.iload_n 2, 1) := by decide +kernel
theorem dX0_bringChildren_47 : decode cX0_bringChildren 47 = .ok (.invokestatic 78, 3) := by decide +kernel
theorem dX0_bringChildren_50 : decode cX0_bringChildren 50 = .ok (.invokevirtual 81, 3) := by decide +kernel
theorem dX0_bringChildren_53 : decode cX0_bringChildren 53 = .ok (.invokevirtual 84, 3) := by decide +kernel
theorem dX0_bringChildren_56 : decode cX0_bringChildren 56 = .ok (.aload_n 0, 1) := by decide +kernel
theorem dX0_bringChildren_57 : decode cX0_bringChildren 57 = .ok (.getfield 9, 3) := by decide +kernel
theorem dX0_bringChildren_60 : decode cX0_bringChildren 60 = .ok (.getfield 35, 3) := by decide +kernel
theorem dX0_bringChildren_63 : decode cX0_bringChildren 63 = .ok (.iload_n 1, 1) := by decide +kernel
theorem dX0_bringChildren_64 : decode cX0_bringChildren 64 = .ok (.aaload, 1) := by decide +kernel
theorem dX0_bringChildren_65 : decode cX0_bringChildren 65 = .ok (.getfield 88, 3) := by decide +kernel
theorem dX0_bringChildren_68 : decode cX0_bringChildren 68 = .ok (.iconst 1, 1) := by decide +kernel
theorem dX0_bringChildren_69 : decode cX0_bringChildren 69 = .ok (.if_icmp .ne 9, 3) := by decide +kernel
theorem dX0_bringChildren_72 : decode cX0_bringChildren 72 = .ok (.aload_n 0, 1) := by decide +kernel
theorem dX0_bringChildren_73 : decode cX0_bringChildren 73 = .ok (.iload_n 1, 1) := by decide +kernel
theorem dX0_bringChildren_74 : decode cX0_bringChildren 74 = .ok (.iload_n 1, 1) := by decide +kernel
theorem dX0_bringChildren_75 : decode cX0_bringChildren 75 = .ok (.invokevirtual 84, 3) := by decide +kernel
theorem dX0_bringChildren_78 : decode cX0_bringChildren 78 = .ok (.aload_n 0, 1) := by decide +kernel
theorem dX0_bringChildren_79 : decode cX0_bringChildren 79 = .ok (.getfield 9, 3) := by decide +kernel
theorem dX0_bringChildren_82 : decode cX0_bringChildren 82 = .ok (.getfield 35, 3) := by decide +kernel
theorem dX0_bringChildren_85 : decode cX0_bringChildren 85 = .ok (.iload_n 1, 1) := by decide +kernel
theorem dX0_bringChildren_86 : decode cX0_bringChildren 86 = .ok (.aaload, 1) := by decide +kernel
theorem dX0_bringChildren_87 : decode cX0_bringChildren 87 = .ok (.iconst 1, 1) := by decide +kernel
theorem dX0_bringChildren_88 : decode cX0_bringChildren 88 = .ok (.putfield 91, 3) := by decide +kernel
theorem dX0_bringChildren_91 : decode cX0_bringChildren 91 = .ok (.return_, 1) := by decide +kernel
set_option maxHeartbeats 4000000 in
set_option maxRecDepth 100000 in
theorem c_X0_bringChildren (l : Launch) (D : va_G) (tys : List (ClassId × FieldType)) (base : Nat) (G : iv_G) (h0 : Nat) (g_h0 : Nat → Int32) (r_h0 : Nat → Nat) (a_h0 : G h0 = some (0, g_h0, r_h0)) (x_0 : Int32) (i_x_0 : iv_R 0 9 x_0) : Met l yX0_bringChildren (Cond.code yX0_bringChildren cX0_bringChildren 4 none :: iv_W0) ({ frames := 5, cells := 0, slots := 0, locals := 130 }) (iv_Pc iv_sh D classes tys base G [.ref h0, .int x_0]) (iv_Qv iv_sh D classes tys base (fun G' => iv_Md [1, 8, 13, 22, 23, 28, 30] G G')) 0 0 (iv_A base) := by
  refine iv_head (by decide) (Nat.le_of_ble_eq_true rfl) ?_
  intro p e s m args below meth c ls X hr hlocks hname hB hl
  have X := X
  have hx := X.1.1
  have hb := X.1.2.1
  have hM : iv_Md [1, 8, 13, 22, 23, 28, 30] G G := iv_Md.rf
  have hl : lv_has ls 4 [(0, .ref h0), (1, .int x_0)] := hl
  refine lv_aload_n hx hb dX0_bringChildren_0 rfl (lv_at hl 0 rfl) ?_
  refine iv_getr X ft_X0 hB a_h0 sh_0 0 (by decide) rfl k_fl_X0_9 dX0_bringChildren_1 (fun b1 g_b1 r_b1 e_b1 a_b1 => ?_)
  refine lv_iload_n hx hb dX0_bringChildren_4 rfl (lv_at hl 1 rfl) ?_
  refine iv_cVi X k_good k_mf_X5_soundsIn k_im_X5_soundsIn k_sel_X5_soundsIn k_ml_X0_25 ft_X5 hB a_b1 sh_5 (As := [.int x_0]) (c_X5_soundsIn l D tys base G b1 g_b1 r_b1 a_b1 x_0 i_x_0) ⟨rfl, rfl⟩ ⟨Nat.le_of_ble_eq_true rfl, Nat.le_of_ble_eq_true rfl⟩ ⟨Nat.le_of_ble_eq_true rfl, Nat.le_of_ble_eq_true rfl⟩ rfl rfl hl.1 (Nat.le_of_ble_eq_true rfl) dX0_bringChildren_5 (fun x2 G9 H locs hq hB => ?_)
  obtain ⟨rfl, i_x2⟩ := hq
  refine lv_istore_n (lv' := [(2, .int x2), (0, .ref h0), (1, .int x_0)]) hx hb dX0_bringChildren_8 rfl hl (by decide) rfl (fun ls hl => ?_)
  refine lv_aload_n hx hb dX0_bringChildren_9 rfl (lv_at hl 1 rfl) ?_
  refine iv_getr X ft_X0 hB a_h0 sh_0 1 (by decide) rfl k_fl_X0_15 dX0_bringChildren_10 (fun b3 g_b3 r_b3 e_b3 a_b3 => ?_)
  refine lv_iload_n hx hb dX0_bringChildren_13 rfl (lv_at hl 2 rfl) ?_
  refine lv_aload_n hx hb dX0_bringChildren_14 rfl (lv_at hl 1 rfl) ?_
  refine iv_getr0 X ft_X0 hB a_h0 sh_0 0 (by decide) rfl k_fl_X0_9 dX0_bringChildren_15 e_b1 ?_
  refine iv_getr X ft_X5 hB a_b1 sh_5 0 (by decide) rfl k_fl_X0_35 dX0_bringChildren_18 (fun b4 g_b4 r_b4 e_b4 a_b4 => ?_)
  refine lv_iload_n hx hb dX0_bringChildren_21 rfl (lv_at hl 2 rfl) ?_
  refine iv_aald X hB a_b4 sh_40 (iv_in i_x_0 (by decide)) dX0_bringChildren_22 (fun b5 g_b5 r_b5 e_b5 a_b5 => ?_)
  refine iv_geti X ft_X1 hB a_b5 sh_1 0 (by decide) rfl k_fl_X0_71 dX0_bringChildren_23 (fun x6 e_x6 i_x6 => ?_)
  refine lv_iload_n hx hb dX0_bringChildren_26 rfl (lv_at hl 0 rfl) ?_
  refine iv_cVi X k_good k_mf_X2_clearHours k_im_X2_clearHours k_sel_X2_clearHours k_ml_X0_74 ft_X2 hB a_b3 sh_2 (As := [.int x_0, .int x6, .int x2]) (c_X2_clearHours l D tys base G b3 g_b3 r_b3 a_b3 x_0 i_x_0 x6 i_x6 x2 i_x2) ⟨rfl, rfl⟩ ⟨Nat.le_of_ble_eq_true rfl, Nat.le_of_ble_eq_true rfl⟩ ⟨Nat.le_of_ble_eq_true rfl, Nat.le_of_ble_eq_true rfl⟩ rfl rfl hl.1 (Nat.le_of_ble_eq_true rfl) dX0_bringChildren_27 (fun x7 G9 H locs hq hB => ?_)
  obtain ⟨hm, i_x7⟩ := hq
  obtain ⟨G8, hG9⟩ : ∃ g, g = G9 := ⟨_, rfl⟩
  rw [← hG9] at hm hB
  have hM := hM.stp hm (by decide)
  have a_h0 := hm.at a_h0 (by decide)
  refine lv_istore_n (lv' := [(3, .int x7), (2, .int x2), (0, .ref h0), (1, .int x_0)]) hx hb dX0_bringChildren_30 rfl hl (by decide) rfl (fun ls hl => ?_)
  refine lv_aload_n hx hb dX0_bringChildren_31 rfl (lv_at hl 2 rfl) ?_
  refine lv_iload_n hx hb dX0_bringChildren_32 rfl (lv_at hl 3 rfl) ?_
  refine lv_aload_n hx hb dX0_bringChildren_33 rfl (lv_at hl 2 rfl) ?_
  refine iv_getr X ft_X0 hB a_h0 sh_0 1 (by decide) rfl k_fl_X0_15 dX0_bringChildren_34 (fun b9 g_b9 r_b9 e_b9 a_b9 => ?_)
  refine lv_iload_n hx hb dX0_bringChildren_37 rfl (lv_at hl 3 rfl) ?_
  refine lv_iload_n hx hb dX0_bringChildren_38 rfl (lv_at hl 0 rfl) ?_
  refine lv_if_eq (tgt := 46) hx hb dX0_bringChildren_39 (by decide) (fun c10 => ?_) (fun c10 => ?_)
  · skip
    have i10_x7 : iv_R 0 0 x7 := ((i_x7.cutLo (n := 0) (iv_eq_r c10 q_0).1).cutHi (n := 0) (iv_eq_r c10 q_0).2)
    refine lv_iload_n hx hb dX0_bringChildren_46 rfl (lv_at hl 1 rfl) ?_
    refine iv_cSi X k_good k_mf_X0_firstHour k_st_X0_firstHour k_ml_X0_78 hB (As := [.int x2]) (c_X0_firstHour l D tys base G8 x2 i_x2) ⟨rfl, rfl⟩ ⟨Nat.le_of_ble_eq_true rfl, Nat.le_of_ble_eq_true rfl⟩ ⟨Nat.le_of_ble_eq_true rfl, Nat.le_of_ble_eq_true rfl⟩ rfl rfl hl.1 (Nat.le_of_ble_eq_true rfl) dX0_bringChildren_47 (fun x12 G9 H locs hq hB => ?_)
    obtain ⟨rfl, i_x12⟩ := hq
    refine iv_cVi X k_good k_mf_X2_calledTo k_im_X2_calledTo k_sel_X2_calledTo k_ml_X0_81 ft_X2 hB a_b9 sh_2 (As := [.int x_0, .int x12]) (c_X2_calledTo l D tys base G8 b9 g_b9 r_b9 a_b9 x_0 i_x_0 x12 i_x12) ⟨rfl, rfl⟩ ⟨Nat.le_of_ble_eq_true rfl, Nat.le_of_ble_eq_true rfl⟩ ⟨Nat.le_of_ble_eq_true rfl, Nat.le_of_ble_eq_true rfl⟩ rfl rfl hl.1 (Nat.le_of_ble_eq_true rfl) dX0_bringChildren_50 (fun x13 G9 H locs hq hB => ?_)
    obtain ⟨hm, i_x13⟩ := hq
    obtain ⟨G14, hG9⟩ : ∃ g, g = G9 := ⟨_, rfl⟩
    rw [← hG9] at hm hB
    have hM := hM.stp hm (by decide)
    have a_h0 := hm.at a_h0 (by decide)
    refine iv_cVv X k_good k_mf_X0_bringChild k_im_X0_bringChild k_sel_X0_bringChild k_ml_X0_84 ft_X0 hB a_h0 sh_0 (As := [.int x_0, .int x13]) (c_X0_bringChild l D tys base G14 h0 g_h0 r_h0 a_h0 x_0 i_x_0 x13 i_x13) ⟨rfl, rfl⟩ ⟨Nat.le_of_ble_eq_true rfl, Nat.le_of_ble_eq_true rfl⟩ ⟨Nat.le_of_ble_eq_true rfl, Nat.le_of_ble_eq_true rfl⟩ rfl rfl hl.1 (Nat.le_of_ble_eq_true rfl) dX0_bringChildren_53 (fun G9 H locs hq hB => ?_)
    have hm := hq
    obtain ⟨G15, hG9⟩ : ∃ g, g = G9 := ⟨_, rfl⟩
    rw [← hG9] at hm hB
    have hM := hM.stp hm (by decide)
    have a_h0 := hm.at a_h0 (by decide)
    refine lv_aload_n hx hb dX0_bringChildren_56 rfl (lv_at hl 2 rfl) ?_
    refine iv_getr X ft_X0 hB a_h0 sh_0 0 (by decide) rfl k_fl_X0_9 dX0_bringChildren_57 (fun b16 g_b16 r_b16 e_b16 a_b16 => ?_)
    refine iv_getr X ft_X5 hB a_b16 sh_5 0 (by decide) rfl k_fl_X0_35 dX0_bringChildren_60 (fun b17 g_b17 r_b17 e_b17 a_b17 => ?_)
    refine lv_iload_n hx hb dX0_bringChildren_63 rfl (lv_at hl 3 rfl) ?_
    refine iv_aald X hB a_b17 sh_40 (iv_in i_x_0 (by decide)) dX0_bringChildren_64 (fun b18 g_b18 r_b18 e_b18 a_b18 => ?_)
    refine iv_geti X ft_X1 hB a_b18 sh_1 4 (by decide) rfl k_fl_X0_88 dX0_bringChildren_65 (fun x19 e_x19 i_x19 => ?_)
    refine lv_iconst (v := 1) hx hb dX0_bringChildren_68 (by decide) ?_
    refine lv_icmp_ne (tgt := 78) hx hb dX0_bringChildren_69 (by decide) (fun c20 => ?_) (fun c20 => ?_)
    · skip
      refine lv_aload_n hx hb dX0_bringChildren_78 rfl (lv_at hl 2 rfl) ?_
      refine iv_getr0 X ft_X0 hB a_h0 sh_0 0 (by decide) rfl k_fl_X0_9 dX0_bringChildren_79 e_b16 ?_
      refine iv_getr0 X ft_X5 hB a_b16 sh_5 0 (by decide) rfl k_fl_X0_35 dX0_bringChildren_82 e_b17 ?_
      refine lv_iload_n hx hb dX0_bringChildren_85 rfl (lv_at hl 3 rfl) ?_
      refine iv_aald X hB a_b17 sh_40 (iv_in i_x_0 (by decide)) dX0_bringChildren_86 (fun b21 g_b21 r_b21 e_b21 a_b21 => ?_)
      refine lv_iconst (v := 1) hx hb dX0_bringChildren_87 (by decide) ?_
      refine iv_puti X ft_X1 hB a_b21 sh_1 6 (by decide) rfl rfl k_fl_X0_91 rfl (q_1.wk (by decide)) rfl rfl dX0_bringChildren_88 (fun H locs hB => ?_)
      have hm := iv_Md.put (x := 1) a_b21 (j := 6) (by decide) (by decide)
      have h9 := iv_up_eq (G := G15) (a := b21) (k := (1, upd g_b21 6 1, r_b21))
      generalize iv_up G15 b21 _ = G22 at hB hm h9
      have hM := hM.stp hm (by decide)
      have a_h0 := hm.at a_h0 (by decide)
      exact iv_vret X hr hlocks hB hM dX0_bringChildren_91
    · skip
      have i23_x19 : iv_R 1 1 x19 := ((i_x19.cutLo (n := 1) (iv_eq_r c20 q_1).1).cutHi (n := 1) (iv_eq_r c20 q_1).2)
      refine lv_aload_n hx hb dX0_bringChildren_72 rfl (lv_at hl 2 rfl) ?_
      refine lv_iload_n hx hb dX0_bringChildren_73 rfl (lv_at hl 3 rfl) ?_
      refine lv_iload_n hx hb dX0_bringChildren_74 rfl (lv_at hl 3 rfl) ?_
      refine iv_cVv X k_good k_mf_X0_bringChild k_im_X0_bringChild k_sel_X0_bringChild k_ml_X0_84 ft_X0 hB a_h0 sh_0 (As := [.int x_0, .int x_0]) (c_X0_bringChild l D tys base G15 h0 g_h0 r_h0 a_h0 x_0 i_x_0 x_0 i_x_0) ⟨rfl, rfl⟩ ⟨Nat.le_of_ble_eq_true rfl, Nat.le_of_ble_eq_true rfl⟩ ⟨Nat.le_of_ble_eq_true rfl, Nat.le_of_ble_eq_true rfl⟩ rfl rfl hl.1 (Nat.le_of_ble_eq_true rfl) dX0_bringChildren_75 (fun G9 H locs hq hB => ?_)
      have hm := hq
      obtain ⟨G25, hG9⟩ : ∃ g, g = G9 := ⟨_, rfl⟩
      rw [← hG9] at hm hB
      have hM := hM.stp hm (by decide)
      have a_h0 := hm.at a_h0 (by decide)
      refine lv_aload_n hx hb dX0_bringChildren_78 rfl (lv_at hl 2 rfl) ?_
      refine iv_getr X ft_X0 hB a_h0 sh_0 0 (by decide) rfl k_fl_X0_9 dX0_bringChildren_79 (fun b26 g_b26 r_b26 e_b26 a_b26 => ?_)
      refine iv_getr X ft_X5 hB a_b26 sh_5 0 (by decide) rfl k_fl_X0_35 dX0_bringChildren_82 (fun b27 g_b27 r_b27 e_b27 a_b27 => ?_)
      refine lv_iload_n hx hb dX0_bringChildren_85 rfl (lv_at hl 3 rfl) ?_
      refine iv_aald X hB a_b27 sh_40 (iv_in i_x_0 (by decide)) dX0_bringChildren_86 (fun b28 g_b28 r_b28 e_b28 a_b28 => ?_)
      refine lv_iconst (v := 1) hx hb dX0_bringChildren_87 (by decide) ?_
      refine iv_puti X ft_X1 hB a_b28 sh_1 6 (by decide) rfl rfl k_fl_X0_91 rfl (q_1.wk (by decide)) rfl rfl dX0_bringChildren_88 (fun H locs hB => ?_)
      have hm := iv_Md.put (x := 1) a_b28 (j := 6) (by decide) (by decide)
      have h9 := iv_up_eq (G := G25) (a := b28) (k := (1, upd g_b28 6 1, r_b28))
      generalize iv_up G25 b28 _ = G29 at hB hm h9
      have hM := hM.stp hm (by decide)
      have a_h0 := hm.at a_h0 (by decide)
      exact iv_vret X hr hlocks hB hM dX0_bringChildren_91
  · skip
    refine lv_iload_n hx hb dX0_bringChildren_42 rfl (lv_at hl 0 rfl) ?_
    refine lv_goto (tgt := 47) hx hb dX0_bringChildren_43 (by decide) ?_
    refine iv_cSi X k_good k_mf_X0_firstHour k_st_X0_firstHour k_ml_X0_78 hB (As := [.int x7]) (c_X0_firstHour l D tys base G8 x7 i_x7) ⟨rfl, rfl⟩ ⟨Nat.le_of_ble_eq_true rfl, Nat.le_of_ble_eq_true rfl⟩ ⟨Nat.le_of_ble_eq_true rfl, Nat.le_of_ble_eq_true rfl⟩ rfl rfl hl.1 (Nat.le_of_ble_eq_true rfl) dX0_bringChildren_47 (fun x31 G9 H locs hq hB => ?_)
    obtain ⟨rfl, i_x31⟩ := hq
    refine iv_cVi X k_good k_mf_X2_calledTo k_im_X2_calledTo k_sel_X2_calledTo k_ml_X0_81 ft_X2 hB a_b9 sh_2 (As := [.int x_0, .int x31]) (c_X2_calledTo l D tys base G8 b9 g_b9 r_b9 a_b9 x_0 i_x_0 x31 i_x31) ⟨rfl, rfl⟩ ⟨Nat.le_of_ble_eq_true rfl, Nat.le_of_ble_eq_true rfl⟩ ⟨Nat.le_of_ble_eq_true rfl, Nat.le_of_ble_eq_true rfl⟩ rfl rfl hl.1 (Nat.le_of_ble_eq_true rfl) dX0_bringChildren_50 (fun x32 G9 H locs hq hB => ?_)
    obtain ⟨hm, i_x32⟩ := hq
    obtain ⟨G33, hG9⟩ : ∃ g, g = G9 := ⟨_, rfl⟩
    rw [← hG9] at hm hB
    have hM := hM.stp hm (by decide)
    have a_h0 := hm.at a_h0 (by decide)
    refine iv_cVv X k_good k_mf_X0_bringChild k_im_X0_bringChild k_sel_X0_bringChild k_ml_X0_84 ft_X0 hB a_h0 sh_0 (As := [.int x_0, .int x32]) (c_X0_bringChild l D tys base G33 h0 g_h0 r_h0 a_h0 x_0 i_x_0 x32 i_x32) ⟨rfl, rfl⟩ ⟨Nat.le_of_ble_eq_true rfl, Nat.le_of_ble_eq_true rfl⟩ ⟨Nat.le_of_ble_eq_true rfl, Nat.le_of_ble_eq_true rfl⟩ rfl rfl hl.1 (Nat.le_of_ble_eq_true rfl) dX0_bringChildren_53 (fun G9 H locs hq hB => ?_)
    have hm := hq
    obtain ⟨G34, hG9⟩ : ∃ g, g = G9 := ⟨_, rfl⟩
    rw [← hG9] at hm hB
    have hM := hM.stp hm (by decide)
    have a_h0 := hm.at a_h0 (by decide)
    refine lv_aload_n hx hb dX0_bringChildren_56 rfl (lv_at hl 2 rfl) ?_
    refine iv_getr X ft_X0 hB a_h0 sh_0 0 (by decide) rfl k_fl_X0_9 dX0_bringChildren_57 (fun b35 g_b35 r_b35 e_b35 a_b35 => ?_)
    refine iv_getr X ft_X5 hB a_b35 sh_5 0 (by decide) rfl k_fl_X0_35 dX0_bringChildren_60 (fun b36 g_b36 r_b36 e_b36 a_b36 => ?_)
    refine lv_iload_n hx hb dX0_bringChildren_63 rfl (lv_at hl 3 rfl) ?_
    refine iv_aald X hB a_b36 sh_40 (iv_in i_x_0 (by decide)) dX0_bringChildren_64 (fun b37 g_b37 r_b37 e_b37 a_b37 => ?_)
    refine iv_geti X ft_X1 hB a_b37 sh_1 4 (by decide) rfl k_fl_X0_88 dX0_bringChildren_65 (fun x38 e_x38 i_x38 => ?_)
    refine lv_iconst (v := 1) hx hb dX0_bringChildren_68 (by decide) ?_
    refine lv_icmp_ne (tgt := 78) hx hb dX0_bringChildren_69 (by decide) (fun c39 => ?_) (fun c39 => ?_)
    · skip
      refine lv_aload_n hx hb dX0_bringChildren_78 rfl (lv_at hl 2 rfl) ?_
      refine iv_getr0 X ft_X0 hB a_h0 sh_0 0 (by decide) rfl k_fl_X0_9 dX0_bringChildren_79 e_b35 ?_
      refine iv_getr0 X ft_X5 hB a_b35 sh_5 0 (by decide) rfl k_fl_X0_35 dX0_bringChildren_82 e_b36 ?_
      refine lv_iload_n hx hb dX0_bringChildren_85 rfl (lv_at hl 3 rfl) ?_
      refine iv_aald X hB a_b36 sh_40 (iv_in i_x_0 (by decide)) dX0_bringChildren_86 (fun b40 g_b40 r_b40 e_b40 a_b40 => ?_)
      refine lv_iconst (v := 1) hx hb dX0_bringChildren_87 (by decide) ?_
      refine iv_puti X ft_X1 hB a_b40 sh_1 6 (by decide) rfl rfl k_fl_X0_91 rfl (q_1.wk (by decide)) rfl rfl dX0_bringChildren_88 (fun H locs hB => ?_)
      have hm := iv_Md.put (x := 1) a_b40 (j := 6) (by decide) (by decide)
      have h9 := iv_up_eq (G := G34) (a := b40) (k := (1, upd g_b40 6 1, r_b40))
      generalize iv_up G34 b40 _ = G41 at hB hm h9
      have hM := hM.stp hm (by decide)
      have a_h0 := hm.at a_h0 (by decide)
      exact iv_vret X hr hlocks hB hM dX0_bringChildren_91
    · skip
      have i42_x38 : iv_R 1 1 x38 := ((i_x38.cutLo (n := 1) (iv_eq_r c39 q_1).1).cutHi (n := 1) (iv_eq_r c39 q_1).2)
      refine lv_aload_n hx hb dX0_bringChildren_72 rfl (lv_at hl 2 rfl) ?_
      refine lv_iload_n hx hb dX0_bringChildren_73 rfl (lv_at hl 3 rfl) ?_
      refine lv_iload_n hx hb dX0_bringChildren_74 rfl (lv_at hl 3 rfl) ?_
      refine iv_cVv X k_good k_mf_X0_bringChild k_im_X0_bringChild k_sel_X0_bringChild k_ml_X0_84 ft_X0 hB a_h0 sh_0 (As := [.int x_0, .int x_0]) (c_X0_bringChild l D tys base G34 h0 g_h0 r_h0 a_h0 x_0 i_x_0 x_0 i_x_0) ⟨rfl, rfl⟩ ⟨Nat.le_of_ble_eq_true rfl, Nat.le_of_ble_eq_true rfl⟩ ⟨Nat.le_of_ble_eq_true rfl, Nat.le_of_ble_eq_true rfl⟩ rfl rfl hl.1 (Nat.le_of_ble_eq_true rfl) dX0_bringChildren_75 (fun G9 H locs hq hB => ?_)
      have hm := hq
      obtain ⟨G44, hG9⟩ : ∃ g, g = G9 := ⟨_, rfl⟩
      rw [← hG9] at hm hB
      have hM := hM.stp hm (by decide)
      have a_h0 := hm.at a_h0 (by decide)
      refine lv_aload_n hx hb dX0_bringChildren_78 rfl (lv_at hl 2 rfl) ?_
      refine iv_getr X ft_X0 hB a_h0 sh_0 0 (by decide) rfl k_fl_X0_9 dX0_bringChildren_79 (fun b45 g_b45 r_b45 e_b45 a_b45 => ?_)
      refine iv_getr X ft_X5 hB a_b45 sh_5 0 (by decide) rfl k_fl_X0_35 dX0_bringChildren_82 (fun b46 g_b46 r_b46 e_b46 a_b46 => ?_)
      refine lv_iload_n hx hb dX0_bringChildren_85 rfl (lv_at hl 3 rfl) ?_
      refine iv_aald X hB a_b46 sh_40 (iv_in i_x_0 (by decide)) dX0_bringChildren_86 (fun b47 g_b47 r_b47 e_b47 a_b47 => ?_)
      refine lv_iconst (v := 1) hx hb dX0_bringChildren_87 (by decide) ?_
      refine iv_puti X ft_X1 hB a_b47 sh_1 6 (by decide) rfl rfl k_fl_X0_91 rfl (q_1.wk (by decide)) rfl rfl dX0_bringChildren_88 (fun H locs hB => ?_)
      have hm := iv_Md.put (x := 1) a_b47 (j := 6) (by decide) (by decide)
      have h9 := iv_up_eq (G := G44) (a := b47) (k := (1, upd g_b47 6 1, r_b47))
      generalize iv_up G44 b47 _ = G48 at hB hm h9
      have hM := hM.stp hm (by decide)
      have a_h0 := hm.at a_h0 (by decide)
      exact iv_vret X hr hlocks hB hM dX0_bringChildren_91
theorem dX2_comingOf_0 : decode cX2_comingOf 0 = .ok (.aload_n 0, 1) := by decide +kernel
theorem dX2_comingOf_1 : decode cX2_comingOf 1 = .ok (.iload_n 1, 1) := by decide +kernel
theorem dX2_comingOf_2 : decode cX2_comingOf 2 = .ok (.aload_n 0, 1) := by decide +kernel
theorem dX2_comingOf_3 : decode cX2_comingOf 3 = .ok (.getfield 15, 3) := by decide +kernel
theorem dX2_comingOf_6 : decode cX2_comingOf 6 = .ok (.getfield 19, 3) := by decide +kernel
theorem dX2_comingOf_9 : decode cX2_comingOf 9 = .ok (.iload_n 1, 1) := by decide +kernel
theorem dX2_comingOf_10 : decode cX2_comingOf 10 = .ok (.aaload, 1) := by decide +kernel
theorem dX2_comingOf_11 : decode cX2_comingOf 11 = .ok (.getfield 75, 3) := by decide +kernel
theorem dX2_comingOf_14 : decode cX2_comingOf 14 = .ok (.aload_n 0, 1) := by decide +kernel
theorem dX2_comingOf_15 : decode cX2_comingOf 15 = .ok (.getfield 15, 3) := by decide +kernel
theorem dX2_comingOf_18 : decode cX2_comingOf 18 = .ok (.iload_n 1, 1) := by decide +kernel
theorem dX2_comingOf_19 : decode cX2_comingOf 19 = .ok (.invokevirtual 92, 3) := by decide +kernel
theorem dX2_comingOf_22 : decode cX2_comingOf 22 = .ok (.invokevirtual 109, 3) := by decide +kernel
theorem dX2_comingOf_25 : decode cX2_comingOf 25 = .ok (.invokestatic 112, 3) := by decide +kernel
theorem dX2_comingOf_28 : decode cX2_comingOf 28 = .ok (.istore_n 3, 1) := by decide +kernel
theorem dX2_comingOf_29 : decode cX2_comingOf 29 = .ok (.aload_n 0, 1) := by decide +kernel
theorem dX2_comingOf_30 : decode cX2_comingOf 30 = .ok (.iload_n 1, 1) := by decide +kernel
theorem dX2_comingOf_31 : decode cX2_comingOf 31 = .ok (.invokevirtual 52, 3) := by decide +kernel
theorem dX2_comingOf_34 : decode cX2_comingOf 34 = .ok (.aload_n 0, 1) := by decide +kernel
theorem dX2_comingOf_35 : decode cX2_comingOf 35 = .ok (.getfield 9, 3) := by decide +kernel
theorem dX2_comingOf_38 : decode cX2_comingOf 38 = .ok (.bipush 8, 2) := by decide +kernel
theorem dX2_comingOf_40 : decode cX2_comingOf 40 = .ok (.iload_n 3, 1) := by decide +kernel
theorem dX2_comingOf_41 : decode cX2_comingOf 41 = .ok (.iastore, 1) := by decide +kernel
theorem dX2_comingOf_42 : decode cX2_comingOf 42 = .ok (.iload_n 2, 1) := by decide +kernel
theorem dX2_comingOf_43 : decode cX2_comingOf 43 = .ok (.sipush 132, 3) := by decide +kernel
theorem dX2_comingOf_46 : decode cX2_comingOf 46 = .ok (.if_icmp .ne 7, 3) := by decide +kernel
theorem dX2_comingOf_49 : decode cX2_comingOf 49 = .ok (.iconst 1, 1) := by decide +kernel
theorem dX2_comingOf_50 : decode cX2_comingOf 50 = .ok (.goto 4, 3) := by decide +kernel
theorem dX2_comingOf_53 : decode cX2_comingOf 53 = .ok (.iconst 0, 1) := by decide +kernel
theorem dX2_comingOf_54 : decode cX2_comingOf 54 = .ok (.istore 4, 2) := by decide +kernel
theorem dX2_comingOf_56 : decode cX2_comingOf 56 = .ok (.aload_n 0, 1) := by decide +kernel
theorem dX2_comingOf_57 : decode cX2_comingOf 57 = .ok (.getfield 15, 3) := by decide +kernel
theorem dX2_comingOf_60 : decode cX2_comingOf 60 = .ok (.getfield 117, 3) := by decide +kernel
theorem dX2_comingOf_63 : decode cX2_comingOf 63 = .ok (.iload_n 2, 1) := by decide +kernel
theorem dX2_comingOf_64 : decode cX2_comingOf 64 = .ok (.aload_n 0, 1) := by decide +kernel
theorem dX2_comingOf_65 : decode cX2_comingOf 65 = .ok (.getfield 9, 3) := by decide +kernel
theorem dX2_comingOf_68 : decode cX2_comingOf 68 = .ok (.iload 4, 2) := by decide +kernel
theorem dX2_comingOf_70 : decode cX2_comingOf 70 = .ok (.ifCond .eq 10, 3) := by decide +kernel
theorem dX2_comingOf_73 : decode cX2_comingOf 73 = .ok (.bipush 10, 2) := by decide +kernel
theorem dX2_comingOf_75 : decode cX2_comingOf 75 = .ok (.iload_n 3, 1) := by decide +kernel
theorem dX2_comingOf_76 : decode cX2_comingOf 76 = .ok (.imul, 1) := by decide +kernel
theorem dX2_comingOf_77 : decode cX2_comingOf 77 = .ok (.goto 4, 3) := by decide +kernel
theorem dX2_comingOf_80 : decode cX2_comingOf 80 = .ok (.iconst 0, 1) := by decide +kernel
theorem dX2_comingOf_81 : decode cX2_comingOf 81 = .ok (.invokevirtual 60, 3) := by decide +kernel
theorem dX2_comingOf_84 : decode cX2_comingOf 84 = .ok (.istore 5, 2) := by decide +kernel
theorem dX2_comingOf_86 : decode cX2_comingOf 86 = .ok (.iconst 0, 1) := by decide +kernel
theorem dX2_comingOf_87 : decode cX2_comingOf 87 = .ok (.iload 4, 2) := by decide +kernel
theorem dX2_comingOf_89 : decode cX2_comingOf 89 = .ok (.ifCond .eq 9, 3) := by decide +kernel
theorem dX2_comingOf_92 : decode cX2_comingOf 92 = .ok (.sipush 1000, 3) := by decide +kernel
theorem dX2_comingOf_95 : decode cX2_comingOf 95 = .ok (.goto 5, 3) := by decide +kernel
theorem dX2_comingOf_98 : decode cX2_comingOf 98 = .ok (.bipush 99, 2) := by decide +kernel
theorem dX2_comingOf_100 : decode cX2_comingOf 100 = .ok (.iload 5, 2) := by decide +kernel
theorem dX2_comingOf_102 : decode cX2_comingOf 102 = .ok (.invokestatic 66, 3) := by decide +kernel
theorem dX2_comingOf_105 : decode cX2_comingOf 105 = .ok (.invokestatic 72, 3) := by decide +kernel
theorem dX2_comingOf_108 : decode cX2_comingOf 108 = .ok (.ireturn, 1) := by decide +kernel
set_option maxHeartbeats 4000000 in
set_option maxRecDepth 100000 in
theorem c_X2_comingOf (l : Launch) (D : va_G) (tys : List (ClassId × FieldType)) (base : Nat) (G : iv_G) (h0 : Nat) (g_h0 : Nat → Int32) (r_h0 : Nat → Nat) (a_h0 : G h0 = some (2, g_h0, r_h0)) (x_0 : Int32) (i_x_0 : iv_R 0 9 x_0) (x_1 : Int32) (i_x_1 : iv_R 132 133 x_1) : Met l yX2_comingOf (Cond.code yX2_comingOf cX2_comingOf 6 (some .int) :: iv_W0) ({ frames := 5, cells := 0, slots := 0, locals := 130 }) (iv_Pc iv_sh D classes tys base G [.ref h0, .int x_0, .int x_1]) (iv_Qi iv_sh D classes tys base (fun v G' => iv_Md [28, 30] G G' ∧ iv_R 0 1000 v)) 0 0 (iv_A base) := by
  refine iv_head (by decide) (Nat.le_of_ble_eq_true rfl) ?_
  intro p e s m args below meth c ls X hr hlocks hname hB hl
  have X := X
  have hx := X.1.1
  have hb := X.1.2.1
  have hM : iv_Md [28, 30] G G := iv_Md.rf
  have hl : lv_has ls 6 [(0, .ref h0), (1, .int x_0), (2, .int x_1)] := hl
  refine lv_aload_n hx hb dX2_comingOf_0 rfl (lv_at hl 0 rfl) ?_
  refine lv_iload_n hx hb dX2_comingOf_1 rfl (lv_at hl 1 rfl) ?_
  refine lv_aload_n hx hb dX2_comingOf_2 rfl (lv_at hl 0 rfl) ?_
  refine iv_getr X ft_X2 hB a_h0 sh_2 0 (by decide) rfl k_fl_X2_15 dX2_comingOf_3 (fun b1 g_b1 r_b1 e_b1 a_b1 => ?_)
  refine iv_getr X ft_X5 hB a_b1 sh_5 0 (by decide) rfl k_fl_X2_19 dX2_comingOf_6 (fun b2 g_b2 r_b2 e_b2 a_b2 => ?_)
  refine lv_iload_n hx hb dX2_comingOf_9 rfl (lv_at hl 1 rfl) ?_
  refine iv_aald X hB a_b2 sh_40 (iv_in i_x_0 (by decide)) dX2_comingOf_10 (fun b3 g_b3 r_b3 e_b3 a_b3 => ?_)
  refine iv_geti X ft_X1 hB a_b3 sh_1 0 (by decide) rfl k_fl_X2_75 dX2_comingOf_11 (fun x4 e_x4 i_x4 => ?_)
  refine lv_aload_n hx hb dX2_comingOf_14 rfl (lv_at hl 0 rfl) ?_
  refine iv_getr0 X ft_X2 hB a_h0 sh_2 0 (by decide) rfl k_fl_X2_15 dX2_comingOf_15 e_b1 ?_
  refine lv_iload_n hx hb dX2_comingOf_18 rfl (lv_at hl 1 rfl) ?_
  refine iv_cVi X k_good k_mf_X5_soundsIn k_im_X5_soundsIn k_sel_X5_soundsIn k_ml_X2_92 ft_X5 hB a_b1 sh_5 (As := [.int x_0]) (c_X5_soundsIn l D tys base G b1 g_b1 r_b1 a_b1 x_0 i_x_0) ⟨rfl, rfl⟩ ⟨Nat.le_of_ble_eq_true rfl, Nat.le_of_ble_eq_true rfl⟩ ⟨Nat.le_of_ble_eq_true rfl, Nat.le_of_ble_eq_true rfl⟩ rfl rfl hl.1 (Nat.le_of_ble_eq_true rfl) dX2_comingOf_19 (fun x5 G9 H locs hq hB => ?_)
  obtain ⟨rfl, i_x5⟩ := hq
  refine iv_cVi X k_good k_mf_X2_clearHours k_im_X2_clearHours k_sel_X2_clearHours k_ml_X2_109 ft_X2 hB a_h0 sh_2 (As := [.int x_0, .int x4, .int x5]) (c_X2_clearHours l D tys base G h0 g_h0 r_h0 a_h0 x_0 i_x_0 x4 i_x4 x5 i_x5) ⟨rfl, rfl⟩ ⟨Nat.le_of_ble_eq_true rfl, Nat.le_of_ble_eq_true rfl⟩ ⟨Nat.le_of_ble_eq_true rfl, Nat.le_of_ble_eq_true rfl⟩ rfl rfl hl.1 (Nat.le_of_ble_eq_true rfl) dX2_comingOf_22 (fun x6 G9 H locs hq hB => ?_)
  obtain ⟨hm, i_x6⟩ := hq
  obtain ⟨G7, hG9⟩ : ∃ g, g = G9 := ⟨_, rfl⟩
  rw [← hG9] at hm hB
  have hM := hM.stp hm (by decide)
  have a_h0 := hm.at a_h0 (by decide)
  refine iv_cSi X k_good k_mf_J6_bitCount_0f7a4 k_st_J6_bitCount_0f7a4 k_ml_X2_112 hB (As := [.int x6]) (c_J6_bitCount_0f7a4 l D tys base G7 x6 i_x6) ⟨rfl, rfl⟩ ⟨Nat.le_of_ble_eq_true rfl, Nat.le_of_ble_eq_true rfl⟩ ⟨Nat.le_of_ble_eq_true rfl, Nat.le_of_ble_eq_true rfl⟩ rfl rfl hl.1 (Nat.le_of_ble_eq_true rfl) dX2_comingOf_25 (fun x8 G9 H locs hq hB => ?_)
  obtain ⟨rfl, i_x8⟩ := hq
  refine lv_istore_n (lv' := [(3, .int x8), (0, .ref h0), (1, .int x_0), (2, .int x_1)]) hx hb dX2_comingOf_28 rfl hl (by decide) rfl (fun ls hl => ?_)
  refine lv_aload_n hx hb dX2_comingOf_29 rfl (lv_at hl 1 rfl) ?_
  refine lv_iload_n hx hb dX2_comingOf_30 rfl (lv_at hl 2 rfl) ?_
  refine iv_cVv X k_good k_mf_X2_learn k_im_X2_learn k_sel_X2_learn k_ml_X2_52 ft_X2 hB a_h0 sh_2 (As := [.int x_0]) (c_X2_learn l D tys base G7 h0 g_h0 r_h0 a_h0 x_0 i_x_0) ⟨rfl, rfl⟩ ⟨Nat.le_of_ble_eq_true rfl, Nat.le_of_ble_eq_true rfl⟩ ⟨Nat.le_of_ble_eq_true rfl, Nat.le_of_ble_eq_true rfl⟩ rfl rfl hl.1 (Nat.le_of_ble_eq_true rfl) dX2_comingOf_31 (fun G9 H locs hq hB => ?_)
  have hm := hq
  obtain ⟨G9, hG9⟩ : ∃ g, g = G9 := ⟨_, rfl⟩
  rw [← hG9] at hm hB
  have hM := hM.stp hm (by decide)
  have a_h0 := hm.at a_h0 (by decide)
  refine lv_aload_n hx hb dX2_comingOf_34 rfl (lv_at hl 1 rfl) ?_
  refine iv_getr X ft_X2 hB a_h0 sh_2 1 (by decide) rfl k_fl_X2_9 dX2_comingOf_35 (fun b10 g_b10 r_b10 e_b10 a_b10 => ?_)
  refine lv_bipush (v := 8) hx hb dX2_comingOf_38 (by decide) ?_
  refine lv_iload_n hx hb dX2_comingOf_40 rfl (lv_at hl 0 rfl) ?_
  refine iv_ast X hB a_b10 sh_30 (iv_in q_8 (by decide)) (i_x8.wk (by decide)) dX2_comingOf_41 (fun H locs hB => ?_)
  have hm := iv_Md.ast (j := (8 : Int32).toNatClampNeg) (x := x8) a_b10 rfl (by decide)
  have h9 := iv_up_eq (G := G9) (a := b10) (k := (30, upd g_b10 (8 : Int32).toNatClampNeg x8, r_b10))
  generalize iv_up G9 b10 _ = G11 at hB hm h9
  have hM := hM.stp hm (by decide)
  have a_h0 := hm.at a_h0 (by decide)
  refine lv_iload_n hx hb dX2_comingOf_42 rfl (lv_at hl 3 rfl) ?_
  refine lv_sipush (v := 132) hx hb dX2_comingOf_43 (by decide) ?_
  refine lv_icmp_ne (tgt := 53) hx hb dX2_comingOf_46 (by decide) (fun c13 => ?_) (fun c13 => ?_)
  · skip
    have i13_x_1 : iv_R 133 133 x_1 := iv_ne_lo c13 i_x_1 q_132 (by decide)
    refine lv_iconst (v := 0) hx hb dX2_comingOf_53 (by decide) ?_
    refine lv_istore (lv' := [(4, .int 0), (3, .int x8), (0, .ref h0), (1, .int x_0), (2, .int x_1)]) hx hb dX2_comingOf_54 hl (by decide) rfl (fun ls hl => ?_)
    refine lv_aload_n hx hb dX2_comingOf_56 rfl (lv_at hl 2 rfl) ?_
    refine iv_getr X ft_X2 hB a_h0 sh_2 0 (by decide) rfl k_fl_X2_15 dX2_comingOf_57 (fun b15 g_b15 r_b15 e_b15 a_b15 => ?_)
    refine iv_getr X ft_X5 hB a_b15 sh_5 14 (by decide) rfl k_fl_X2_117 dX2_comingOf_60 (fun b16 g_b16 r_b16 e_b16 a_b16 => ?_)
    refine lv_iload_n hx hb dX2_comingOf_63 rfl (lv_at hl 4 rfl) ?_
    refine lv_aload_n hx hb dX2_comingOf_64 rfl (lv_at hl 2 rfl) ?_
    refine iv_getr X ft_X2 hB a_h0 sh_2 1 (by decide) rfl k_fl_X2_9 dX2_comingOf_65 (fun b17 g_b17 r_b17 e_b17 a_b17 => ?_)
    refine lv_iload hx hb dX2_comingOf_68 (lv_at hl 0 rfl) ?_
    refine lv_if_eq (tgt := 80) hx hb dX2_comingOf_70 (by decide) (fun c18 => ?_) (fun c18 => ?_)
    · skip
      refine lv_iconst (v := 0) hx hb dX2_comingOf_80 (by decide) ?_
      refine iv_cVi X k_good k_mf_X3_answer k_im_X3_answer k_sel_X3_answer k_ml_X2_60 ft_X3 hB a_b16 sh_3 (As := [.int x_1, .ref b17, .int 0]) (c_X3_answer l D tys base G11 b16 g_b16 r_b16 a_b16 x_1 (i13_x_1.wk (by decide)) b17 g_b17 r_b17 a_b17 0 (q_0.wk (by decide))) ⟨rfl, rfl⟩ ⟨Nat.le_of_ble_eq_true rfl, Nat.le_of_ble_eq_true rfl⟩ ⟨Nat.le_of_ble_eq_true rfl, Nat.le_of_ble_eq_true rfl⟩ rfl rfl hl.1 (Nat.le_of_ble_eq_true rfl) dX2_comingOf_81 (fun x19 G9 H locs hq hB => ?_)
      obtain ⟨hm, i_x19⟩ := hq
      obtain ⟨G20, hG9⟩ : ∃ g, g = G9 := ⟨_, rfl⟩
      rw [← hG9] at hm hB
      have hM := hM.stp hm (by decide)
      have a_h0 := hm.at a_h0 (by decide)
      refine lv_istore (lv' := [(5, .int x19), (4, .int 0), (3, .int x8), (0, .ref h0), (1, .int x_0), (2, .int x_1)]) hx hb dX2_comingOf_84 hl (by decide) rfl (fun ls hl => ?_)
      refine lv_iconst (v := 0) hx hb dX2_comingOf_86 (by decide) ?_
      refine lv_iload hx hb dX2_comingOf_87 (lv_at hl 1 rfl) ?_
      refine lv_if_eq (tgt := 98) hx hb dX2_comingOf_89 (by decide) (fun c21 => ?_) (fun c21 => ?_)
      · skip
        refine lv_bipush (v := 99) hx hb dX2_comingOf_98 (by decide) ?_
        refine lv_iload hx hb dX2_comingOf_100 (lv_at hl 0 rfl) ?_
        refine iv_mmin X hl.1 k_mm_X2_66 ⟨Nat.le_of_ble_eq_true rfl, Nat.le_of_ble_eq_true rfl⟩ ⟨Nat.le_of_ble_eq_true rfl, Nat.le_of_ble_eq_true rfl⟩ q_99 i_x19 (lo := (-2147483648)) (hi := 99) (by decide) dX2_comingOf_102 (fun x22 e_x22 i_x22 => ?_)
        refine iv_mmax X hl.1 k_mm_X2_72 ⟨Nat.le_of_ble_eq_true rfl, Nat.le_of_ble_eq_true rfl⟩ ⟨Nat.le_of_ble_eq_true rfl, Nat.le_of_ble_eq_true rfl⟩ q_0 i_x22 (lo := 0) (hi := 99) (by decide) dX2_comingOf_105 (fun x23 e_x23 i_x23 => ?_)
        exact iv_iret X hr hlocks hB ⟨hM, (i_x23.wk (by decide))⟩ dX2_comingOf_108
      · skip
        exact absurd rfl c21
    · skip
      exact absurd rfl c18
  · skip
    have i23_x_1 : iv_R 132 132 x_1 := (i_x_1.cutHi (n := 132) (iv_eq_r c13 q_132).2)
    refine lv_iconst (v := 1) hx hb dX2_comingOf_49 (by decide) ?_
    refine lv_goto (tgt := 54) hx hb dX2_comingOf_50 (by decide) ?_
    refine lv_istore (lv' := [(4, .int 1), (3, .int x8), (0, .ref h0), (1, .int x_0), (2, .int x_1)]) hx hb dX2_comingOf_54 hl (by decide) rfl (fun ls hl => ?_)
    refine lv_aload_n hx hb dX2_comingOf_56 rfl (lv_at hl 2 rfl) ?_
    refine iv_getr X ft_X2 hB a_h0 sh_2 0 (by decide) rfl k_fl_X2_15 dX2_comingOf_57 (fun b25 g_b25 r_b25 e_b25 a_b25 => ?_)
    refine iv_getr X ft_X5 hB a_b25 sh_5 14 (by decide) rfl k_fl_X2_117 dX2_comingOf_60 (fun b26 g_b26 r_b26 e_b26 a_b26 => ?_)
    refine lv_iload_n hx hb dX2_comingOf_63 rfl (lv_at hl 4 rfl) ?_
    refine lv_aload_n hx hb dX2_comingOf_64 rfl (lv_at hl 2 rfl) ?_
    refine iv_getr X ft_X2 hB a_h0 sh_2 1 (by decide) rfl k_fl_X2_9 dX2_comingOf_65 (fun b27 g_b27 r_b27 e_b27 a_b27 => ?_)
    refine lv_iload hx hb dX2_comingOf_68 (lv_at hl 0 rfl) ?_
    refine lv_if_eq (tgt := 80) hx hb dX2_comingOf_70 (by decide) (fun c28 => ?_) (fun c28 => ?_)
    · skip
      exact (q_1.cutHi (n := 0) (iv_eq_r c28 q_0).2).no (by decide)
    · skip
      refine lv_bipush (v := 10) hx hb dX2_comingOf_73 (by decide) ?_
      refine lv_iload_n hx hb dX2_comingOf_75 rfl (lv_at hl 1 rfl) ?_
      refine iv_imul hx hb q_10 i_x8 (lo := 0) (hi := 630) (by decide) dX2_comingOf_76 (fun x29 e_x29 i_x29 => ?_)
      refine lv_goto (tgt := 81) hx hb dX2_comingOf_77 (by decide) ?_
      refine iv_cVi X k_good k_mf_X3_answer k_im_X3_answer k_sel_X3_answer k_ml_X2_60 ft_X3 hB a_b26 sh_3 (As := [.int x_1, .ref b27, .int x29]) (c_X3_answer l D tys base G11 b26 g_b26 r_b26 a_b26 x_1 (i23_x_1.wk (by decide)) b27 g_b27 r_b27 a_b27 x29 (i_x29.wk (by decide))) ⟨rfl, rfl⟩ ⟨Nat.le_of_ble_eq_true rfl, Nat.le_of_ble_eq_true rfl⟩ ⟨Nat.le_of_ble_eq_true rfl, Nat.le_of_ble_eq_true rfl⟩ rfl rfl hl.1 (Nat.le_of_ble_eq_true rfl) dX2_comingOf_81 (fun x30 G9 H locs hq hB => ?_)
      obtain ⟨hm, i_x30⟩ := hq
      obtain ⟨G31, hG9⟩ : ∃ g, g = G9 := ⟨_, rfl⟩
      rw [← hG9] at hm hB
      have hM := hM.stp hm (by decide)
      have a_h0 := hm.at a_h0 (by decide)
      refine lv_istore (lv' := [(5, .int x30), (4, .int 1), (3, .int x8), (0, .ref h0), (1, .int x_0), (2, .int x_1)]) hx hb dX2_comingOf_84 hl (by decide) rfl (fun ls hl => ?_)
      refine lv_iconst (v := 0) hx hb dX2_comingOf_86 (by decide) ?_
      refine lv_iload hx hb dX2_comingOf_87 (lv_at hl 1 rfl) ?_
      refine lv_if_eq (tgt := 98) hx hb dX2_comingOf_89 (by decide) (fun c32 => ?_) (fun c32 => ?_)
      · skip
        exact absurd c32 c28
      · skip
        refine lv_sipush (v := 1000) hx hb dX2_comingOf_92 (by decide) ?_
        refine lv_goto (tgt := 100) hx hb dX2_comingOf_95 (by decide) ?_
        refine lv_iload hx hb dX2_comingOf_100 (lv_at hl 0 rfl) ?_
        refine iv_mmin X hl.1 k_mm_X2_66 ⟨Nat.le_of_ble_eq_true rfl, Nat.le_of_ble_eq_true rfl⟩ ⟨Nat.le_of_ble_eq_true rfl, Nat.le_of_ble_eq_true rfl⟩ q_1000 i_x30 (lo := (-2147483648)) (hi := 1000) (by decide) dX2_comingOf_102 (fun x33 e_x33 i_x33 => ?_)
        refine iv_mmax X hl.1 k_mm_X2_72 ⟨Nat.le_of_ble_eq_true rfl, Nat.le_of_ble_eq_true rfl⟩ ⟨Nat.le_of_ble_eq_true rfl, Nat.le_of_ble_eq_true rfl⟩ q_0 i_x33 (lo := 0) (hi := 1000) (by decide) dX2_comingOf_105 (fun x34 e_x34 i_x34 => ?_)
        exact iv_iret X hr hlocks hB ⟨hM, i_x34⟩ dX2_comingOf_108
theorem dX5_draw_0 : decode cX5_draw 0 = .ok (.aload_n 0, 1) := by decide +kernel
theorem dX5_draw_1 : decode cX5_draw 1 = .ok (.ldc 117, 2) := by decide +kernel
theorem dX5_draw_3 : decode cX5_draw 3 = .ok (.aload_n 0, 1) := by decide +kernel
theorem dX5_draw_4 : decode cX5_draw 4 = .ok (.getfield 79, 3) := by decide +kernel
theorem dX5_draw_7 : decode cX5_draw 7 = .ok (.imul, 1) := by decide +kernel
theorem dX5_draw_8 : decode cX5_draw 8 = .ok (.ldc 118, 2) := by decide +kernel
theorem dX5_draw_10 : decode cX5_draw 10 = .ok (.iadd, 1) := by decide +kernel
theorem dX5_draw_11 : decode cX5_draw 11 = .ok (.putfield 79, 3) := by decide +kernel
theorem dX5_draw_14 : decode cX5_draw 14 = .ok (.iload_n 1, 1) := by decide +kernel
theorem dX5_draw_15 : decode cX5_draw 15 = .ok (.ifCond .gt 7, 3) := by decide +kernel
theorem dX5_draw_18 : decode cX5_draw 18 = .ok (.iconst 0, 1) := by decide +kernel
theorem dX5_draw_19 : decode cX5_draw 19 = .ok (.goto 12, 3) := by decide +kernel
theorem dX5_draw_22 : decode cX5_draw 22 = .ok (.aload_n 0, 1) := by decide +kernel
theorem dX5_draw_23 : decode cX5_draw 23 = .ok (.getfield 79, 3) := by decide +kernel
theorem dX5_draw_26 : decode cX5_draw 26 = .ok (.bipush 8, 2) := by decide +kernel
theorem dX5_draw_28 : decode cX5_draw 28 = .ok (.iushr, 1) := by decide +kernel
theorem dX5_draw_29 : decode cX5_draw 29 = .ok (.iload_n 1, 1) := by decide +kernel
theorem dX5_draw_30 : decode cX5_draw 30 = .ok (.irem, 1) := by decide +kernel
theorem dX5_draw_31 : decode cX5_draw 31 = .ok (.ireturn, 1) := by decide +kernel
set_option maxHeartbeats 4000000 in
set_option maxRecDepth 100000 in
theorem c_X5_draw (l : Launch) (D : va_G) (tys : List (ClassId × FieldType)) (base : Nat) (G : iv_G) (h0 : Nat) (g_h0 : Nat → Int32) (r_h0 : Nat → Nat) (a_h0 : G h0 = some (5, g_h0, r_h0)) (x_0 : Int32) (i_x_0 : iv_R 1000 1000 x_0) : Met l yX5_draw (Cond.code yX5_draw cX5_draw 2 (some .int) :: iv_W0) ({ frames := 0, cells := 0, slots := 0, locals := 0 }) (iv_Pc iv_sh D classes tys base G [.ref h0, .int x_0]) (iv_Qi iv_sh D classes tys base (fun v G' => iv_Md [5] G G' ∧ iv_R (-999) 999 v)) 0 0 (iv_A base) := by
  refine iv_head (by decide) (Nat.le_of_ble_eq_true rfl) ?_
  intro p e s m args below meth c ls X hr hlocks hname hB hl
  have X := X
  have hx := X.1.1
  have hb := X.1.2.1
  have hM : iv_Md [5] G G := iv_Md.rf
  have hl : lv_has ls 2 [(0, .ref h0), (1, .int x_0)] := hl
  refine lv_aload_n hx hb dX5_draw_0 rfl (lv_at hl 0 rfl) ?_
  refine lv_ldc (v := 1664525) hx hb X.1.2.2.2.1 (X.1.2.2.2.2 _ k_ct_X5_117) dX5_draw_1 ?_
  refine lv_aload_n hx hb dX5_draw_3 rfl (lv_at hl 0 rfl) ?_
  refine iv_geti X ft_X5 hB a_h0 sh_5 7 (by decide) rfl k_fl_X5_79 dX5_draw_4 (fun x1 e_x1 i_x1 => ?_)
  refine lv_imul hx hb dX5_draw_7 ?_
  refine lv_topi (fun x2 e_x2 => ?_)
  have i_x2 := iv_R.all x2
  refine lv_ldc (v := 1013904223) hx hb X.1.2.2.2.1 (X.1.2.2.2.2 _ k_ct_X5_118) dX5_draw_8 ?_
  refine lv_iadd hx hb dX5_draw_10 ?_
  refine lv_topi (fun x3 e_x3 => ?_)
  have i_x3 := iv_R.all x3
  refine iv_puti X ft_X5 hB a_h0 sh_5 7 (by decide) rfl rfl k_fl_X5_79 rfl i_x3 rfl rfl dX5_draw_11 (fun H locs hB => ?_)
  have hm := iv_Md.put (x := x3) a_h0 (j := 7) (by decide) (by decide)
  have h9 := iv_up_eq (G := G) (a := h0) (k := (5, upd g_h0 7 x3, r_h0))
  generalize iv_up G h0 _ = G4 at hB hm h9
  have hM := hM.stp hm (by decide)
  generalize hgn_g5 : upd g_h0 _ _ = g5 at h9
  have a_h0 := h9
  have e9_g5 : x3 = g5 7 := by rw [← hgn_g5]; simp [upd]
  refine lv_iload_n hx hb dX5_draw_14 rfl (lv_at hl 1 rfl) ?_
  refine lv_if_gt (tgt := 22) hx hb dX5_draw_15 (by decide) (fun c6 => ?_) (fun c6 => ?_)
  · skip
    refine lv_aload_n hx hb dX5_draw_22 rfl (lv_at hl 0 rfl) ?_
    refine iv_geti0 X ft_X5 hB a_h0 sh_5 7 (by decide) rfl k_fl_X5_79 dX5_draw_23 e9_g5 ?_
    refine lv_bipush (v := 8) hx hb dX5_draw_26 (by decide) ?_
    refine lv_iushr hx hb dX5_draw_28 rfl ?_
    refine lv_topi (fun x7 e_x7 => ?_)
    have i_x7 := iv_R.all x7
    refine lv_iload_n hx hb dX5_draw_29 rfl (lv_at hl 1 rfl) ?_
    refine iv_irem hx hb i_x7 i_x_0 (lo := (-999)) (hi := 999) (by decide) dX5_draw_30 (fun x8 e_x8 i_x8 => ?_)
    exact iv_iret X hr hlocks hB ⟨hM, i_x8⟩ dX5_draw_31
  · skip
    exact (i_x_0.cutHi (n := 0) (iv_le_r (iv_nlt c6) q_0)).no (by decide)
theorem dX0_passDay_0 : decode cX0_passDay 0 = .ok (.iconst 0, 1) := by decide +kernel
theorem dX0_passDay_1 : decode cX0_passDay 1 = .ok (.istore_n 1, 1) := by decide +kernel
theorem dX0_passDay_2 : decode cX0_passDay 2 = .ok (.iload_n 1, 1) := by decide +kernel
theorem dX0_passDay_3 : decode cX0_passDay 3 = .ok (.aload_n 0, 1) := by decide +kernel
theorem dX0_passDay_4 : decode cX0_passDay 4 = .ok (.getfield 9, 3) := by decide +kernel
theorem dX0_passDay_7 : decode cX0_passDay 7 = .ok (.getfield 19, 3) := by decide +kernel
theorem dX0_passDay_10 : decode cX0_passDay 10 = .ok (.if_icmp .ge 112, 3) := by decide +kernel
theorem dX0_passDay_13 : decode cX0_passDay 13 = .ok (.aload_n 0, 1) := by decide +kernel
theorem dX0_passDay_14 : decode cX0_passDay 14 = .ok (.getfield 9, 3) := by decide +kernel
theorem dX0_passDay_17 : decode cX0_passDay 17 = .ok (.iload_n 1, 1) := by decide +kernel
theorem dX0_passDay_18 : decode cX0_passDay 18 = .ok (.invokevirtual 25, 3) := by decide +kernel
theorem dX0_passDay_21 : decode cX0_passDay 21 = .ok (.ifCond .eq 95, 3) := by decide +kernel
theorem dX0_passDay_24 : decode cX0_passDay 24 = .ok (.aload_n 0, 1) := by decide +kernel
theorem dX0_passDay_25 : decode cX0_passDay 25 = .ok (.getfield 15, 3) := by decide +kernel
theorem dX0_passDay_28 : decode cX0_passDay 28 = .ok (.iload_n 1, 1) := by decide +kernel
theorem dX0_passDay_29 : decode cX0_passDay 29 = .ok (.sipush 132, 3) := by decide +kernel
theorem dX0_passDay_32 : decode cX0_passDay 32 = .ok (.invokevirtual 29, 3) := by decide +kernel
theorem dX0_passDay_35 : decode cX0_passDay 35 = .ok (.istore_n 2, 1) := by decide +kernel
theorem dX0_passDay_36 : decode cX0_passDay 36 = .ok (.aload_n 0, 1) := by decide +kernel
theorem dX0_passDay_37 : decode cX0_passDay 37 = .ok (.getfield 15, 3) := by decide +kernel
theorem dX0_passDay_40 : decode cX0_passDay 40 = .ok (.iload_n 1, 1) := by decide +kernel
theorem dX0_passDay_41 : decode cX0_passDay 41 = .ok (.sipush 133, 3) := by decide +kernel
theorem dX0_passDay_44 : decode cX0_passDay 44 = .ok (.invokevirtual 29, 3) := by decide +kernel
theorem dX0_passDay_47 : decode cX0_passDay 47 = .ok (.istore_n 3, 1) := by decide +kernel
theorem dX0_passDay_48 : decode cX0_passDay 48 = .ok (.aload_n 0, 1) := by decide +kernel
theorem dX0_passDay_49 : decode cX0_passDay 49 = .ok (.getfield 9, 3) := by decide +kernel
theorem dX0_passDay_52 : decode cX0_passDay 52 = .ok (.getfield 35, 3) := by decide +kernel
theorem dX0_passDay_55 : decode cX0_passDay 55 = .ok (.iload_n 1, 1) := by decide +kernel
theorem dX0_passDay_56 : decode cX0_passDay 56 = .ok (.aaload, 1) := by decide +kernel
theorem dX0_passDay_57 : decode cX0_passDay 57 = .ok (.astore 4, 2) := by decide +kernel
theorem dX0_passDay_59 : decode cX0_passDay 59 = .ok (.aload 4, 2) := by decide +kernel
theorem dX0_passDay_61 : decode cX0_passDay 61 = .ok (.sipush 9999, 3) := by decide +kernel
theorem dX0_passDay_64 : decode cX0_passDay 64 = .ok (.aload 4, 2) := by decide +kernel
theorem dX0_passDay_66 : decode cX0_passDay 66 = .ok (.getfield 39, 3) := by decide +kernel
theorem dX0_passDay_69 : decode cX0_passDay 69 = .ok (.iconst 1, 1) := by decide +kernel
theorem dX0_passDay_70 : decode cX0_passDay 70 = .ok (.iadd, 1) := by decide +kernel
theorem dX0_passDay_71 : decode cX0_passDay 71 = .ok (.invokestatic 44, 3) := by decide +kernel
theorem dX0_passDay_74 : decode cX0_passDay 74 = .ok (.putfield 39, 3) := by decide +kernel
theorem dX0_passDay_77 : decode cX0_passDay 77 = .ok (.aload 4, 2) := by decide +kernel
theorem dX0_passDay_79 : decode cX0_passDay 79 = .ok (.iconst 0, 1) := by decide +kernel
theorem dX0_passDay_80 : decode cX0_passDay 80 = .ok (.aload 4, 2) := by decide +kernel
theorem dX0_passDay_82 : decode cX0_passDay 82 = .ok (.getfield 49, 3) := by decide +kernel
theorem dX0_passDay_85 : decode cX0_passDay 85 = .ok (.iload_n 3, 1) := by decide +kernel
theorem dX0_passDay_86 : decode cX0_passDay 86 = .ok (.isub, 1) := by decide +kernel
theorem dX0_passDay_87 : decode cX0_passDay 87 = .ok (.invokestatic 52, 3) := by decide +kernel
theorem dX0_passDay_90 : decode cX0_passDay 90 = .ok (.putfield 49, 3) := by decide +kernel
theorem dX0_passDay_93 : decode cX0_passDay 93 = .ok (.iload_n 2, 1) := by decide +kernel
theorem dX0_passDay_94 : decode cX0_passDay 94 = .ok (.ifCond .le 22, 3) := by decide +kernel
theorem dX0_passDay_97 : decode cX0_passDay 97 = .ok (.aload_n 0, 1) := by decide +kernel
theorem dX0_passDay_98 : decode cX0_passDay 98 = .ok (.getfield 9, 3) := by decide +kernel
theorem dX0_passDay_101 : decode cX0_passDay 101 = .ok (.sipush 1000, 3) := by decide +kernel
theorem dX0_passDay_104 : decode cX0_passDay 104 = .ok (.invokevirtual 55, 3) := by decide +kernel
theorem dX0_passDay_107 : decode cX0_passDay 107 = .ok (.iload_n 2, 1) := by decide +kernel
theorem dX0_passDay_108 : decode cX0_passDay 108 = .ok (.if_icmp .ge 8, 3) := by decide +kernel
theorem dX0_passDay_111 : decode cX0_passDay 111 = .ok (.aload_n 0, 1) := by decide +kernel
theorem dX0_passDay_112 : decode cX0_passDay 112 = .ok (.iload_n 1, 1) := by decide +kernel
theorem dX0_passDay_113 : decode cX0_passDay 113 = .ok (.invokevirtual 58, 3) := by decide +kernel
theorem dX0_passDay_116 : decode cX0_passDay 116 = .ok (.iinc 1 1, 3) := by decide +kernel
theorem dX0_passDay_119 : decode cX0_passDay 119 = .ok (.goto (-117), 3) := by decide +kernel
theorem dX0_passDay_122 : decode cX0_passDay 122 = .ok (.aload_n 0, 1) := by decide +kernel
theorem dX0_passDay_123 : decode cX0_passDay 123 = .ok (.getfield 9, 3) := by decide +kernel
theorem dX0_passDay_126 : decode cX0_passDay 126 = .ok (.getfield 62, 3) := by decide +kernel
theorem dX0_passDay_129 : decode cX0_passDay 129 = .ok (.ifCond .le 54, 3) := by decide +kernel
theorem dX0_passDay_132 : decode cX0_passDay 132 = .ok (.aload_n 0, 1) := by decide +kernel
theorem dX0_passDay_133 : decode cX0_passDay 133 = .ok (.getfield 9, 3) := by decide +kernel
theorem dX0_passDay_136 : decode cX0_passDay 136 = .ok (.sipush 1000, 3) := by decide +kernel
theorem dX0_passDay_139 : decode cX0_passDay 139 = .ok (.invokevirtual 55, 3) := by decide +kernel
theorem dX0_passDay_142 : decode cX0_passDay 142 = .ok (.aload_n 0, 1) := by decide +kernel
theorem dX0_passDay_143 : decode cX0_passDay 143 = .ok (.getfield 9, 3) := by decide +kernel
theorem dX0_passDay_146 : decode cX0_passDay 146 = .ok (.getfield 62, 3) := by decide +kernel
theorem dX0_passDay_149 : decode cX0_passDay 149 = .ok (.if_icmp .ge 7, 3) := by decide +kernel
theorem dX0_passDay_152 : decode cX0_passDay 152 = .ok (.iconst 1, 1) := by decide +kernel
theorem dX0_passDay_153 : decode cX0_passDay 153 = .ok (.goto 4, 3) := by decide +kernel
theorem dX0_passDay_156 : decode cX0_passDay 156 = .ok (.iconst (-1), 1) := by decide +kernel
theorem dX0_passDay_157 : decode cX0_passDay 157 = .ok (.istore_n 1, 1) := by decide +kernel
theorem dX0_passDay_158 : decode cX0_passDay 158 = .ok (.aload_n 0, 1) := by decide +kernel
theorem dX0_passDay_159 : decode cX0_passDay 159 = .ok (.getfield 9, 3) := by decide +kernel
theorem dX0_passDay_162 : decode cX0_passDay 162 = .ok (.iconst 0, 1) := by decide +kernel
theorem dX0_passDay_163 : decode cX0_passDay 163 = .ok (.bipush 9, 2) := by decide +kernel
theorem dX0_passDay_165 : decode cX0_passDay 165 = .ok (.aload_n 0, 1) := by decide +kernel
theorem dX0_passDay_166 : decode cX0_passDay 166 = .ok (.getfield 9, 3) := by decide +kernel
theorem dX0_passDay_169 : decode cX0_passDay 169 = .ok (.getfield 65, 3) := by decide +kernel
theorem dX0_passDay_172 : decode cX0_passDay 172 = .ok (.iload_n 1, 1) := by decide +kernel
theorem dX0_passDay_173 : decode cX0_passDay 173 = .ok (.iadd, 1) := by decide +kernel
theorem dX0_passDay_174 : decode cX0_passDay 174 = .ok (.invokestatic 44, 3) := by decide +kernel
theorem dX0_passDay_177 : decode cX0_passDay 177 = .ok (.invokestatic 52, 3) := by decide +kernel
theorem dX0_passDay_180 : decode cX0_passDay 180 = .ok (.putfield 65, 3) := by decide +kernel
theorem dX0_passDay_183 : decode cX0_passDay 183 = .ok (.aload_n 0, 1) := by decide +kernel
theorem dX0_passDay_184 : decode cX0_passDay 184 = .ok (.getfield 9, 3) := by decide +kernel
theorem dX0_passDay_187 : decode cX0_passDay 187 = .ok (.dup, 1) := by decide +kernel
theorem dX0_passDay_188 : decode cX0_passDay 188 = .ok (.getfield 68, 3) := by decide +kernel
theorem dX0_passDay_191 : decode cX0_passDay 191 = .ok (.iconst 1, 1) := by decide +kernel
theorem dX0_passDay_192 : decode cX0_passDay 192 = .ok (.iadd, 1) := by decide +kernel
theorem dX0_passDay_193 : decode cX0_passDay 193 = .ok (.putfield 68, 3) := by decide +kernel
theorem dX0_passDay_196 : decode cX0_passDay 196 = .ok (.return_, 1) := by decide +kernel
set_option maxHeartbeats 4000000 in
set_option maxRecDepth 100000 in
theorem c_X0_passDay (l : Launch) (D : va_G) (tys : List (ClassId × FieldType)) (base : Nat) (G : iv_G) (h0 : Nat) (g_h0 : Nat → Int32) (r_h0 : Nat → Nat) (a_h0 : G h0 = some (0, g_h0, r_h0)) : Met l yX0_passDay (Cond.code yX0_passDay cX0_passDay 5 none :: iv_W0) ({ frames := 6, cells := 0, slots := 0, locals := 155 }) (iv_Pc iv_sh D classes tys base G [.ref h0]) (iv_Qv iv_sh D classes tys base (fun G' => iv_Md [1, 5, 8, 13, 22, 23, 28, 30] G G')) 0 0 (iv_A base) := by
  refine iv_head (by decide) (Nat.le_of_ble_eq_true rfl) ?_
  intro p e s m args below meth c ls X hr hlocks hname hB hl
  have X := X
  have hx := X.1.1
  have hb := X.1.2.1
  have hM : iv_Md [1, 5, 8, 13, 22, 23, 28, 30] G G := iv_Md.rf
  have hl : lv_has ls 5 [(0, .ref h0)] := hl
  refine lv_iconst (v := 0) hx hb dX0_passDay_0 (by decide) ?_
  refine lv_istore_n (lv' := [(1, .int 0), (0, .ref h0)]) hx hb dX0_passDay_1 rfl hl (by decide) rfl (fun ls hl => ?_)
  have L_2 : ∀ (n_2 : Nat) (G2 : iv_G) (hM : iv_Md [1, 5, 8, 13, 22, 23, 28, 30] G G2) (H : Heap) (locs : List Loc) (hB : iv_B iv_sh D classes tys base G2 s.heap H locs) (a_h0 : G2 h0 = some (0, g_h0, r_h0)) (x1 : Int32) (i_x1 : iv_R 0 10 x1) (hn_2 : (11 - x1.toInt).toNat < n_2) (ls : Array Slot) (hl : lv_has ls 5 [(1, .int x1), (0, .ref h0)]), W p l e ({ frames := 6, cells := 0, slots := 0, locals := 155 } : Room) s m args below meth c H locs 0 0 (MQ below (iv_Qv iv_sh D classes tys base (fun G' => iv_Md [1, 5, 8, 13, 22, 23, 28, 30] G G')) args s 0 0 (iv_A base)) (F0 m 2 ls []) := by
    intro n_2
    induction n_2 with
    | zero => intro G2 hM H locs hB a_h0 x1 i_x1 hn_2 ls hl; exact absurd hn_2 (Nat.not_lt_zero _)
    | succ n_2 ih_2 =>
      intro G2 hM H locs hB a_h0 x1 i_x1 hn_2 ls hl
      refine lv_iload_n hx hb dX0_passDay_2 rfl (lv_at hl 0 rfl) ?_
      refine lv_aload_n hx hb dX0_passDay_3 rfl (lv_at hl 1 rfl) ?_
      refine iv_getr X ft_X0 hB a_h0 sh_0 0 (by decide) rfl k_fl_X0_9 dX0_passDay_4 (fun b3 g_b3 r_b3 e_b3 a_b3 => ?_)
      refine iv_geti X ft_X5 hB a_b3 sh_5 1 (by decide) rfl k_fl_X0_19 dX0_passDay_7 (fun x4 e_x4 i_x4 => ?_)
      refine lv_icmp_ge (tgt := 122) hx hb dX0_passDay_10 (by decide) (fun c5 => ?_) (fun c5 => ?_)
      · skip
        refine lv_aload_n hx hb dX0_passDay_122 rfl (lv_at hl 1 rfl) ?_
        refine iv_getr0 X ft_X0 hB a_h0 sh_0 0 (by decide) rfl k_fl_X0_9 dX0_passDay_123 e_b3 ?_
        refine iv_geti X ft_X5 hB a_b3 sh_5 5 (by decide) rfl k_fl_X0_62 dX0_passDay_126 (fun x6 e_x6 i_x6 => ?_)
        refine lv_if_le (tgt := 183) hx hb dX0_passDay_129 (by decide) (fun c7 => ?_) (fun c7 => ?_)
        · skip
          have i7_x6 : iv_R (-2147483648) 0 x6 := (i_x6.cutHi (n := 0) (iv_le_r c7 q_0))
          refine lv_aload_n hx hb dX0_passDay_183 rfl (lv_at hl 1 rfl) ?_
          refine iv_getr0 X ft_X0 hB a_h0 sh_0 0 (by decide) rfl k_fl_X0_9 dX0_passDay_184 e_b3 ?_
          refine lv_dup hx hb dX0_passDay_187 rfl ?_
          refine iv_geti X ft_X5 hB a_b3 sh_5 6 (by decide) rfl k_fl_X0_68 dX0_passDay_188 (fun x9 e_x9 i_x9 => ?_)
          refine lv_iconst (v := 1) hx hb dX0_passDay_191 (by decide) ?_
          refine lv_iadd hx hb dX0_passDay_192 ?_
          refine lv_topi (fun x10 e_x10 => ?_)
          have i_x10 := iv_R.all x10
          refine iv_puti X ft_X5 hB a_b3 sh_5 6 (by decide) rfl rfl k_fl_X0_68 rfl i_x10 rfl rfl dX0_passDay_193 (fun H locs hB => ?_)
          have hm := iv_Md.put (x := x10) a_b3 (j := 6) (by decide) (by decide)
          have h9 := iv_up_eq (G := G2) (a := b3) (k := (5, upd g_b3 6 x10, r_b3))
          generalize iv_up G2 b3 _ = G11 at hB hm h9
          have hM := hM.stp hm (by decide)
          have a_h0 := hm.at a_h0 (by decide)
          exact iv_vret X hr hlocks hB hM dX0_passDay_196
        · skip
          have i12_x6 : iv_R 1 2147483647 x6 := (i_x6.cutLo (n := 1) (iv_lt_l (iv_nle c7) q_0 (by decide)))
          refine lv_aload_n hx hb dX0_passDay_132 rfl (lv_at hl 1 rfl) ?_
          refine iv_getr0 X ft_X0 hB a_h0 sh_0 0 (by decide) rfl k_fl_X0_9 dX0_passDay_133 e_b3 ?_
          refine lv_sipush (v := 1000) hx hb dX0_passDay_136 (by decide) ?_
          refine iv_cVi X k_good k_mf_X5_draw k_im_X5_draw k_sel_X5_draw k_ml_X0_55 ft_X5 hB a_b3 sh_5 (As := [.int 1000]) (c_X5_draw l D tys base G2 b3 g_b3 r_b3 a_b3 1000 q_1000) ⟨rfl, rfl⟩ ⟨Nat.le_of_ble_eq_true rfl, Nat.le_of_ble_eq_true rfl⟩ ⟨Nat.le_of_ble_eq_true rfl, Nat.le_of_ble_eq_true rfl⟩ rfl rfl hl.1 (Nat.le_of_ble_eq_true rfl) dX0_passDay_139 (fun x14 G9 H locs hq hB => ?_)
          obtain ⟨hm, i_x14⟩ := hq
          obtain ⟨G15, hG9⟩ : ∃ g, g = G9 := ⟨_, rfl⟩
          rw [← hG9] at hm hB
          have hM := hM.stp hm (by decide)
          have a_h0 := hm.at a_h0 (by decide)
          refine lv_aload_n hx hb dX0_passDay_142 rfl (lv_at hl 1 rfl) ?_
          refine iv_getr X ft_X0 hB a_h0 sh_0 0 (by decide) rfl k_fl_X0_9 dX0_passDay_143 (fun b16 g_b16 r_b16 e_b16 a_b16 => ?_)
          refine iv_geti X ft_X5 hB a_b16 sh_5 5 (by decide) rfl k_fl_X0_62 dX0_passDay_146 (fun x17 e_x17 i_x17 => ?_)
          refine lv_icmp_ge (tgt := 156) hx hb dX0_passDay_149 (by decide) (fun c18 => ?_) (fun c18 => ?_)
          · skip
            have i18_x17 : iv_R (-2147483648) 999 x17 := (i_x17.cutHi (n := 999) (iv_le_r c18 i_x14))
            refine lv_iconst (v := (-1)) hx hb dX0_passDay_156 (by decide) ?_
            refine lv_istore_n (lv' := [(1, .int (-1)), (0, .ref h0)]) hx hb dX0_passDay_157 rfl hl (by decide) rfl (fun ls hl => ?_)
            refine lv_aload_n hx hb dX0_passDay_158 rfl (lv_at hl 1 rfl) ?_
            refine iv_getr0 X ft_X0 hB a_h0 sh_0 0 (by decide) rfl k_fl_X0_9 dX0_passDay_159 e_b16 ?_
            refine lv_iconst (v := 0) hx hb dX0_passDay_162 (by decide) ?_
            refine lv_bipush (v := 9) hx hb dX0_passDay_163 (by decide) ?_
            refine lv_aload_n hx hb dX0_passDay_165 rfl (lv_at hl 1 rfl) ?_
            refine iv_getr0 X ft_X0 hB a_h0 sh_0 0 (by decide) rfl k_fl_X0_9 dX0_passDay_166 e_b16 ?_
            refine iv_geti X ft_X5 hB a_b16 sh_5 4 (by decide) rfl k_fl_X0_65 dX0_passDay_169 (fun x20 e_x20 i_x20 => ?_)
            refine lv_iload_n hx hb dX0_passDay_172 rfl (lv_at hl 0 rfl) ?_
            refine lv_iadd hx hb dX0_passDay_173 ?_
            refine lv_topi (fun x21 e_x21 => ?_)
            have i_x21 := iv_R.all x21
            refine iv_mmin X hl.1 k_mm_X0_44 ⟨Nat.le_of_ble_eq_true rfl, Nat.le_of_ble_eq_true rfl⟩ ⟨Nat.le_of_ble_eq_true rfl, Nat.le_of_ble_eq_true rfl⟩ q_9 i_x21 (lo := (-2147483648)) (hi := 9) (by decide) dX0_passDay_174 (fun x22 e_x22 i_x22 => ?_)
            refine iv_mmax X hl.1 k_mm_X0_52 ⟨Nat.le_of_ble_eq_true rfl, Nat.le_of_ble_eq_true rfl⟩ ⟨Nat.le_of_ble_eq_true rfl, Nat.le_of_ble_eq_true rfl⟩ q_0 i_x22 (lo := 0) (hi := 9) (by decide) dX0_passDay_177 (fun x23 e_x23 i_x23 => ?_)
            refine iv_puti X ft_X5 hB a_b16 sh_5 4 (by decide) rfl rfl k_fl_X0_65 rfl (i_x23.wk (by decide)) rfl rfl dX0_passDay_180 (fun H locs hB => ?_)
            have hm := iv_Md.put (x := x23) a_b16 (j := 4) (by decide) (by decide)
            have h9 := iv_up_eq (G := G15) (a := b16) (k := (5, upd g_b16 4 x23, r_b16))
            generalize iv_up G15 b16 _ = G24 at hB hm h9
            have hM := hM.stp hm (by decide)
            have a_h0 := hm.at a_h0 (by decide)
            refine lv_aload_n hx hb dX0_passDay_183 rfl (lv_at hl 1 rfl) ?_
            refine iv_getr X ft_X0 hB a_h0 sh_0 0 (by decide) rfl k_fl_X0_9 dX0_passDay_184 (fun b26 g_b26 r_b26 e_b26 a_b26 => ?_)
            refine lv_dup hx hb dX0_passDay_187 rfl ?_
            refine iv_geti X ft_X5 hB a_b26 sh_5 6 (by decide) rfl k_fl_X0_68 dX0_passDay_188 (fun x27 e_x27 i_x27 => ?_)
            refine lv_iconst (v := 1) hx hb dX0_passDay_191 (by decide) ?_
            refine lv_iadd hx hb dX0_passDay_192 ?_
            refine lv_topi (fun x28 e_x28 => ?_)
            have i_x28 := iv_R.all x28
            refine iv_puti X ft_X5 hB a_b26 sh_5 6 (by decide) rfl rfl k_fl_X0_68 rfl i_x28 rfl rfl dX0_passDay_193 (fun H locs hB => ?_)
            have hm := iv_Md.put (x := x28) a_b26 (j := 6) (by decide) (by decide)
            have h9 := iv_up_eq (G := G24) (a := b26) (k := (5, upd g_b26 6 x28, r_b26))
            generalize iv_up G24 b26 _ = G29 at hB hm h9
            have hM := hM.stp hm (by decide)
            have a_h0 := hm.at a_h0 (by decide)
            exact iv_vret X hr hlocks hB hM dX0_passDay_196
          · skip
            have i30_x17 : iv_R (-998) 2147483647 x17 := (i_x17.cutLo (n := (-998)) (iv_lt_l (iv_nle c18) i_x14 (by decide)))
            refine lv_iconst (v := 1) hx hb dX0_passDay_152 (by decide) ?_
            refine lv_goto (tgt := 157) hx hb dX0_passDay_153 (by decide) ?_
            refine lv_istore_n (lv' := [(1, .int 1), (0, .ref h0)]) hx hb dX0_passDay_157 rfl hl (by decide) rfl (fun ls hl => ?_)
            refine lv_aload_n hx hb dX0_passDay_158 rfl (lv_at hl 1 rfl) ?_
            refine iv_getr0 X ft_X0 hB a_h0 sh_0 0 (by decide) rfl k_fl_X0_9 dX0_passDay_159 e_b16 ?_
            refine lv_iconst (v := 0) hx hb dX0_passDay_162 (by decide) ?_
            refine lv_bipush (v := 9) hx hb dX0_passDay_163 (by decide) ?_
            refine lv_aload_n hx hb dX0_passDay_165 rfl (lv_at hl 1 rfl) ?_
            refine iv_getr0 X ft_X0 hB a_h0 sh_0 0 (by decide) rfl k_fl_X0_9 dX0_passDay_166 e_b16 ?_
            refine iv_geti X ft_X5 hB a_b16 sh_5 4 (by decide) rfl k_fl_X0_65 dX0_passDay_169 (fun x32 e_x32 i_x32 => ?_)
            refine lv_iload_n hx hb dX0_passDay_172 rfl (lv_at hl 0 rfl) ?_
            refine lv_iadd hx hb dX0_passDay_173 ?_
            refine lv_topi (fun x33 e_x33 => ?_)
            have i_x33 := iv_R.all x33
            refine iv_mmin X hl.1 k_mm_X0_44 ⟨Nat.le_of_ble_eq_true rfl, Nat.le_of_ble_eq_true rfl⟩ ⟨Nat.le_of_ble_eq_true rfl, Nat.le_of_ble_eq_true rfl⟩ q_9 i_x33 (lo := (-2147483648)) (hi := 9) (by decide) dX0_passDay_174 (fun x34 e_x34 i_x34 => ?_)
            refine iv_mmax X hl.1 k_mm_X0_52 ⟨Nat.le_of_ble_eq_true rfl, Nat.le_of_ble_eq_true rfl⟩ ⟨Nat.le_of_ble_eq_true rfl, Nat.le_of_ble_eq_true rfl⟩ q_0 i_x34 (lo := 0) (hi := 9) (by decide) dX0_passDay_177 (fun x35 e_x35 i_x35 => ?_)
            refine iv_puti X ft_X5 hB a_b16 sh_5 4 (by decide) rfl rfl k_fl_X0_65 rfl (i_x35.wk (by decide)) rfl rfl dX0_passDay_180 (fun H locs hB => ?_)
            have hm := iv_Md.put (x := x35) a_b16 (j := 4) (by decide) (by decide)
            have h9 := iv_up_eq (G := G15) (a := b16) (k := (5, upd g_b16 4 x35, r_b16))
            generalize iv_up G15 b16 _ = G36 at hB hm h9
            have hM := hM.stp hm (by decide)
            have a_h0 := hm.at a_h0 (by decide)
            refine lv_aload_n hx hb dX0_passDay_183 rfl (lv_at hl 1 rfl) ?_
            refine iv_getr X ft_X0 hB a_h0 sh_0 0 (by decide) rfl k_fl_X0_9 dX0_passDay_184 (fun b38 g_b38 r_b38 e_b38 a_b38 => ?_)
            refine lv_dup hx hb dX0_passDay_187 rfl ?_
            refine iv_geti X ft_X5 hB a_b38 sh_5 6 (by decide) rfl k_fl_X0_68 dX0_passDay_188 (fun x39 e_x39 i_x39 => ?_)
            refine lv_iconst (v := 1) hx hb dX0_passDay_191 (by decide) ?_
            refine lv_iadd hx hb dX0_passDay_192 ?_
            refine lv_topi (fun x40 e_x40 => ?_)
            have i_x40 := iv_R.all x40
            refine iv_puti X ft_X5 hB a_b38 sh_5 6 (by decide) rfl rfl k_fl_X0_68 rfl i_x40 rfl rfl dX0_passDay_193 (fun H locs hB => ?_)
            have hm := iv_Md.put (x := x40) a_b38 (j := 6) (by decide) (by decide)
            have h9 := iv_up_eq (G := G36) (a := b38) (k := (5, upd g_b38 6 x40, r_b38))
            generalize iv_up G36 b38 _ = G41 at hB hm h9
            have hM := hM.stp hm (by decide)
            have a_h0 := hm.at a_h0 (by decide)
            exact iv_vret X hr hlocks hB hM dX0_passDay_196
      · skip
        have i42_x1 : iv_R 0 9 x1 := (i_x1.cutHi (n := 9) (iv_lt_r (iv_nle c5) i_x4 (by decide)))
        have i43_x4 : iv_R 1 10 x4 := (i_x4.cutLo (n := 1) (iv_lt_l (iv_nle c5) i_x1 (by decide)))
        refine lv_aload_n hx hb dX0_passDay_13 rfl (lv_at hl 1 rfl) ?_
        refine iv_getr0 X ft_X0 hB a_h0 sh_0 0 (by decide) rfl k_fl_X0_9 dX0_passDay_14 e_b3 ?_
        refine lv_iload_n hx hb dX0_passDay_17 rfl (lv_at hl 0 rfl) ?_
        refine iv_cVi X k_good k_mf_X5_soundsIn k_im_X5_soundsIn k_sel_X5_soundsIn k_ml_X0_25 ft_X5 hB a_b3 sh_5 (As := [.int x1]) (c_X5_soundsIn l D tys base G2 b3 g_b3 r_b3 a_b3 x1 i42_x1) ⟨rfl, rfl⟩ ⟨Nat.le_of_ble_eq_true rfl, Nat.le_of_ble_eq_true rfl⟩ ⟨Nat.le_of_ble_eq_true rfl, Nat.le_of_ble_eq_true rfl⟩ rfl rfl hl.1 (Nat.le_of_ble_eq_true rfl) dX0_passDay_18 (fun x45 G9 H locs hq hB => ?_)
        obtain ⟨rfl, i_x45⟩ := hq
        refine lv_if_eq (tgt := 116) hx hb dX0_passDay_21 (by decide) (fun c46 => ?_) (fun c46 => ?_)
        · skip
          have i46_x45 : iv_R 0 0 x45 := ((i_x45.cutLo (n := 0) (iv_eq_r c46 q_0).1).cutHi (n := 0) (iv_eq_r c46 q_0).2)
          refine iv_iinc hx hb i42_x1 (lo := 1) (hi := 10) (by decide) dX0_passDay_116 hl (k := 0) rfl (by decide) (fun x48 ls e_x48 i_x48 hl => ?_)
          have hl : lv_has ls 5 [(1, .int x48), (0, .ref h0)] := hl
          refine lv_goto (tgt := 2) hx hb dX0_passDay_119 (by decide) ?_
          exact ih_2 G2 hM _ _ hB a_h0 x48 (i_x48.wk (by decide)) (iv_mup (c := 1) i_x1 (by decide) (by decide) (by omega) hn_2) _ (lv_sub hl [0, 1] rfl)
        · skip
          refine lv_aload_n hx hb dX0_passDay_24 rfl (lv_at hl 1 rfl) ?_
          refine iv_getr X ft_X0 hB a_h0 sh_0 1 (by decide) rfl k_fl_X0_15 dX0_passDay_25 (fun b49 g_b49 r_b49 e_b49 a_b49 => ?_)
          refine lv_iload_n hx hb dX0_passDay_28 rfl (lv_at hl 0 rfl) ?_
          refine lv_sipush (v := 132) hx hb dX0_passDay_29 (by decide) ?_
          refine iv_cVi X k_good k_mf_X2_comingOf k_im_X2_comingOf k_sel_X2_comingOf k_ml_X0_29 ft_X2 hB a_b49 sh_2 (As := [.int x1, .int 132]) (c_X2_comingOf l D tys base G2 b49 g_b49 r_b49 a_b49 x1 i42_x1 132 (q_132.wk (by decide))) ⟨rfl, rfl⟩ ⟨Nat.le_of_ble_eq_true rfl, Nat.le_of_ble_eq_true rfl⟩ ⟨Nat.le_of_ble_eq_true rfl, Nat.le_of_ble_eq_true rfl⟩ rfl rfl hl.1 (Nat.le_of_ble_eq_true rfl) dX0_passDay_32 (fun x50 G9 H locs hq hB => ?_)
          obtain ⟨hm, i_x50⟩ := hq
          obtain ⟨G51, hG9⟩ : ∃ g, g = G9 := ⟨_, rfl⟩
          rw [← hG9] at hm hB
          have hM := hM.stp hm (by decide)
          have a_h0 := hm.at a_h0 (by decide)
          refine lv_istore_n (lv' := [(2, .int x50), (1, .int x1), (0, .ref h0)]) hx hb dX0_passDay_35 rfl hl (by decide) rfl (fun ls hl => ?_)
          refine lv_aload_n hx hb dX0_passDay_36 rfl (lv_at hl 2 rfl) ?_
          refine iv_getr X ft_X0 hB a_h0 sh_0 1 (by decide) rfl k_fl_X0_15 dX0_passDay_37 (fun b52 g_b52 r_b52 e_b52 a_b52 => ?_)
          refine lv_iload_n hx hb dX0_passDay_40 rfl (lv_at hl 1 rfl) ?_
          refine lv_sipush (v := 133) hx hb dX0_passDay_41 (by decide) ?_
          refine iv_cVi X k_good k_mf_X2_comingOf k_im_X2_comingOf k_sel_X2_comingOf k_ml_X0_29 ft_X2 hB a_b52 sh_2 (As := [.int x1, .int 133]) (c_X2_comingOf l D tys base G51 b52 g_b52 r_b52 a_b52 x1 i42_x1 133 (q_133.wk (by decide))) ⟨rfl, rfl⟩ ⟨Nat.le_of_ble_eq_true rfl, Nat.le_of_ble_eq_true rfl⟩ ⟨Nat.le_of_ble_eq_true rfl, Nat.le_of_ble_eq_true rfl⟩ rfl rfl hl.1 (Nat.le_of_ble_eq_true rfl) dX0_passDay_44 (fun x53 G9 H locs hq hB => ?_)
          obtain ⟨hm, i_x53⟩ := hq
          obtain ⟨G54, hG9⟩ : ∃ g, g = G9 := ⟨_, rfl⟩
          rw [← hG9] at hm hB
          have hM := hM.stp hm (by decide)
          have a_h0 := hm.at a_h0 (by decide)
          refine lv_istore_n (lv' := [(3, .int x53), (2, .int x50), (1, .int x1), (0, .ref h0)]) hx hb dX0_passDay_47 rfl hl (by decide) rfl (fun ls hl => ?_)
          refine lv_aload_n hx hb dX0_passDay_48 rfl (lv_at hl 3 rfl) ?_
          refine iv_getr X ft_X0 hB a_h0 sh_0 0 (by decide) rfl k_fl_X0_9 dX0_passDay_49 (fun b55 g_b55 r_b55 e_b55 a_b55 => ?_)
          refine iv_getr X ft_X5 hB a_b55 sh_5 0 (by decide) rfl k_fl_X0_35 dX0_passDay_52 (fun b56 g_b56 r_b56 e_b56 a_b56 => ?_)
          refine lv_iload_n hx hb dX0_passDay_55 rfl (lv_at hl 2 rfl) ?_
          refine iv_aald X hB a_b56 sh_40 (iv_in i42_x1 (by decide)) dX0_passDay_56 (fun b57 g_b57 r_b57 e_b57 a_b57 => ?_)
          refine lv_astore (lv' := [(4, .ref b57), (3, .int x53), (2, .int x50), (1, .int x1), (0, .ref h0)]) hx hb dX0_passDay_57 hl (by decide) rfl (fun ls hl => ?_)
          refine lv_aload hx hb dX0_passDay_59 (lv_at hl 0 rfl) ?_
          refine lv_sipush (v := 9999) hx hb dX0_passDay_61 (by decide) ?_
          refine lv_aload hx hb dX0_passDay_64 (lv_at hl 0 rfl) ?_
          refine iv_geti X ft_X1 hB a_b57 sh_1 7 (by decide) rfl k_fl_X0_39 dX0_passDay_66 (fun x58 e_x58 i_x58 => ?_)
          refine lv_iconst (v := 1) hx hb dX0_passDay_69 (by decide) ?_
          refine lv_iadd hx hb dX0_passDay_70 ?_
          refine lv_topi (fun x59 e_x59 => ?_)
          have i_x59 := iv_R.all x59
          refine iv_mmin X hl.1 k_mm_X0_44 ⟨Nat.le_of_ble_eq_true rfl, Nat.le_of_ble_eq_true rfl⟩ ⟨Nat.le_of_ble_eq_true rfl, Nat.le_of_ble_eq_true rfl⟩ q_9999 i_x59 (lo := (-2147483648)) (hi := 9999) (by decide) dX0_passDay_71 (fun x60 e_x60 i_x60 => ?_)
          refine iv_puti X ft_X1 hB a_b57 sh_1 7 (by decide) rfl rfl k_fl_X0_39 rfl (i_x60.wk (by decide)) rfl rfl dX0_passDay_74 (fun H locs hB => ?_)
          have hm := iv_Md.put (x := x60) a_b57 (j := 7) (by decide) (by decide)
          have h9 := iv_up_eq (G := G54) (a := b57) (k := (1, upd g_b57 7 x60, r_b57))
          generalize iv_up G54 b57 _ = G61 at hB hm h9
          have hM := hM.stp hm (by decide)
          generalize hgn_g62 : upd g_b57 _ _ = g62 at h9
          have a_h0 := hm.at a_h0 (by decide)
          have a_b57 := h9
          have e9_g62 : x60 = g62 7 := by rw [← hgn_g62]; simp [upd]
          refine lv_aload hx hb dX0_passDay_77 (lv_at hl 0 rfl) ?_
          refine lv_iconst (v := 0) hx hb dX0_passDay_79 (by decide) ?_
          refine lv_aload hx hb dX0_passDay_80 (lv_at hl 0 rfl) ?_
          refine iv_geti X ft_X1 hB a_b57 sh_1 3 (by decide) rfl k_fl_X0_49 dX0_passDay_82 (fun x63 e_x63 i_x63 => ?_)
          refine lv_iload_n hx hb dX0_passDay_85 rfl (lv_at hl 1 rfl) ?_
          refine lv_isub hx hb dX0_passDay_86 ?_
          refine lv_topi (fun x64 e_x64 => ?_)
          have i_x64 := iv_R.all x64
          refine iv_mmax X hl.1 k_mm_X0_52 ⟨Nat.le_of_ble_eq_true rfl, Nat.le_of_ble_eq_true rfl⟩ ⟨Nat.le_of_ble_eq_true rfl, Nat.le_of_ble_eq_true rfl⟩ q_0 i_x64 (lo := 0) (hi := 2147483647) (by decide) dX0_passDay_87 (fun x65 e_x65 i_x65 => ?_)
          refine iv_puti X ft_X1 hB a_b57 sh_1 3 (by decide) rfl rfl k_fl_X0_49 rfl (i_x65.wk (by decide)) rfl rfl dX0_passDay_90 (fun H locs hB => ?_)
          have hm := iv_Md.put (x := x65) a_b57 (j := 3) (by decide) (by decide)
          have h9 := iv_up_eq (G := G61) (a := b57) (k := (1, upd g62 3 x65, r_b57))
          generalize iv_up G61 b57 _ = G66 at hB hm h9
          have hM := hM.stp hm (by decide)
          generalize hgn_g67 : upd g62 _ _ = g67 at h9
          have a_h0 := hm.at a_h0 (by decide)
          have a_b57 := h9
          have e68 : x60 = g67 7 := by rw [← hgn_g67]; exact e9_g62
          have e9_g67 : x65 = g67 3 := by rw [← hgn_g67]; simp [upd]
          refine lv_iload_n hx hb dX0_passDay_93 rfl (lv_at hl 2 rfl) ?_
          refine lv_if_le (tgt := 116) hx hb dX0_passDay_94 (by decide) (fun c69 => ?_) (fun c69 => ?_)
          · skip
            have i69_x50 : iv_R 0 0 x50 := (i_x50.cutHi (n := 0) (iv_le_r c69 q_0))
            refine iv_iinc hx hb i42_x1 (lo := 1) (hi := 10) (by decide) dX0_passDay_116 hl (k := 3) rfl (by decide) (fun x71 ls e_x71 i_x71 hl => ?_)
            have hl : lv_has ls 5 [(1, .int x71), (4, .ref b57), (3, .int x53), (2, .int x50), (0, .ref h0)] := hl
            refine lv_goto (tgt := 2) hx hb dX0_passDay_119 (by decide) ?_
            exact ih_2 G66 hM _ _ hB a_h0 x71 (i_x71.wk (by decide)) (iv_mup (c := 1) i_x1 (by decide) (by decide) (by omega) hn_2) _ (lv_sub hl [0, 4] rfl)
          · skip
            have i71_x50 : iv_R 1 1000 x50 := (i_x50.cutLo (n := 1) (iv_lt_l (iv_nle c69) q_0 (by decide)))
            refine lv_aload_n hx hb dX0_passDay_97 rfl (lv_at hl 4 rfl) ?_
            refine iv_getr X ft_X0 hB a_h0 sh_0 0 (by decide) rfl k_fl_X0_9 dX0_passDay_98 (fun b73 g_b73 r_b73 e_b73 a_b73 => ?_)
            refine lv_sipush (v := 1000) hx hb dX0_passDay_101 (by decide) ?_
            refine iv_cVi X k_good k_mf_X5_draw k_im_X5_draw k_sel_X5_draw k_ml_X0_55 ft_X5 hB a_b73 sh_5 (As := [.int 1000]) (c_X5_draw l D tys base G66 b73 g_b73 r_b73 a_b73 1000 q_1000) ⟨rfl, rfl⟩ ⟨Nat.le_of_ble_eq_true rfl, Nat.le_of_ble_eq_true rfl⟩ ⟨Nat.le_of_ble_eq_true rfl, Nat.le_of_ble_eq_true rfl⟩ rfl rfl hl.1 (Nat.le_of_ble_eq_true rfl) dX0_passDay_104 (fun x74 G9 H locs hq hB => ?_)
            obtain ⟨hm, i_x74⟩ := hq
            obtain ⟨G75, hG9⟩ : ∃ g, g = G9 := ⟨_, rfl⟩
            rw [← hG9] at hm hB
            have hM := hM.stp hm (by decide)
            have a_h0 := hm.at a_h0 (by decide)
            have a_b57 := hm.at a_b57 (by decide)
            refine lv_iload_n hx hb dX0_passDay_107 rfl (lv_at hl 2 rfl) ?_
            refine lv_icmp_ge (tgt := 116) hx hb dX0_passDay_108 (by decide) (fun c76 => ?_) (fun c76 => ?_)
            · skip
              have i76_x50 : iv_R 1 999 x50 := (i71_x50.cutHi (n := 999) (iv_le_r c76 i_x74))
              have i77_x74 : iv_R 1 999 x74 := (i_x74.cutLo (n := 1) (iv_le_l c76 i71_x50))
              refine iv_iinc hx hb i42_x1 (lo := 1) (hi := 10) (by decide) dX0_passDay_116 hl (k := 3) rfl (by decide) (fun x79 ls e_x79 i_x79 hl => ?_)
              have hl : lv_has ls 5 [(1, .int x79), (4, .ref b57), (3, .int x53), (2, .int x50), (0, .ref h0)] := hl
              refine lv_goto (tgt := 2) hx hb dX0_passDay_119 (by decide) ?_
              exact ih_2 G75 hM _ _ hB a_h0 x79 (i_x79.wk (by decide)) (iv_mup (c := 1) i_x1 (by decide) (by decide) (by omega) hn_2) _ (lv_sub hl [0, 4] rfl)
            · skip
              refine lv_aload_n hx hb dX0_passDay_111 rfl (lv_at hl 4 rfl) ?_
              refine lv_iload_n hx hb dX0_passDay_112 rfl (lv_at hl 3 rfl) ?_
              refine iv_cVv X k_good k_mf_X0_bringChildren k_im_X0_bringChildren k_sel_X0_bringChildren k_ml_X0_58 ft_X0 hB a_h0 sh_0 (As := [.int x1]) (c_X0_bringChildren l D tys base G75 h0 g_h0 r_h0 a_h0 x1 i42_x1) ⟨rfl, rfl⟩ ⟨Nat.le_of_ble_eq_true rfl, Nat.le_of_ble_eq_true rfl⟩ ⟨Nat.le_of_ble_eq_true rfl, Nat.le_of_ble_eq_true rfl⟩ rfl rfl hl.1 (Nat.le_of_ble_eq_true rfl) dX0_passDay_113 (fun G9 H locs hq hB => ?_)
              have hm := hq
              obtain ⟨G80, hG9⟩ : ∃ g, g = G9 := ⟨_, rfl⟩
              rw [← hG9] at hm hB
              have hM := hM.stp hm (by decide)
              have a_h0 := hm.at a_h0 (by decide)
              obtain ⟨g81, r82, a_b57, f_g81⟩ := hm.ex a_b57
              refine iv_iinc hx hb i42_x1 (lo := 1) (hi := 10) (by decide) dX0_passDay_116 hl (k := 3) rfl (by decide) (fun x83 ls e_x83 i_x83 hl => ?_)
              have hl : lv_has ls 5 [(1, .int x83), (4, .ref b57), (3, .int x53), (2, .int x50), (0, .ref h0)] := hl
              refine lv_goto (tgt := 2) hx hb dX0_passDay_119 (by decide) ?_
              exact ih_2 G80 hM _ _ hB a_h0 x83 (i_x83.wk (by decide)) (iv_mup (c := 1) i_x1 (by decide) (by decide) (by omega) hn_2) _ (lv_sub hl [0, 4] rfl)
  exact L_2 _ G hM _ _ hB a_h0 0 (q_0.wk (by decide)) (Nat.lt_succ_self _) _ (lv_sub hl [0, 1] rfl)
theorem dX5_bellsWithLineAt_0 : decode cX5_bellsWithLineAt 0 = .ok (.iconst 0, 1) := by decide +kernel
theorem dX5_bellsWithLineAt_1 : decode cX5_bellsWithLineAt 1 = .ok (.istore_n 2, 1) := by decide +kernel
theorem dX5_bellsWithLineAt_2 : decode cX5_bellsWithLineAt 2 = .ok (.iconst 0, 1) := by decide +kernel
theorem dX5_bellsWithLineAt_3 : decode cX5_bellsWithLineAt 3 = .ok (.istore_n 3, 1) := by decide +kernel
theorem dX5_bellsWithLineAt_4 : decode cX5_bellsWithLineAt 4 = .ok (.iload_n 3, 1) := by decide +kernel
theorem dX5_bellsWithLineAt_5 : decode cX5_bellsWithLineAt 5 = .ok (.aload_n 0, 1) := by decide +kernel
theorem dX5_bellsWithLineAt_6 : decode cX5_bellsWithLineAt 6 = .ok (.getfield 61, 3) := by decide +kernel
theorem dX5_bellsWithLineAt_9 : decode cX5_bellsWithLineAt 9 = .ok (.if_icmp .ge 24, 3) := by decide +kernel
theorem dX5_bellsWithLineAt_12 : decode cX5_bellsWithLineAt 12 = .ok (.iload_n 2, 1) := by decide +kernel
theorem dX5_bellsWithLineAt_13 : decode cX5_bellsWithLineAt 13 = .ok (.aload_n 0, 1) := by decide +kernel
theorem dX5_bellsWithLineAt_14 : decode cX5_bellsWithLineAt 14 = .ok (.getfield 40, 3) := by decide +kernel
theorem dX5_bellsWithLineAt_17 : decode cX5_bellsWithLineAt 17 = .ok (.iload_n 3, 1) := by decide +kernel
theorem dX5_bellsWithLineAt_18 : decode cX5_bellsWithLineAt 18 = .ok (.iaload, 1) := by decide +kernel
theorem dX5_bellsWithLineAt_19 : decode cX5_bellsWithLineAt 19 = .ok (.iload_n 1, 1) := by decide +kernel
theorem dX5_bellsWithLineAt_20 : decode cX5_bellsWithLineAt 20 = .ok (.iushr, 1) := by decide +kernel
theorem dX5_bellsWithLineAt_21 : decode cX5_bellsWithLineAt 21 = .ok (.iconst 1, 1) := by decide +kernel
theorem dX5_bellsWithLineAt_22 : decode cX5_bellsWithLineAt 22 = .ok (.iand, 1) := by decide +kernel
theorem dX5_bellsWithLineAt_23 : decode cX5_bellsWithLineAt 23 = .ok (.iload_n 3, 1) := by decide +kernel
theorem dX5_bellsWithLineAt_24 : decode cX5_bellsWithLineAt 24 = .ok (.ishl, 1) := by decide +kernel
theorem dX5_bellsWithLineAt_25 : decode cX5_bellsWithLineAt 25 = .ok (.ior, 1) := by decide +kernel
theorem dX5_bellsWithLineAt_26 : decode cX5_bellsWithLineAt 26 = .ok (.istore_n 2, 1) := by decide +kernel
theorem dX5_bellsWithLineAt_27 : decode cX5_bellsWithLineAt 27 = .ok (.iinc 3 1, 3) := by decide +kernel
theorem dX5_bellsWithLineAt_30 : decode cX5_bellsWithLineAt 30 = .ok (.goto (-26), 3) := by decide +kernel
theorem dX5_bellsWithLineAt_33 : decode cX5_bellsWithLineAt 33 = .ok (.iload_n 2, 1) := by decide +kernel
theorem dX5_bellsWithLineAt_34 : decode cX5_bellsWithLineAt 34 = .ok (.ireturn, 1) := by decide +kernel
set_option maxHeartbeats 4000000 in
set_option maxRecDepth 100000 in
theorem c_X5_bellsWithLineAt (l : Launch) (D : va_G) (tys : List (ClassId × FieldType)) (base : Nat) (G : iv_G) (h0 : Nat) (g_h0 : Nat → Int32) (r_h0 : Nat → Nat) (a_h0 : G h0 = some (5, g_h0, r_h0)) (x_0 : Int32) (i_x_0 : iv_R 0 23 x_0) : Met l yX5_bellsWithLineAt (Cond.code yX5_bellsWithLineAt cX5_bellsWithLineAt 4 (some .int) :: iv_W0) ({ frames := 0, cells := 0, slots := 0, locals := 0 }) (iv_Pc iv_sh D classes tys base G [.ref h0, .int x_0]) (iv_Qi iv_sh D classes tys base (fun v G' => G = G' ∧ iv_R (-2147483648) 2147483647 v)) 0 0 (iv_A base) := by
  refine iv_head (by decide) (Nat.le_of_ble_eq_true rfl) ?_
  intro p e s m args below meth c ls X hr hlocks hname hB hl
  have X := X
  have hx := X.1.1
  have hb := X.1.2.1
  have hl : lv_has ls 4 [(0, .ref h0), (1, .int x_0)] := hl
  refine lv_iconst (v := 0) hx hb dX5_bellsWithLineAt_0 (by decide) ?_
  refine lv_istore_n (lv' := [(2, .int 0), (0, .ref h0), (1, .int x_0)]) hx hb dX5_bellsWithLineAt_1 rfl hl (by decide) rfl (fun ls hl => ?_)
  refine lv_iconst (v := 0) hx hb dX5_bellsWithLineAt_2 (by decide) ?_
  refine lv_istore_n (lv' := [(3, .int 0), (2, .int 0), (0, .ref h0), (1, .int x_0)]) hx hb dX5_bellsWithLineAt_3 rfl hl (by decide) rfl (fun ls hl => ?_)
  have L_4 : ∀ (n_4 : Nat) (H : Heap) (locs : List Loc) (hB : iv_B iv_sh D classes tys base G s.heap H locs) (x1 : Int32) (i_x1 : iv_R (-2147483648) 2147483647 x1) (x2 : Int32) (i_x2 : iv_R 0 10 x2) (hn_4 : (11 - x2.toInt).toNat < n_4) (ls : Array Slot) (hl : lv_has ls 4 [(3, .int x2), (2, .int x1), (0, .ref h0), (1, .int x_0)]), W p l e ({ frames := 0, cells := 0, slots := 0, locals := 0 } : Room) s m args below meth c H locs 0 0 (MQ below (iv_Qi iv_sh D classes tys base (fun v G' => G = G' ∧ iv_R (-2147483648) 2147483647 v)) args s 0 0 (iv_A base)) (F0 m 4 ls []) := by
    intro n_4
    induction n_4 with
    | zero => intro H locs hB x1 i_x1 x2 i_x2 hn_4 ls hl; exact absurd hn_4 (Nat.not_lt_zero _)
    | succ n_4 ih_4 =>
      intro H locs hB x1 i_x1 x2 i_x2 hn_4 ls hl
      refine lv_iload_n hx hb dX5_bellsWithLineAt_4 rfl (lv_at hl 0 rfl) ?_
      refine lv_aload_n hx hb dX5_bellsWithLineAt_5 rfl (lv_at hl 2 rfl) ?_
      refine iv_geti X ft_X5 hB a_h0 sh_5 1 (by decide) rfl k_fl_X5_61 dX5_bellsWithLineAt_6 (fun x3 e_x3 i_x3 => ?_)
      refine lv_icmp_ge (tgt := 33) hx hb dX5_bellsWithLineAt_9 (by decide) (fun c4 => ?_) (fun c4 => ?_)
      · skip
        refine lv_iload_n hx hb dX5_bellsWithLineAt_33 rfl (lv_at hl 1 rfl) ?_
        exact iv_iret X hr hlocks hB ⟨rfl, i_x1⟩ dX5_bellsWithLineAt_34
      · skip
        have i4_x2 : iv_R 0 9 x2 := (i_x2.cutHi (n := 9) (iv_lt_r (iv_nle c4) i_x3 (by decide)))
        have i5_x3 : iv_R 1 10 x3 := (i_x3.cutLo (n := 1) (iv_lt_l (iv_nle c4) i_x2 (by decide)))
        refine lv_iload_n hx hb dX5_bellsWithLineAt_12 rfl (lv_at hl 1 rfl) ?_
        refine lv_aload_n hx hb dX5_bellsWithLineAt_13 rfl (lv_at hl 2 rfl) ?_
        refine iv_getr X ft_X5 hB a_h0 sh_5 11 (by decide) rfl k_fl_X5_40 dX5_bellsWithLineAt_14 (fun b7 g_b7 r_b7 e_b7 a_b7 => ?_)
        refine lv_iload_n hx hb dX5_bellsWithLineAt_17 rfl (lv_at hl 0 rfl) ?_
        refine iv_ald X hB a_b7 sh_21 (iv_in i4_x2 (by decide)) dX5_bellsWithLineAt_18 (fun x8 e_x8 i_x8 => ?_)
        refine lv_iload_n hx hb dX5_bellsWithLineAt_19 rfl (lv_at hl 3 rfl) ?_
        refine lv_iushr hx hb dX5_bellsWithLineAt_20 rfl ?_
        refine lv_topi (fun x9 e_x9 => ?_)
        have i_x9 := iv_R.all x9
        refine lv_iconst (v := 1) hx hb dX5_bellsWithLineAt_21 (by decide) ?_
        refine iv_iand_r hx hb q_1 (by decide) dX5_bellsWithLineAt_22 (fun x10 e_x10 i_x10 => ?_)
        refine lv_iload_n hx hb dX5_bellsWithLineAt_23 rfl (lv_at hl 0 rfl) ?_
        refine lv_ishl hx hb dX5_bellsWithLineAt_24 ?_
        refine lv_topi (fun x11 e_x11 => ?_)
        have i_x11 := iv_R.all x11
        refine lv_ior hx hb dX5_bellsWithLineAt_25 ?_
        refine lv_topi (fun x12 e_x12 => ?_)
        have i_x12 := iv_R.all x12
        refine lv_istore_n (lv' := [(2, .int x12), (3, .int x2), (0, .ref h0), (1, .int x_0)]) hx hb dX5_bellsWithLineAt_26 rfl hl (by decide) rfl (fun ls hl => ?_)
        refine iv_iinc hx hb i4_x2 (lo := 1) (hi := 10) (by decide) dX5_bellsWithLineAt_27 hl (k := 1) rfl (by decide) (fun x13 ls e_x13 i_x13 hl => ?_)
        have hl : lv_has ls 4 [(3, .int x13), (2, .int x12), (0, .ref h0), (1, .int x_0)] := hl
        refine lv_goto (tgt := 4) hx hb dX5_bellsWithLineAt_30 (by decide) ?_
        exact ih_4 _ _ hB x12 i_x12 x13 (i_x13.wk (by decide)) (iv_mup (c := 1) i_x2 (by decide) (by decide) (by omega) hn_4) _ (lv_sub hl [0, 1, 2, 3] rfl)
  exact L_4 _ _ _ hB 0 (q_0.wk (by decide)) 0 (q_0.wk (by decide)) (Nat.lt_succ_self _) _ (lv_sub hl [0, 1, 2, 3] rfl)
set_option maxHeartbeats 4000000 in
set_option maxRecDepth 100000 in
theorem c_X8_has_14 (l : Launch) (D : va_G) (tys : List (ClassId × FieldType)) (base : Nat) (G : iv_G) (h0 : Nat) (g_h0 : Nat → Int32) (r_h0 : Nat → Nat) (a_h0 : G h0 = some (14, g_h0, r_h0)) (x_0 : Int32) (i_x_0 : iv_R 0 11 x_0) : Met l yX8_has (Cond.code yX8_has cX8_has 2 (some .boolean) :: iv_W0) ({ frames := 0, cells := 0, slots := 0, locals := 0 }) (iv_Pc iv_sh D classes tys base G [.ref h0, .int x_0]) (iv_Qi iv_sh D classes tys base (fun v G' => G = G' ∧ iv_R 0 1 v)) 0 0 (iv_A base) := by
  refine iv_head (by decide) (Nat.le_of_ble_eq_true rfl) ?_
  intro p e s m args below meth c ls X hr hlocks hname hB hl
  have X := X
  have hx := X.1.1
  have hb := X.1.2.1
  have hl : lv_has ls 2 [(0, .ref h0), (1, .int x_0)] := hl
  refine lv_iload_n hx hb dX8_has_0 rfl (lv_at hl 1 rfl) ?_
  refine lv_if_lt (tgt := 16) hx hb dX8_has_1 (by decide) (fun c1 => ?_) (fun c1 => ?_)
  · skip
    exact (i_x_0.cutHi (n := (-1)) (iv_lt_r c1 q_0 (by decide))).no (by decide)
  · skip
    refine lv_iload_n hx hb dX8_has_4 rfl (lv_at hl 1 rfl) ?_
    refine lv_aload_n hx hb dX8_has_5 rfl (lv_at hl 0 rfl) ?_
    refine iv_geti X ft_X8 hB a_h0 sh_14 2 (by decide) rfl k_fl_X8_19 dX8_has_6 (fun x2 e_x2 i_x2 => ?_)
    refine lv_icmp_ge (tgt := 16) hx hb dX8_has_9 (by decide) (fun c3 => ?_) (fun c3 => ?_)
    · skip
      have i3_x2 : iv_R 0 11 x2 := (i_x2.cutHi (n := 11) (iv_le_r c3 i_x_0))
      refine lv_iconst (v := 0) hx hb dX8_has_16 (by decide) ?_
      exact iv_zret X hr hlocks hB (q_0.wk (by decide)) ⟨rfl, (q_0.wk (by decide))⟩ dX8_has_17
    · skip
      have i4_x2 : iv_R 1 12 x2 := (i_x2.cutLo (n := 1) (iv_lt_l (iv_nle c3) i_x_0 (by decide)))
      refine lv_iconst (v := 1) hx hb dX8_has_12 (by decide) ?_
      refine lv_goto (tgt := 17) hx hb dX8_has_13 (by decide) ?_
      exact iv_zret X hr hlocks hB (q_1.wk (by decide)) ⟨rfl, (q_1.wk (by decide))⟩ dX8_has_17
theorem dX8_at_0 : decode cX8_at 0 = .ok (.aload_n 0, 1) := by decide +kernel
theorem dX8_at_1 : decode cX8_at 1 = .ok (.iload_n 1, 1) := by decide +kernel
theorem dX8_at_2 : decode cX8_at 2 = .ok (.invokevirtual 22, 3) := by decide +kernel
theorem dX8_at_5 : decode cX8_at 5 = .ok (.ifCond .eq 33, 3) := by decide +kernel
theorem dX8_at_8 : decode cX8_at 8 = .ok (.iload_n 2, 1) := by decide +kernel
theorem dX8_at_9 : decode cX8_at 9 = .ok (.iconst 0, 1) := by decide +kernel
theorem dX8_at_10 : decode cX8_at 10 = .ok (.aload_n 0, 1) := by decide +kernel
theorem dX8_at_11 : decode cX8_at 11 = .ok (.getfield 9, 3) := by decide +kernel
theorem dX8_at_14 : decode cX8_at 14 = .ok (.iconst 1, 1) := by decide +kernel
theorem dX8_at_15 : decode cX8_at 15 = .ok (.isub, 1) := by decide +kernel
theorem dX8_at_16 : decode cX8_at 16 = .ok (.invokestatic 26, 3) := by decide +kernel
theorem dX8_at_19 : decode cX8_at 19 = .ok (.ifCond .eq 19, 3) := by decide +kernel
theorem dX8_at_22 : decode cX8_at 22 = .ok (.aload_n 0, 1) := by decide +kernel
theorem dX8_at_23 : decode cX8_at 23 = .ok (.getfield 15, 3) := by decide +kernel
theorem dX8_at_26 : decode cX8_at 26 = .ok (.iload_n 1, 1) := by decide +kernel
theorem dX8_at_27 : decode cX8_at 27 = .ok (.aload_n 0, 1) := by decide +kernel
theorem dX8_at_28 : decode cX8_at 28 = .ok (.getfield 9, 3) := by decide +kernel
theorem dX8_at_31 : decode cX8_at 31 = .ok (.imul, 1) := by decide +kernel
theorem dX8_at_32 : decode cX8_at 32 = .ok (.iload_n 2, 1) := by decide +kernel
theorem dX8_at_33 : decode cX8_at 33 = .ok (.iadd, 1) := by decide +kernel
theorem dX8_at_34 : decode cX8_at 34 = .ok (.iaload, 1) := by decide +kernel
theorem dX8_at_35 : decode cX8_at 35 = .ok (.goto 4, 3) := by decide +kernel
theorem dX8_at_38 : decode cX8_at 38 = .ok (.iconst (-1), 1) := by decide +kernel
theorem dX8_at_39 : decode cX8_at 39 = .ok (.ireturn, 1) := by decide +kernel
set_option maxHeartbeats 4000000 in
set_option maxRecDepth 100000 in
theorem c_X8_at_14 (l : Launch) (D : va_G) (tys : List (ClassId × FieldType)) (base : Nat) (G : iv_G) (h0 : Nat) (g_h0 : Nat → Int32) (r_h0 : Nat → Nat) (a_h0 : G h0 = some (14, g_h0, r_h0)) (x_0 : Int32) (i_x_0 : iv_R 0 11 x_0) (x_1 : Int32) (i_x_1 : iv_R 0 2 x_1) : Met l yX8_at (Cond.code yX8_at cX8_at 3 (some .int) :: iv_W0) ({ frames := 1, cells := 0, slots := 0, locals := 22 }) (iv_Pc iv_sh D classes tys base G [.ref h0, .int x_0, .int x_1]) (iv_Qi iv_sh D classes tys base (fun v G' => G = G' ∧ iv_R (-2147483648) 2147483647 v)) 0 0 (iv_A base) := by
  refine iv_head (by decide) (Nat.le_of_ble_eq_true rfl) ?_
  intro p e s m args below meth c ls X hr hlocks hname hB hl
  have X := X
  have hx := X.1.1
  have hb := X.1.2.1
  have hl : lv_has ls 3 [(0, .ref h0), (1, .int x_0), (2, .int x_1)] := hl
  refine lv_aload_n hx hb dX8_at_0 rfl (lv_at hl 0 rfl) ?_
  refine lv_iload_n hx hb dX8_at_1 rfl (lv_at hl 1 rfl) ?_
  refine iv_cVi X k_good k_mf_X8_has k_im_X8_has k_sel_X8_has k_ml_X8_22 ft_X8 hB a_h0 sh_14 (As := [.int x_0]) (c_X8_has_14 l D tys base G h0 g_h0 r_h0 a_h0 x_0 i_x_0) ⟨rfl, rfl⟩ ⟨Nat.le_of_ble_eq_true rfl, Nat.le_of_ble_eq_true rfl⟩ ⟨Nat.le_of_ble_eq_true rfl, Nat.le_of_ble_eq_true rfl⟩ rfl rfl hl.1 (Nat.le_of_ble_eq_true rfl) dX8_at_2 (fun x1 G9 H locs hq hB => ?_)
  obtain ⟨rfl, i_x1⟩ := hq
  refine lv_if_eq (tgt := 38) hx hb dX8_at_5 (by decide) (fun c2 => ?_) (fun c2 => ?_)
  · skip
    have i2_x1 : iv_R 0 0 x1 := (i_x1.cutHi (n := 0) (iv_eq_r c2 q_0).2)
    refine lv_iconst (v := (-1)) hx hb dX8_at_38 (by decide) ?_
    exact iv_iret X hr hlocks hB ⟨rfl, (q_n1.wk (by decide))⟩ dX8_at_39
  · skip
    have i3_x1 : iv_R 1 1 x1 := iv_ne_lo c2 i_x1 q_0 (by decide)
    refine lv_iload_n hx hb dX8_at_8 rfl (lv_at hl 2 rfl) ?_
    refine lv_iconst (v := 0) hx hb dX8_at_9 (by decide) ?_
    refine lv_aload_n hx hb dX8_at_10 rfl (lv_at hl 0 rfl) ?_
    refine iv_geti X ft_X8 hB a_h0 sh_14 0 (by decide) rfl k_fl_X8_9 dX8_at_11 (fun x5 e_x5 i_x5 => ?_)
    refine lv_iconst (v := 1) hx hb dX8_at_14 (by decide) ?_
    refine iv_isub hx hb i_x5 q_1 (lo := 2) (hi := 2) (by decide) dX8_at_15 (fun x6 e_x6 i_x6 => ?_)
    refine iv_cSNi X k_good k_mf_X11_isWithin k_st_X11_isWithin (k_mn_X8_26 X.2.2) hB (As := [.int x_1, .int 0, .int x6]) (c_X11_isWithin l D tys base G x_1 (i_x_1.wk (by decide)) 0 (q_0.wk (by decide)) x6 (i_x6.wk (by decide))) ⟨rfl, rfl⟩ ⟨Nat.le_of_ble_eq_true rfl, Nat.le_of_ble_eq_true rfl⟩ ⟨Nat.le_of_ble_eq_true rfl, Nat.le_of_ble_eq_true rfl⟩ rfl rfl hl.1 (Nat.le_of_ble_eq_true rfl) dX8_at_16 (fun x7 G9 H locs hq hB => ?_)
    obtain ⟨rfl, i_x7, hp8⟩ := hq
    have k9 : ¬ x7 = 0 → iv_R 0 2 x_1 := fun h => ⟨iv_max i_x_1.1 (Int.le_trans q_0.1 (hp8.1 h).1) (by decide), iv_min i_x_1.2 (Int.le_trans (hp8.1 h).2 i_x6.2) (by decide)⟩
    refine lv_if_eq (tgt := 38) hx hb dX8_at_19 (by decide) (fun c10 => ?_) (fun c10 => ?_)
    · skip
      have i10_x7 : iv_R 0 0 x7 := (i_x7.cutHi (n := 0) (iv_eq_r c10 q_0).2)
      refine lv_iconst (v := (-1)) hx hb dX8_at_38 (by decide) ?_
      exact iv_iret X hr hlocks hB ⟨rfl, (q_n1.wk (by decide))⟩ dX8_at_39
    · skip
      have i11_x7 : iv_R 1 1 x7 := iv_ne_lo c10 i_x7 q_0 (by decide)
      refine lv_aload_n hx hb dX8_at_22 rfl (lv_at hl 0 rfl) ?_
      refine iv_getr X ft_X8 hB a_h0 sh_14 1 (by decide) rfl k_fl_X8_15 dX8_at_23 (fun b13 g_b13 r_b13 e_b13 a_b13 => ?_)
      refine lv_iload_n hx hb dX8_at_26 rfl (lv_at hl 1 rfl) ?_
      refine lv_aload_n hx hb dX8_at_27 rfl (lv_at hl 0 rfl) ?_
      refine iv_geti0 X ft_X8 hB a_h0 sh_14 0 (by decide) rfl k_fl_X8_9 dX8_at_28 e_x5 ?_
      refine iv_imul hx hb i_x_0 i_x5 (lo := 0) (hi := 33) (by decide) dX8_at_31 (fun x14 e_x14 i_x14 => ?_)
      refine lv_iload_n hx hb dX8_at_32 rfl (lv_at hl 2 rfl) ?_
      refine iv_iadd hx hb i_x14 i_x_1 (lo := 0) (hi := 35) (by decide) dX8_at_33 (fun x15 e_x15 i_x15 => ?_)
      refine iv_ald X hB a_b13 sh_24 (iv_in i_x15 (by decide)) dX8_at_34 (fun x16 e_x16 i_x16 => ?_)
      refine lv_goto (tgt := 39) hx hb dX8_at_35 (by decide) ?_
      exact iv_iret X hr hlocks hB ⟨rfl, i_x16⟩ dX8_at_39
theorem dX9_doesFit_0 : decode cX9_doesFit 0 = .ok (.iconst 0, 1) := by decide +kernel
theorem dX9_doesFit_1 : decode cX9_doesFit 1 = .ok (.istore_n 3, 1) := by decide +kernel
theorem dX9_doesFit_2 : decode cX9_doesFit 2 = .ok (.iload_n 3, 1) := by decide +kernel
theorem dX9_doesFit_3 : decode cX9_doesFit 3 = .ok (.aload_n 0, 1) := by decide +kernel
theorem dX9_doesFit_4 : decode cX9_doesFit 4 = .ok (.getfield 15, 3) := by decide +kernel
theorem dX9_doesFit_7 : decode cX9_doesFit 7 = .ok (.getfield 80, 3) := by decide +kernel
theorem dX9_doesFit_10 : decode cX9_doesFit 10 = .ok (.getfield 84, 3) := by decide +kernel
theorem dX9_doesFit_13 : decode cX9_doesFit 13 = .ok (.if_icmp .ge 94, 3) := by decide +kernel
theorem dX9_doesFit_16 : decode cX9_doesFit 16 = .ok (.aload_n 0, 1) := by decide +kernel
theorem dX9_doesFit_17 : decode cX9_doesFit 17 = .ok (.getfield 15, 3) := by decide +kernel
theorem dX9_doesFit_20 : decode cX9_doesFit 20 = .ok (.getfield 80, 3) := by decide +kernel
theorem dX9_doesFit_23 : decode cX9_doesFit 23 = .ok (.iload_n 3, 1) := by decide +kernel
theorem dX9_doesFit_24 : decode cX9_doesFit 24 = .ok (.iconst 0, 1) := by decide +kernel
theorem dX9_doesFit_25 : decode cX9_doesFit 25 = .ok (.invokevirtual 89, 3) := by decide +kernel
theorem dX9_doesFit_28 : decode cX9_doesFit 28 = .ok (.iload_n 2, 1) := by decide +kernel
theorem dX9_doesFit_29 : decode cX9_doesFit 29 = .ok (.if_icmp .ne 72, 3) := by decide +kernel
theorem dX9_doesFit_32 : decode cX9_doesFit 32 = .ok (.aload_n 0, 1) := by decide +kernel
theorem dX9_doesFit_33 : decode cX9_doesFit 33 = .ok (.getfield 15, 3) := by decide +kernel
theorem dX9_doesFit_36 : decode cX9_doesFit 36 = .ok (.getfield 93, 3) := by decide +kernel
theorem dX9_doesFit_39 : decode cX9_doesFit 39 = .ok (.iload_n 1, 1) := by decide +kernel
theorem dX9_doesFit_40 : decode cX9_doesFit 40 = .ok (.iaload, 1) := by decide +kernel
theorem dX9_doesFit_41 : decode cX9_doesFit 41 = .ok (.aload_n 0, 1) := by decide +kernel
theorem dX9_doesFit_42 : decode cX9_doesFit 42 = .ok (.getfield 15, 3) := by decide +kernel
theorem dX9_doesFit_45 : decode cX9_doesFit 45 = .ok (.getfield 80, 3) := by decide +kernel
theorem dX9_doesFit_48 : decode cX9_doesFit 48 = .ok (.iload_n 3, 1) := by decide +kernel
theorem dX9_doesFit_49 : decode cX9_doesFit 49 = .ok (.iconst 1, 1) := by decide +kernel
theorem dX9_doesFit_50 : decode cX9_doesFit 50 = .ok (.invokevirtual 89, 3) := by decide +kernel
theorem dX9_doesFit_53 : decode cX9_doesFit 53 = .ok (.iushr, 1) := by decide +kernel
theorem dX9_doesFit_54 : decode cX9_doesFit 54 = .ok (.iconst 1, 1) := by decide +kernel
theorem dX9_doesFit_55 : decode cX9_doesFit 55 = .ok (.iand, 1) := by decide +kernel
theorem dX9_doesFit_56 : decode cX9_doesFit 56 = .ok (.iconst 1, 1) := by decide +kernel
theorem dX9_doesFit_57 : decode cX9_doesFit 57 = .ok (.if_icmp .ne 7, 3) := by decide +kernel
theorem dX9_doesFit_60 : decode cX9_doesFit 60 = .ok (.iconst 1, 1) := by decide +kernel
theorem dX9_doesFit_61 : decode cX9_doesFit 61 = .ok (.goto 4, 3) := by decide +kernel
theorem dX9_doesFit_64 : decode cX9_doesFit 64 = .ok (.iconst 0, 1) := by decide +kernel
theorem dX9_doesFit_65 : decode cX9_doesFit 65 = .ok (.istore 4, 2) := by decide +kernel
theorem dX9_doesFit_67 : decode cX9_doesFit 67 = .ok (.iload 4, 2) := by decide +kernel
theorem dX9_doesFit_69 : decode cX9_doesFit 69 = .ok (.ifCond .eq 30, 3) := by decide +kernel
theorem dX9_doesFit_72 : decode cX9_doesFit 72 = .ok (.aload_n 0, 1) := by decide +kernel
theorem dX9_doesFit_73 : decode cX9_doesFit 73 = .ok (.getfield 15, 3) := by decide +kernel
theorem dX9_doesFit_76 : decode cX9_doesFit 76 = .ok (.getfield 45, 3) := by decide +kernel
theorem dX9_doesFit_79 : decode cX9_doesFit 79 = .ok (.iload_n 1, 1) := by decide +kernel
theorem dX9_doesFit_80 : decode cX9_doesFit 80 = .ok (.aaload, 1) := by decide +kernel
theorem dX9_doesFit_81 : decode cX9_doesFit 81 = .ok (.getfield 96, 3) := by decide +kernel
theorem dX9_doesFit_84 : decode cX9_doesFit 84 = .ok (.aload_n 0, 1) := by decide +kernel
theorem dX9_doesFit_85 : decode cX9_doesFit 85 = .ok (.getfield 15, 3) := by decide +kernel
theorem dX9_doesFit_88 : decode cX9_doesFit 88 = .ok (.getfield 80, 3) := by decide +kernel
theorem dX9_doesFit_91 : decode cX9_doesFit 91 = .ok (.iload_n 3, 1) := by decide +kernel
theorem dX9_doesFit_92 : decode cX9_doesFit 92 = .ok (.iconst 2, 1) := by decide +kernel
theorem dX9_doesFit_93 : decode cX9_doesFit 93 = .ok (.invokevirtual 89, 3) := by decide +kernel
theorem dX9_doesFit_96 : decode cX9_doesFit 96 = .ok (.if_icmp .eq 5, 3) := by decide +kernel
theorem dX9_doesFit_99 : decode cX9_doesFit 99 = .ok (.iconst 0, 1) := by decide +kernel
theorem dX9_doesFit_100 : decode cX9_doesFit 100 = .ok (.ireturn, 1) := by decide +kernel
theorem dX9_doesFit_101 : decode cX9_doesFit 101 = .ok (.iinc 3 1, 3) := by decide +kernel
theorem dX9_doesFit_104 : decode cX9_doesFit 104 = .ok (.goto (-102), 3) := by decide +kernel
theorem dX9_doesFit_107 : decode cX9_doesFit 107 = .ok (.iconst 1, 1) := by decide +kernel
theorem dX9_doesFit_108 : decode cX9_doesFit 108 = .ok (.ireturn, 1) := by decide +kernel
set_option maxHeartbeats 4000000 in
set_option maxRecDepth 100000 in
theorem c_X9_doesFit (l : Launch) (D : va_G) (tys : List (ClassId × FieldType)) (base : Nat) (G : iv_G) (h0 : Nat) (g_h0 : Nat → Int32) (r_h0 : Nat → Nat) (a_h0 : G h0 = some (9, g_h0, r_h0)) (x_0 : Int32) (i_x_0 : iv_R 0 9 x_0) (x_1 : Int32) (i_x_1 : iv_R 0 19 x_1) : Met l yX9_doesFit (Cond.code yX9_doesFit cX9_doesFit 5 (some .boolean) :: iv_W0) ({ frames := 2, cells := 0, slots := 0, locals := 44 }) (iv_Pc iv_sh D classes tys base G [.ref h0, .int x_0, .int x_1]) (iv_Qi iv_sh D classes tys base (fun v G' => G = G' ∧ iv_R 0 1 v)) 0 0 (iv_A base) := by
  refine iv_head (by decide) (Nat.le_of_ble_eq_true rfl) ?_
  intro p e s m args below meth c ls X hr hlocks hname hB hl
  have X := X
  have hx := X.1.1
  have hb := X.1.2.1
  have hl : lv_has ls 5 [(0, .ref h0), (1, .int x_0), (2, .int x_1)] := hl
  refine lv_iconst (v := 0) hx hb dX9_doesFit_0 (by decide) ?_
  refine lv_istore_n (lv' := [(3, .int 0), (0, .ref h0), (1, .int x_0), (2, .int x_1)]) hx hb dX9_doesFit_1 rfl hl (by decide) rfl (fun ls hl => ?_)
  have L_2 : ∀ (n_2 : Nat) (H : Heap) (locs : List Loc) (hB : iv_B iv_sh D classes tys base G s.heap H locs) (x1 : Int32) (i_x1 : iv_R 0 12 x1) (hn_2 : (13 - x1.toInt).toNat < n_2) (ls : Array Slot) (hl : lv_has ls 5 [(3, .int x1), (0, .ref h0), (1, .int x_0), (2, .int x_1)]), W p l e ({ frames := 2, cells := 0, slots := 0, locals := 44 } : Room) s m args below meth c H locs 0 0 (MQ below (iv_Qi iv_sh D classes tys base (fun v G' => G = G' ∧ iv_R 0 1 v)) args s 0 0 (iv_A base)) (F0 m 2 ls []) := by
    intro n_2
    induction n_2 with
    | zero => intro H locs hB x1 i_x1 hn_2 ls hl; exact absurd hn_2 (Nat.not_lt_zero _)
    | succ n_2 ih_2 =>
      intro H locs hB x1 i_x1 hn_2 ls hl
      refine lv_iload_n hx hb dX9_doesFit_2 rfl (lv_at hl 0 rfl) ?_
      refine lv_aload_n hx hb dX9_doesFit_3 rfl (lv_at hl 1 rfl) ?_
      refine iv_getr X ft_X9 hB a_h0 sh_9 0 (by decide) rfl k_fl_X9_15 dX9_doesFit_4 (fun b2 g_b2 r_b2 e_b2 a_b2 => ?_)
      refine iv_getr X ft_X5 hB a_b2 sh_5 10 (by decide) rfl k_fl_X9_80 dX9_doesFit_7 (fun b3 g_b3 r_b3 e_b3 a_b3 => ?_)
      refine iv_geti X ft_X8 hB a_b3 sh_14 2 (by decide) rfl k_fl_X9_84 dX9_doesFit_10 (fun x4 e_x4 i_x4 => ?_)
      refine lv_icmp_ge (tgt := 107) hx hb dX9_doesFit_13 (by decide) (fun c5 => ?_) (fun c5 => ?_)
      · skip
        refine lv_iconst (v := 1) hx hb dX9_doesFit_107 (by decide) ?_
        exact iv_zret X hr hlocks hB (q_1.wk (by decide)) ⟨rfl, (q_1.wk (by decide))⟩ dX9_doesFit_108
      · skip
        have i5_x1 : iv_R 0 11 x1 := (i_x1.cutHi (n := 11) (iv_lt_r (iv_nle c5) i_x4 (by decide)))
        have i6_x4 : iv_R 1 12 x4 := (i_x4.cutLo (n := 1) (iv_lt_l (iv_nle c5) i_x1 (by decide)))
        refine lv_aload_n hx hb dX9_doesFit_16 rfl (lv_at hl 1 rfl) ?_
        refine iv_getr0 X ft_X9 hB a_h0 sh_9 0 (by decide) rfl k_fl_X9_15 dX9_doesFit_17 e_b2 ?_
        refine iv_getr0 X ft_X5 hB a_b2 sh_5 10 (by decide) rfl k_fl_X9_80 dX9_doesFit_20 e_b3 ?_
        refine lv_iload_n hx hb dX9_doesFit_23 rfl (lv_at hl 0 rfl) ?_
        refine lv_iconst (v := 0) hx hb dX9_doesFit_24 (by decide) ?_
        refine iv_cVi X k_good k_mf_X8_at k_im_X8_at k_sel_X8_at k_ml_X9_89 ft_X8 hB a_b3 sh_14 (As := [.int x1, .int 0]) (c_X8_at_14 l D tys base G b3 g_b3 r_b3 a_b3 x1 i5_x1 0 (q_0.wk (by decide))) ⟨rfl, rfl⟩ ⟨Nat.le_of_ble_eq_true rfl, Nat.le_of_ble_eq_true rfl⟩ ⟨Nat.le_of_ble_eq_true rfl, Nat.le_of_ble_eq_true rfl⟩ rfl rfl hl.1 (Nat.le_of_ble_eq_true rfl) dX9_doesFit_25 (fun x8 G9 H locs hq hB => ?_)
        obtain ⟨rfl, i_x8⟩ := hq
        refine lv_iload_n hx hb dX9_doesFit_28 rfl (lv_at hl 3 rfl) ?_
        refine lv_icmp_ne (tgt := 101) hx hb dX9_doesFit_29 (by decide) (fun c9 => ?_) (fun c9 => ?_)
        · skip
          refine iv_iinc hx hb i5_x1 (lo := 1) (hi := 12) (by decide) dX9_doesFit_101 hl (k := 0) rfl (by decide) (fun x10 ls e_x10 i_x10 hl => ?_)
          have hl : lv_has ls 5 [(3, .int x10), (0, .ref h0), (1, .int x_0), (2, .int x_1)] := hl
          refine lv_goto (tgt := 2) hx hb dX9_doesFit_104 (by decide) ?_
          exact ih_2 _ _ hB x10 (i_x10.wk (by decide)) (iv_mup (c := 1) i_x1 (by decide) (by decide) (by omega) hn_2) _ (lv_sub hl [0, 1, 2, 3] rfl)
        · skip
          have i10_x8 : iv_R 0 19 x8 := ((i_x8.cutLo (n := 0) (iv_eq_r c9 i_x_1).1).cutHi (n := 19) (iv_eq_r c9 i_x_1).2)
          refine lv_aload_n hx hb dX9_doesFit_32 rfl (lv_at hl 1 rfl) ?_
          refine iv_getr0 X ft_X9 hB a_h0 sh_9 0 (by decide) rfl k_fl_X9_15 dX9_doesFit_33 e_b2 ?_
          refine iv_getr X ft_X5 hB a_b2 sh_5 11 (by decide) rfl k_fl_X9_93 dX9_doesFit_36 (fun b12 g_b12 r_b12 e_b12 a_b12 => ?_)
          refine lv_iload_n hx hb dX9_doesFit_39 rfl (lv_at hl 2 rfl) ?_
          refine iv_ald X hB a_b12 sh_21 (iv_in i_x_0 (by decide)) dX9_doesFit_40 (fun x13 e_x13 i_x13 => ?_)
          refine lv_aload_n hx hb dX9_doesFit_41 rfl (lv_at hl 1 rfl) ?_
          refine iv_getr0 X ft_X9 hB a_h0 sh_9 0 (by decide) rfl k_fl_X9_15 dX9_doesFit_42 e_b2 ?_
          refine iv_getr0 X ft_X5 hB a_b2 sh_5 10 (by decide) rfl k_fl_X9_80 dX9_doesFit_45 e_b3 ?_
          refine lv_iload_n hx hb dX9_doesFit_48 rfl (lv_at hl 0 rfl) ?_
          refine lv_iconst (v := 1) hx hb dX9_doesFit_49 (by decide) ?_
          refine iv_cVi X k_good k_mf_X8_at k_im_X8_at k_sel_X8_at k_ml_X9_89 ft_X8 hB a_b3 sh_14 (As := [.int x1, .int 1]) (c_X8_at_14 l D tys base G b3 g_b3 r_b3 a_b3 x1 i5_x1 1 (q_1.wk (by decide))) ⟨rfl, rfl⟩ ⟨Nat.le_of_ble_eq_true rfl, Nat.le_of_ble_eq_true rfl⟩ ⟨Nat.le_of_ble_eq_true rfl, Nat.le_of_ble_eq_true rfl⟩ rfl rfl hl.1 (Nat.le_of_ble_eq_true rfl) dX9_doesFit_50 (fun x14 G9 H locs hq hB => ?_)
          obtain ⟨rfl, i_x14⟩ := hq
          refine lv_iushr hx hb dX9_doesFit_53 rfl ?_
          refine lv_topi (fun x15 e_x15 => ?_)
          have i_x15 := iv_R.all x15
          refine lv_iconst (v := 1) hx hb dX9_doesFit_54 (by decide) ?_
          refine iv_iand_r hx hb q_1 (by decide) dX9_doesFit_55 (fun x16 e_x16 i_x16 => ?_)
          refine lv_iconst (v := 1) hx hb dX9_doesFit_56 (by decide) ?_
          refine lv_icmp_ne (tgt := 64) hx hb dX9_doesFit_57 (by decide) (fun c17 => ?_) (fun c17 => ?_)
          · skip
            have i17_x16 : iv_R 0 0 x16 := iv_ne_hi c17 i_x16 q_1 (by decide)
            refine lv_iconst (v := 0) hx hb dX9_doesFit_64 (by decide) ?_
            refine lv_istore (lv' := [(4, .int 0), (3, .int x1), (0, .ref h0), (1, .int x_0), (2, .int x_1)]) hx hb dX9_doesFit_65 hl (by decide) rfl (fun ls hl => ?_)
            refine lv_iload hx hb dX9_doesFit_67 (lv_at hl 0 rfl) ?_
            refine lv_if_eq (tgt := 99) hx hb dX9_doesFit_69 (by decide) (fun c19 => ?_) (fun c19 => ?_)
            · skip
              refine lv_iconst (v := 0) hx hb dX9_doesFit_99 (by decide) ?_
              exact iv_zret X hr hlocks hB (q_0.wk (by decide)) ⟨rfl, (q_0.wk (by decide))⟩ dX9_doesFit_100
            · skip
              exact absurd rfl c19
          · skip
            have i19_x16 : iv_R 1 1 x16 := (i_x16.cutLo (n := 1) (iv_eq_r c17 q_1).1)
            refine lv_iconst (v := 1) hx hb dX9_doesFit_60 (by decide) ?_
            refine lv_goto (tgt := 65) hx hb dX9_doesFit_61 (by decide) ?_
            refine lv_istore (lv' := [(4, .int 1), (3, .int x1), (0, .ref h0), (1, .int x_0), (2, .int x_1)]) hx hb dX9_doesFit_65 hl (by decide) rfl (fun ls hl => ?_)
            refine lv_iload hx hb dX9_doesFit_67 (lv_at hl 0 rfl) ?_
            refine lv_if_eq (tgt := 99) hx hb dX9_doesFit_69 (by decide) (fun c21 => ?_) (fun c21 => ?_)
            · skip
              exact (q_1.cutHi (n := 0) (iv_eq_r c21 q_0).2).no (by decide)
            · skip
              refine lv_aload_n hx hb dX9_doesFit_72 rfl (lv_at hl 2 rfl) ?_
              refine iv_getr0 X ft_X9 hB a_h0 sh_9 0 (by decide) rfl k_fl_X9_15 dX9_doesFit_73 e_b2 ?_
              refine iv_getr X ft_X5 hB a_b2 sh_5 0 (by decide) rfl k_fl_X9_45 dX9_doesFit_76 (fun b22 g_b22 r_b22 e_b22 a_b22 => ?_)
              refine lv_iload_n hx hb dX9_doesFit_79 rfl (lv_at hl 3 rfl) ?_
              refine iv_aald X hB a_b22 sh_40 (iv_in i_x_0 (by decide)) dX9_doesFit_80 (fun b23 g_b23 r_b23 e_b23 a_b23 => ?_)
              refine iv_geti X ft_X1 hB a_b23 sh_1 0 (by decide) rfl k_fl_X9_96 dX9_doesFit_81 (fun x24 e_x24 i_x24 => ?_)
              refine lv_aload_n hx hb dX9_doesFit_84 rfl (lv_at hl 2 rfl) ?_
              refine iv_getr0 X ft_X9 hB a_h0 sh_9 0 (by decide) rfl k_fl_X9_15 dX9_doesFit_85 e_b2 ?_
              refine iv_getr0 X ft_X5 hB a_b2 sh_5 10 (by decide) rfl k_fl_X9_80 dX9_doesFit_88 e_b3 ?_
              refine lv_iload_n hx hb dX9_doesFit_91 rfl (lv_at hl 1 rfl) ?_
              refine lv_iconst (v := 2) hx hb dX9_doesFit_92 (by decide) ?_
              refine iv_cVi X k_good k_mf_X8_at k_im_X8_at k_sel_X8_at k_ml_X9_89 ft_X8 hB a_b3 sh_14 (As := [.int x1, .int 2]) (c_X8_at_14 l D tys base G b3 g_b3 r_b3 a_b3 x1 i5_x1 2 (q_2.wk (by decide))) ⟨rfl, rfl⟩ ⟨Nat.le_of_ble_eq_true rfl, Nat.le_of_ble_eq_true rfl⟩ ⟨Nat.le_of_ble_eq_true rfl, Nat.le_of_ble_eq_true rfl⟩ rfl rfl hl.1 (Nat.le_of_ble_eq_true rfl) dX9_doesFit_93 (fun x25 G9 H locs hq hB => ?_)
              obtain ⟨rfl, i_x25⟩ := hq
              refine lv_icmp_eq (tgt := 101) hx hb dX9_doesFit_96 (by decide) (fun c26 => ?_) (fun c26 => ?_)
              · skip
                refine iv_iinc hx hb i5_x1 (lo := 1) (hi := 12) (by decide) dX9_doesFit_101 hl (k := 1) rfl (by decide) (fun x27 ls e_x27 i_x27 hl => ?_)
                have hl : lv_has ls 5 [(3, .int x27), (4, .int 1), (0, .ref h0), (1, .int x_0), (2, .int x_1)] := hl
                refine lv_goto (tgt := 2) hx hb dX9_doesFit_104 (by decide) ?_
                exact ih_2 _ _ hB x27 (i_x27.wk (by decide)) (iv_mup (c := 1) i_x1 (by decide) (by decide) (by omega) hn_2) _ (lv_sub hl [0, 2, 3, 4] rfl)
              · skip
                refine lv_iconst (v := 0) hx hb dX9_doesFit_99 (by decide) ?_
                exact iv_zret X hr hlocks hB (q_0.wk (by decide)) ⟨rfl, (q_0.wk (by decide))⟩ dX9_doesFit_100
  exact L_2 _ _ _ hB 0 (q_0.wk (by decide)) (Nat.lt_succ_self _) _ (lv_sub hl [0, 1, 2, 3] rfl)
theorem dX9_fitting_0 : decode cX9_fitting 0 = .ok (.iconst 0, 1) := by decide +kernel
theorem dX9_fitting_1 : decode cX9_fitting 1 = .ok (.istore_n 2, 1) := by decide +kernel
theorem dX9_fitting_2 : decode cX9_fitting 2 = .ok (.iconst 0, 1) := by decide +kernel
theorem dX9_fitting_3 : decode cX9_fitting 3 = .ok (.istore_n 3, 1) := by decide +kernel
theorem dX9_fitting_4 : decode cX9_fitting 4 = .ok (.iload_n 3, 1) := by decide +kernel
theorem dX9_fitting_5 : decode cX9_fitting 5 = .ok (.aload_n 0, 1) := by decide +kernel
theorem dX9_fitting_6 : decode cX9_fitting 6 = .ok (.getfield 15, 3) := by decide +kernel
theorem dX9_fitting_9 : decode cX9_fitting 9 = .ok (.getfield 19, 3) := by decide +kernel
theorem dX9_fitting_12 : decode cX9_fitting 12 = .ok (.if_icmp .ge 40, 3) := by decide +kernel
theorem dX9_fitting_15 : decode cX9_fitting 15 = .ok (.aload_n 0, 1) := by decide +kernel
theorem dX9_fitting_16 : decode cX9_fitting 16 = .ok (.getfield 15, 3) := by decide +kernel
theorem dX9_fitting_19 : decode cX9_fitting 19 = .ok (.getfield 45, 3) := by decide +kernel
theorem dX9_fitting_22 : decode cX9_fitting 22 = .ok (.iload_n 3, 1) := by decide +kernel
theorem dX9_fitting_23 : decode cX9_fitting 23 = .ok (.aaload, 1) := by decide +kernel
theorem dX9_fitting_24 : decode cX9_fitting 24 = .ok (.getfield 49, 3) := by decide +kernel
theorem dX9_fitting_27 : decode cX9_fitting 27 = .ok (.iconst 2, 1) := by decide +kernel
theorem dX9_fitting_28 : decode cX9_fitting 28 = .ok (.if_icmp .eq 18, 3) := by decide +kernel
theorem dX9_fitting_31 : decode cX9_fitting 31 = .ok (.aload_n 0, 1) := by decide +kernel
theorem dX9_fitting_32 : decode cX9_fitting 32 = .ok (.iload_n 3, 1) := by decide +kernel
theorem dX9_fitting_33 : decode cX9_fitting 33 = .ok (.iload_n 1, 1) := by decide +kernel
theorem dX9_fitting_34 : decode cX9_fitting 34 = .ok (.invokevirtual 77, 3) := by decide +kernel
theorem dX9_fitting_37 : decode cX9_fitting 37 = .ok (.ifCond .eq 9, 3) := by decide +kernel
theorem dX9_fitting_40 : decode cX9_fitting 40 = .ok (.iload_n 2, 1) := by decide +kernel
theorem dX9_fitting_41 : decode cX9_fitting 41 = .ok (.iconst 1, 1) := by decide +kernel
theorem dX9_fitting_42 : decode cX9_fitting 42 = .ok (.iload_n 3, 1) := by decide +kernel
theorem dX9_fitting_43 : decode cX9_fitting 43 = .ok (.ishl, 1) := by decide +kernel
theorem dX9_fitting_44 : decode cX9_fitting 44 = .ok (.ior, 1) := by decide +kernel
theorem dX9_fitting_45 : decode cX9_fitting 45 = .ok (.istore_n 2, 1) := by decide +kernel
theorem dX9_fitting_46 : decode cX9_fitting 46 = .ok (.iinc 3 1, 3) := by decide +kernel
theorem dX9_fitting_49 : decode cX9_fitting 49 = .ok (.goto (-45), 3) := by decide +kernel
theorem dX9_fitting_52 : decode cX9_fitting 52 = .ok (.iload_n 2, 1) := by decide +kernel
theorem dX9_fitting_53 : decode cX9_fitting 53 = .ok (.ireturn, 1) := by decide +kernel
set_option maxHeartbeats 4000000 in
set_option maxRecDepth 100000 in
theorem c_X9_fitting (l : Launch) (D : va_G) (tys : List (ClassId × FieldType)) (base : Nat) (G : iv_G) (h0 : Nat) (g_h0 : Nat → Int32) (r_h0 : Nat → Nat) (a_h0 : G h0 = some (9, g_h0, r_h0)) (x_0 : Int32) (i_x_0 : iv_R 0 19 x_0) : Met l yX9_fitting (Cond.code yX9_fitting cX9_fitting 4 (some .int) :: iv_W0) ({ frames := 3, cells := 0, slots := 0, locals := 68 }) (iv_Pc iv_sh D classes tys base G [.ref h0, .int x_0]) (iv_Qi iv_sh D classes tys base (fun v G' => G = G' ∧ iv_R 0 2047 v)) 0 0 (iv_A base) := by
  refine iv_head (by decide) (Nat.le_of_ble_eq_true rfl) ?_
  intro p e s m args below meth c ls X hr hlocks hname hB hl
  have X := X
  have hx := X.1.1
  have hb := X.1.2.1
  have hl : lv_has ls 4 [(0, .ref h0), (1, .int x_0)] := hl
  refine lv_iconst (v := 0) hx hb dX9_fitting_0 (by decide) ?_
  refine lv_istore_n (lv' := [(2, .int 0), (0, .ref h0), (1, .int x_0)]) hx hb dX9_fitting_1 rfl hl (by decide) rfl (fun ls hl => ?_)
  refine lv_iconst (v := 0) hx hb dX9_fitting_2 (by decide) ?_
  refine lv_istore_n (lv' := [(3, .int 0), (2, .int 0), (0, .ref h0), (1, .int x_0)]) hx hb dX9_fitting_3 rfl hl (by decide) rfl (fun ls hl => ?_)
  have L_4 : ∀ (n_4 : Nat) (H : Heap) (locs : List Loc) (hB : iv_B iv_sh D classes tys base G s.heap H locs) (x1 : Int32) (i_x1 : iv_R 0 2047 x1) (x2 : Int32) (i_x2 : iv_R 0 10 x2) (hn_4 : (11 - x2.toInt).toNat < n_4) (ls : Array Slot) (hl : lv_has ls 4 [(3, .int x2), (2, .int x1), (0, .ref h0), (1, .int x_0)]), W p l e ({ frames := 3, cells := 0, slots := 0, locals := 68 } : Room) s m args below meth c H locs 0 0 (MQ below (iv_Qi iv_sh D classes tys base (fun v G' => G = G' ∧ iv_R 0 2047 v)) args s 0 0 (iv_A base)) (F0 m 4 ls []) := by
    intro n_4
    induction n_4 with
    | zero => intro H locs hB x1 i_x1 x2 i_x2 hn_4 ls hl; exact absurd hn_4 (Nat.not_lt_zero _)
    | succ n_4 ih_4 =>
      intro H locs hB x1 i_x1 x2 i_x2 hn_4 ls hl
      refine lv_iload_n hx hb dX9_fitting_4 rfl (lv_at hl 0 rfl) ?_
      refine lv_aload_n hx hb dX9_fitting_5 rfl (lv_at hl 2 rfl) ?_
      refine iv_getr X ft_X9 hB a_h0 sh_9 0 (by decide) rfl k_fl_X9_15 dX9_fitting_6 (fun b3 g_b3 r_b3 e_b3 a_b3 => ?_)
      refine iv_geti X ft_X5 hB a_b3 sh_5 1 (by decide) rfl k_fl_X9_19 dX9_fitting_9 (fun x4 e_x4 i_x4 => ?_)
      refine lv_icmp_ge (tgt := 52) hx hb dX9_fitting_12 (by decide) (fun c5 => ?_) (fun c5 => ?_)
      · skip
        refine lv_iload_n hx hb dX9_fitting_52 rfl (lv_at hl 1 rfl) ?_
        exact iv_iret X hr hlocks hB ⟨rfl, i_x1⟩ dX9_fitting_53
      · skip
        have i5_x2 : iv_R 0 9 x2 := (i_x2.cutHi (n := 9) (iv_lt_r (iv_nle c5) i_x4 (by decide)))
        have i6_x4 : iv_R 1 10 x4 := (i_x4.cutLo (n := 1) (iv_lt_l (iv_nle c5) i_x2 (by decide)))
        refine lv_aload_n hx hb dX9_fitting_15 rfl (lv_at hl 2 rfl) ?_
        refine iv_getr0 X ft_X9 hB a_h0 sh_9 0 (by decide) rfl k_fl_X9_15 dX9_fitting_16 e_b3 ?_
        refine iv_getr X ft_X5 hB a_b3 sh_5 0 (by decide) rfl k_fl_X9_45 dX9_fitting_19 (fun b8 g_b8 r_b8 e_b8 a_b8 => ?_)
        refine lv_iload_n hx hb dX9_fitting_22 rfl (lv_at hl 0 rfl) ?_
        refine iv_aald X hB a_b8 sh_40 (iv_in i5_x2 (by decide)) dX9_fitting_23 (fun b9 g_b9 r_b9 e_b9 a_b9 => ?_)
        refine iv_geti X ft_X1 hB a_b9 sh_1 6 (by decide) rfl k_fl_X9_49 dX9_fitting_24 (fun x10 e_x10 i_x10 => ?_)
        refine lv_iconst (v := 2) hx hb dX9_fitting_27 (by decide) ?_
        refine lv_icmp_eq (tgt := 46) hx hb dX9_fitting_28 (by decide) (fun c11 => ?_) (fun c11 => ?_)
        · skip
          have i11_x10 : iv_R 2 2 x10 := ((i_x10.cutLo (n := 2) (iv_eq_r c11 q_2).1).cutHi (n := 2) (iv_eq_r c11 q_2).2)
          refine iv_iinc hx hb i5_x2 (lo := 1) (hi := 10) (by decide) dX9_fitting_46 hl (k := 0) rfl (by decide) (fun x13 ls e_x13 i_x13 hl => ?_)
          have hl : lv_has ls 4 [(3, .int x13), (2, .int x1), (0, .ref h0), (1, .int x_0)] := hl
          refine lv_goto (tgt := 4) hx hb dX9_fitting_49 (by decide) ?_
          exact ih_4 _ _ hB x1 i_x1 x13 (i_x13.wk (by decide)) (iv_mup (c := 1) i_x2 (by decide) (by decide) (by omega) hn_4) _ (lv_sub hl [0, 1, 2, 3] rfl)
        · skip
          refine lv_aload_n hx hb dX9_fitting_31 rfl (lv_at hl 2 rfl) ?_
          refine lv_iload_n hx hb dX9_fitting_32 rfl (lv_at hl 0 rfl) ?_
          refine lv_iload_n hx hb dX9_fitting_33 rfl (lv_at hl 3 rfl) ?_
          refine iv_cVi X k_good k_mf_X9_doesFit k_im_X9_doesFit k_sel_X9_doesFit k_ml_X9_77 ft_X9 hB a_h0 sh_9 (As := [.int x2, .int x_0]) (c_X9_doesFit l D tys base G h0 g_h0 r_h0 a_h0 x2 i5_x2 x_0 i_x_0) ⟨rfl, rfl⟩ ⟨Nat.le_of_ble_eq_true rfl, Nat.le_of_ble_eq_true rfl⟩ ⟨Nat.le_of_ble_eq_true rfl, Nat.le_of_ble_eq_true rfl⟩ rfl rfl hl.1 (Nat.le_of_ble_eq_true rfl) dX9_fitting_34 (fun x14 G9 H locs hq hB => ?_)
          obtain ⟨rfl, i_x14⟩ := hq
          refine lv_if_eq (tgt := 46) hx hb dX9_fitting_37 (by decide) (fun c15 => ?_) (fun c15 => ?_)
          · skip
            have i15_x14 : iv_R 0 0 x14 := (i_x14.cutHi (n := 0) (iv_eq_r c15 q_0).2)
            refine iv_iinc hx hb i5_x2 (lo := 1) (hi := 10) (by decide) dX9_fitting_46 hl (k := 0) rfl (by decide) (fun x17 ls e_x17 i_x17 hl => ?_)
            have hl : lv_has ls 4 [(3, .int x17), (2, .int x1), (0, .ref h0), (1, .int x_0)] := hl
            refine lv_goto (tgt := 4) hx hb dX9_fitting_49 (by decide) ?_
            exact ih_4 _ _ hB x1 i_x1 x17 (i_x17.wk (by decide)) (iv_mup (c := 1) i_x2 (by decide) (by decide) (by omega) hn_4) _ (lv_sub hl [0, 1, 2, 3] rfl)
          · skip
            have i17_x14 : iv_R 1 1 x14 := iv_ne_lo c15 i_x14 q_0 (by decide)
            refine lv_iload_n hx hb dX9_fitting_40 rfl (lv_at hl 1 rfl) ?_
            refine lv_iconst (v := 1) hx hb dX9_fitting_41 (by decide) ?_
            refine lv_iload_n hx hb dX9_fitting_42 rfl (lv_at hl 0 rfl) ?_
            refine iv_shl1 hx hb i5_x2 (lo := 1) (hi := 512) (by decide) dX9_fitting_43 (fun x19 e_x19 i_x19 => ?_)
            refine iv_ior hx hb i_x1 i_x19 (k := 11) (hi := 2047) (by decide) dX9_fitting_44 (fun x20 e_x20 i_x20 => ?_)
            refine lv_istore_n (lv' := [(2, .int x20), (3, .int x2), (0, .ref h0), (1, .int x_0)]) hx hb dX9_fitting_45 rfl hl (by decide) rfl (fun ls hl => ?_)
            refine iv_iinc hx hb i5_x2 (lo := 1) (hi := 10) (by decide) dX9_fitting_46 hl (k := 1) rfl (by decide) (fun x21 ls e_x21 i_x21 hl => ?_)
            have hl : lv_has ls 4 [(3, .int x21), (2, .int x20), (0, .ref h0), (1, .int x_0)] := hl
            refine lv_goto (tgt := 4) hx hb dX9_fitting_49 (by decide) ?_
            exact ih_4 _ _ hB x20 i_x20 x21 (i_x21.wk (by decide)) (iv_mup (c := 1) i_x2 (by decide) (by decide) (by omega) hn_4) _ (lv_sub hl [0, 1, 2, 3] rfl)
  exact L_4 _ _ _ hB 0 (q_0.wk (by decide)) 0 (q_0.wk (by decide)) (Nat.lt_succ_self _) _ (lv_sub hl [0, 1, 2, 3] rfl)
theorem dX11_ask_0 : decode cX11_ask 0 = .ok (.aload_n 0, 1) := by decide +kernel
theorem dX11_ask_1 : decode cX11_ask 1 = .ok (.getfield 12, 3) := by decide +kernel
theorem dX11_ask_4 : decode cX11_ask 4 = .ok (.getfield 152, 3) := by decide +kernel
theorem dX11_ask_7 : decode cX11_ask 7 = .ok (.iload_n 1, 1) := by decide +kernel
theorem dX11_ask_8 : decode cX11_ask 8 = .ok (.invokevirtual 155, 3) := by decide +kernel
theorem dX11_ask_11 : decode cX11_ask 11 = .ok (.ifCond .ne 5, 3) := by decide +kernel
theorem dX11_ask_14 : decode cX11_ask 14 = .ok (.iconst (-1), 1) := by decide +kernel
theorem dX11_ask_15 : decode cX11_ask 15 = .ok (.ireturn, 1) := by decide +kernel
theorem dX11_ask_16 : decode cX11_ask 16 = .ok (.aload_n 0, 1) := by decide +kernel
theorem dX11_ask_17 : decode cX11_ask 17 = .ok (.getfield 58, 3) := by decide +kernel
theorem dX11_ask_20 : decode cX11_ask 20 = .ok (.iload_n 1, 1) := by decide +kernel
theorem dX11_ask_21 : decode cX11_ask 21 = .ok (.invokevirtual 356, 3) := by decide +kernel
theorem dX11_ask_24 : decode cX11_ask 24 = .ok (.istore_n 2, 1) := by decide +kernel
theorem dX11_ask_25 : decode cX11_ask 25 = .ok (.iload_n 2, 1) := by decide +kernel
theorem dX11_ask_26 : decode cX11_ask 26 = .ok (.invokestatic 288, 3) := by decide +kernel
theorem dX11_ask_29 : decode cX11_ask 29 = .ok (.iconst 2, 1) := by decide +kernel
theorem dX11_ask_30 : decode cX11_ask 30 = .ok (.if_icmp .ge 5, 3) := by decide +kernel
theorem dX11_ask_33 : decode cX11_ask 33 = .ok (.iconst (-1), 1) := by decide +kernel
theorem dX11_ask_34 : decode cX11_ask 34 = .ok (.ireturn, 1) := by decide +kernel
theorem dX11_ask_35 : decode cX11_ask 35 = .ok (.iconst (-1), 1) := by decide +kernel
theorem dX11_ask_36 : decode cX11_ask 36 = .ok (.istore_n 3, 1) := by decide +kernel
theorem dX11_ask_37 : decode cX11_ask 37 = .ok (.bipush 11, 2) := by decide +kernel
theorem dX11_ask_39 : decode cX11_ask 39 = .ok (.istore 4, 2) := by decide +kernel
theorem dX11_ask_41 : decode cX11_ask 41 = .ok (.iconst 0, 1) := by decide +kernel
theorem dX11_ask_42 : decode cX11_ask 42 = .ok (.istore 5, 2) := by decide +kernel
theorem dX11_ask_44 : decode cX11_ask 44 = .ok (.iload 5, 2) := by decide +kernel
theorem dX11_ask_46 : decode cX11_ask 46 = .ok (.bipush 24, 2) := by decide +kernel
theorem dX11_ask_48 : decode cX11_ask 48 = .ok (.if_icmp .ge 53, 3) := by decide +kernel
theorem dX11_ask_51 : decode cX11_ask 51 = .ok (.iload_n 2, 1) := by decide +kernel
theorem dX11_ask_52 : decode cX11_ask 52 = .ok (.aload_n 0, 1) := by decide +kernel
theorem dX11_ask_53 : decode cX11_ask 53 = .ok (.getfield 12, 3) := by decide +kernel
theorem dX11_ask_56 : decode cX11_ask 56 = .ok (.iload 5, 2) := by decide +kernel
theorem dX11_ask_58 : decode cX11_ask 58 = .ok (.invokevirtual 359, 3) := by decide +kernel
theorem dX11_ask_61 : decode cX11_ask 61 = .ok (.iand, 1) := by decide +kernel
theorem dX11_ask_62 : decode cX11_ask 62 = .ok (.invokestatic 288, 3) := by decide +kernel
theorem dX11_ask_65 : decode cX11_ask 65 = .ok (.istore 6, 2) := by decide +kernel
theorem dX11_ask_67 : decode cX11_ask 67 = .ok (.iload 6, 2) := by decide +kernel
theorem dX11_ask_69 : decode cX11_ask 69 = .ok (.iload_n 2, 1) := by decide +kernel
theorem dX11_ask_70 : decode cX11_ask 70 = .ok (.invokestatic 288, 3) := by decide +kernel
theorem dX11_ask_73 : decode cX11_ask 73 = .ok (.iload 6, 2) := by decide +kernel
theorem dX11_ask_75 : decode cX11_ask 75 = .ok (.isub, 1) := by decide +kernel
theorem dX11_ask_76 : decode cX11_ask 76 = .ok (.invokestatic 300, 3) := by decide +kernel
theorem dX11_ask_79 : decode cX11_ask 79 = .ok (.istore 7, 2) := by decide +kernel
theorem dX11_ask_81 : decode cX11_ask 81 = .ok (.iload 7, 2) := by decide +kernel
theorem dX11_ask_83 : decode cX11_ask 83 = .ok (.iload 4, 2) := by decide +kernel
theorem dX11_ask_85 : decode cX11_ask 85 = .ok (.if_icmp .ge 10, 3) := by decide +kernel
theorem dX11_ask_88 : decode cX11_ask 88 = .ok (.iload 7, 2) := by decide +kernel
theorem dX11_ask_90 : decode cX11_ask 90 = .ok (.istore 4, 2) := by decide +kernel
theorem dX11_ask_92 : decode cX11_ask 92 = .ok (.iload 5, 2) := by decide +kernel
theorem dX11_ask_94 : decode cX11_ask 94 = .ok (.istore_n 3, 1) := by decide +kernel
theorem dX11_ask_95 : decode cX11_ask 95 = .ok (.iinc 5 1, 3) := by decide +kernel
theorem dX11_ask_98 : decode cX11_ask 98 = .ok (.goto (-54), 3) := by decide +kernel
theorem dX11_ask_101 : decode cX11_ask 101 = .ok (.iload_n 3, 1) := by decide +kernel
theorem dX11_ask_102 : decode cX11_ask 102 = .ok (.ireturn, 1) := by decide +kernel
set_option maxHeartbeats 4000000 in
set_option maxRecDepth 100000 in
theorem c_X11_ask (l : Launch) (D : va_G) (tys : List (ClassId × FieldType)) (base : Nat) (G : iv_G) (h0 : Nat) (g_h0 : Nat → Int32) (r_h0 : Nat → Nat) (a_h0 : G h0 = some (11, g_h0, r_h0)) (x_0 : Int32) (i_x_0 : iv_R (-2147483648) 2147483647 x_0) : Met l yX11_ask (Cond.code yX11_ask cX11_ask 8 (some .int) :: iv_W0) ({ frames := 4, cells := 0, slots := 0, locals := 91 }) (iv_Pc iv_sh D classes tys base G [.ref h0, .int x_0]) (iv_Qi iv_sh D classes tys base (fun v G' => G = G' ∧ iv_R (-1) 23 v)) 0 0 (iv_A base) := by
  refine iv_head (by decide) (Nat.le_of_ble_eq_true rfl) ?_
  intro p e s m args below meth c ls X hr hlocks hname hB hl
  have X := X
  have hx := X.1.1
  have hb := X.1.2.1
  have hl : lv_has ls 8 [(0, .ref h0), (1, .int x_0)] := hl
  refine lv_aload_n hx hb dX11_ask_0 rfl (lv_at hl 0 rfl) ?_
  refine iv_getr X ft_X11 hB a_h0 sh_11 0 (by decide) rfl k_fl_X11_12 dX11_ask_1 (fun b1 g_b1 r_b1 e_b1 a_b1 => ?_)
  refine iv_getr X ft_X5 hB a_b1 sh_5 8 (by decide) rfl k_fl_X11_152 dX11_ask_4 (fun b2 g_b2 r_b2 e_b2 a_b2 => ?_)
  refine lv_iload_n hx hb dX11_ask_7 rfl (lv_at hl 1 rfl) ?_
  refine iv_cVi X k_good k_mf_X8_has k_im_X8_has k_sel_X8_has k_ml_X11_155 ft_X8 hB a_b2 sh_8 (As := [.int x_0]) (c_X8_has_8 l D tys base G b2 g_b2 r_b2 a_b2 x_0 i_x_0) ⟨rfl, rfl⟩ ⟨Nat.le_of_ble_eq_true rfl, Nat.le_of_ble_eq_true rfl⟩ ⟨Nat.le_of_ble_eq_true rfl, Nat.le_of_ble_eq_true rfl⟩ rfl rfl hl.1 (Nat.le_of_ble_eq_true rfl) dX11_ask_8 (fun x3 G9 H locs hq hB => ?_)
  obtain ⟨rfl, i_x3, hp4⟩ := hq
  refine lv_if_ne (tgt := 16) hx hb dX11_ask_11 (by decide) (fun c5 => ?_) (fun c5 => ?_)
  · skip
    have i5_x3 : iv_R 1 1 x3 := iv_ne_lo c5 i_x3 q_0 (by decide)
    have i6_x_0 : iv_R 0 19 x_0 := ((i_x_0.cutLo (n := 0) (hp4 c5).1).cutHi (n := 19) (hp4 c5).2)
    refine lv_aload_n hx hb dX11_ask_16 rfl (lv_at hl 0 rfl) ?_
    refine iv_getr X ft_X11 hB a_h0 sh_11 9 (by decide) rfl k_fl_X11_58 dX11_ask_17 (fun b8 g_b8 r_b8 e_b8 a_b8 => ?_)
    refine lv_iload_n hx hb dX11_ask_20 rfl (lv_at hl 1 rfl) ?_
    refine iv_cVi X k_good k_mf_X9_fitting k_im_X9_fitting k_sel_X9_fitting k_ml_X11_356 ft_X9 hB a_b8 sh_9 (As := [.int x_0]) (c_X9_fitting l D tys base G b8 g_b8 r_b8 a_b8 x_0 i6_x_0) ⟨rfl, rfl⟩ ⟨Nat.le_of_ble_eq_true rfl, Nat.le_of_ble_eq_true rfl⟩ ⟨Nat.le_of_ble_eq_true rfl, Nat.le_of_ble_eq_true rfl⟩ rfl rfl hl.1 (Nat.le_of_ble_eq_true rfl) dX11_ask_21 (fun x9 G9 H locs hq hB => ?_)
    obtain ⟨rfl, i_x9⟩ := hq
    refine lv_istore_n (lv' := [(2, .int x9), (0, .ref h0), (1, .int x_0)]) hx hb dX11_ask_24 rfl hl (by decide) rfl (fun ls hl => ?_)
    refine lv_iload_n hx hb dX11_ask_25 rfl (lv_at hl 0 rfl) ?_
    refine iv_cSi X k_good k_mf_J6_bitCount_0f7a4 k_st_J6_bitCount_0f7a4 k_ml_X11_288 hB (As := [.int x9]) (c_J6_bitCount_0f7a4 l D tys base G x9 (i_x9.wk (by decide))) ⟨rfl, rfl⟩ ⟨Nat.le_of_ble_eq_true rfl, Nat.le_of_ble_eq_true rfl⟩ ⟨Nat.le_of_ble_eq_true rfl, Nat.le_of_ble_eq_true rfl⟩ rfl rfl hl.1 (Nat.le_of_ble_eq_true rfl) dX11_ask_26 (fun x10 G9 H locs hq hB => ?_)
    obtain ⟨rfl, i_x10⟩ := hq
    refine lv_iconst (v := 2) hx hb dX11_ask_29 (by decide) ?_
    refine lv_icmp_ge (tgt := 35) hx hb dX11_ask_30 (by decide) (fun c11 => ?_) (fun c11 => ?_)
    · skip
      have i11_x10 : iv_R 2 63 x10 := (i_x10.cutLo (n := 2) (iv_le_l c11 q_2))
      refine lv_iconst (v := (-1)) hx hb dX11_ask_35 (by decide) ?_
      refine lv_istore_n (lv' := [(3, .int (-1)), (2, .int x9), (0, .ref h0), (1, .int x_0)]) hx hb dX11_ask_36 rfl hl (by decide) rfl (fun ls hl => ?_)
      refine lv_bipush (v := 11) hx hb dX11_ask_37 (by decide) ?_
      refine lv_istore (lv' := [(4, .int 11), (3, .int (-1)), (2, .int x9), (0, .ref h0), (1, .int x_0)]) hx hb dX11_ask_39 hl (by decide) rfl (fun ls hl => ?_)
      refine lv_iconst (v := 0) hx hb dX11_ask_41 (by decide) ?_
      refine lv_istore (lv' := [(5, .int 0), (4, .int 11), (3, .int (-1)), (2, .int x9), (0, .ref h0), (1, .int x_0)]) hx hb dX11_ask_42 hl (by decide) rfl (fun ls hl => ?_)
      have L_44 : ∀ (n_44 : Nat) (H : Heap) (locs : List Loc) (hB : iv_B iv_sh D classes tys base G s.heap H locs) (x13 : Int32) (i_x13 : iv_R (-1) 23 x13) (x14 : Int32) (i_x14 : iv_R 0 11 x14) (x15 : Int32) (i_x15 : iv_R 0 24 x15) (hn_44 : (25 - x15.toInt).toNat < n_44) (ls : Array Slot) (hl : lv_has ls 8 [(5, .int x15), (4, .int x14), (3, .int x13), (2, .int x9), (0, .ref h0)]), W p l e ({ frames := 4, cells := 0, slots := 0, locals := 91 } : Room) s m args below meth c H locs 0 0 (MQ below (iv_Qi iv_sh D classes tys base (fun v G' => G = G' ∧ iv_R (-1) 23 v)) args s 0 0 (iv_A base)) (F0 m 44 ls []) := by
        intro n_44
        induction n_44 with
        | zero => intro H locs hB x13 i_x13 x14 i_x14 x15 i_x15 hn_44 ls hl; exact absurd hn_44 (Nat.not_lt_zero _)
        | succ n_44 ih_44 =>
          intro H locs hB x13 i_x13 x14 i_x14 x15 i_x15 hn_44 ls hl
          refine lv_iload hx hb dX11_ask_44 (lv_at hl 0 rfl) ?_
          refine lv_bipush (v := 24) hx hb dX11_ask_46 (by decide) ?_
          refine lv_icmp_ge (tgt := 101) hx hb dX11_ask_48 (by decide) (fun c16 => ?_) (fun c16 => ?_)
          · skip
            have i16_x15 : iv_R 24 24 x15 := (i_x15.cutLo (n := 24) (iv_le_l c16 q_24))
            refine lv_iload_n hx hb dX11_ask_101 rfl (lv_at hl 2 rfl) ?_
            exact iv_iret X hr hlocks hB ⟨rfl, i_x13⟩ dX11_ask_102
          · skip
            have i17_x15 : iv_R 0 23 x15 := (i_x15.cutHi (n := 23) (iv_lt_r (iv_nle c16) q_24 (by decide)))
            refine lv_iload_n hx hb dX11_ask_51 rfl (lv_at hl 3 rfl) ?_
            refine lv_aload_n hx hb dX11_ask_52 rfl (lv_at hl 4 rfl) ?_
            refine iv_getr0 X ft_X11 hB a_h0 sh_11 0 (by decide) rfl k_fl_X11_12 dX11_ask_53 e_b1 ?_
            refine lv_iload hx hb dX11_ask_56 (lv_at hl 0 rfl) ?_
            refine iv_cVi X k_good k_mf_X5_bellsWithLineAt k_im_X5_bellsWithLineAt k_sel_X5_bellsWithLineAt k_ml_X11_359 ft_X5 hB a_b1 sh_5 (As := [.int x15]) (c_X5_bellsWithLineAt l D tys base G b1 g_b1 r_b1 a_b1 x15 i17_x15) ⟨rfl, rfl⟩ ⟨Nat.le_of_ble_eq_true rfl, Nat.le_of_ble_eq_true rfl⟩ ⟨Nat.le_of_ble_eq_true rfl, Nat.le_of_ble_eq_true rfl⟩ rfl rfl hl.1 (Nat.le_of_ble_eq_true rfl) dX11_ask_58 (fun x19 G9 H locs hq hB => ?_)
            obtain ⟨rfl, i_x19⟩ := hq
            refine iv_iand_l hx hb i_x9 (by decide) dX11_ask_61 (fun x20 e_x20 i_x20 => ?_)
            refine iv_cSi X k_good k_mf_J6_bitCount_0f7a4 k_st_J6_bitCount_0f7a4 k_ml_X11_288 hB (As := [.int x20]) (c_J6_bitCount_0f7a4 l D tys base G x20 (i_x20.wk (by decide))) ⟨rfl, rfl⟩ ⟨Nat.le_of_ble_eq_true rfl, Nat.le_of_ble_eq_true rfl⟩ ⟨Nat.le_of_ble_eq_true rfl, Nat.le_of_ble_eq_true rfl⟩ rfl rfl hl.1 (Nat.le_of_ble_eq_true rfl) dX11_ask_62 (fun x21 G9 H locs hq hB => ?_)
            obtain ⟨rfl, i_x21⟩ := hq
            refine lv_istore (lv' := [(6, .int x21), (5, .int x15), (4, .int x14), (3, .int x13), (2, .int x9), (0, .ref h0)]) hx hb dX11_ask_65 hl (by decide) rfl (fun ls hl => ?_)
            refine lv_iload hx hb dX11_ask_67 (lv_at hl 0 rfl) ?_
            refine lv_iload_n hx hb dX11_ask_69 rfl (lv_at hl 4 rfl) ?_
            refine iv_cSi X k_good k_mf_J6_bitCount_0f7a4 k_st_J6_bitCount_0f7a4 k_ml_X11_288 hB (As := [.int x9]) (c_J6_bitCount_0f7a4 l D tys base G x9 (i_x9.wk (by decide))) ⟨rfl, rfl⟩ ⟨Nat.le_of_ble_eq_true rfl, Nat.le_of_ble_eq_true rfl⟩ ⟨Nat.le_of_ble_eq_true rfl, Nat.le_of_ble_eq_true rfl⟩ rfl rfl hl.1 (Nat.le_of_ble_eq_true rfl) dX11_ask_70 (fun x22 G9 H locs hq hB => ?_)
            obtain ⟨rfl, i_x22⟩ := hq
            refine lv_iload hx hb dX11_ask_73 (lv_at hl 0 rfl) ?_
            refine iv_isub hx hb i_x22 i_x21 (lo := (-63)) (hi := 63) (by decide) dX11_ask_75 (fun x23 e_x23 i_x23 => ?_)
            refine iv_mmax X hl.1 k_mm_X11_300 ⟨Nat.le_of_ble_eq_true rfl, Nat.le_of_ble_eq_true rfl⟩ ⟨Nat.le_of_ble_eq_true rfl, Nat.le_of_ble_eq_true rfl⟩ i_x21 i_x23 (lo := 0) (hi := 63) (by decide) dX11_ask_76 (fun x24 e_x24 i_x24 => ?_)
            refine lv_istore (lv' := [(7, .int x24), (6, .int x21), (5, .int x15), (4, .int x14), (3, .int x13), (2, .int x9), (0, .ref h0)]) hx hb dX11_ask_79 hl (by decide) rfl (fun ls hl => ?_)
            refine lv_iload hx hb dX11_ask_81 (lv_at hl 0 rfl) ?_
            refine lv_iload hx hb dX11_ask_83 (lv_at hl 3 rfl) ?_
            refine lv_icmp_ge (tgt := 95) hx hb dX11_ask_85 (by decide) (fun c25 => ?_) (fun c25 => ?_)
            · skip
              refine iv_iinc hx hb i17_x15 (lo := 1) (hi := 24) (by decide) dX11_ask_95 hl (k := 2) rfl (by decide) (fun x26 ls e_x26 i_x26 hl => ?_)
              have hl : lv_has ls 8 [(5, .int x26), (7, .int x24), (6, .int x21), (4, .int x14), (3, .int x13), (2, .int x9), (0, .ref h0)] := hl
              refine lv_goto (tgt := 44) hx hb dX11_ask_98 (by decide) ?_
              exact ih_44 _ _ hB x13 i_x13 x14 i_x14 x26 (i_x26.wk (by decide)) (iv_mup (c := 1) i_x15 (by decide) (by decide) (by omega) hn_44) _ (lv_sub hl [0, 3, 4, 5, 6] rfl)
            · skip
              have i26_x24 : iv_R 0 10 x24 := (i_x24.cutHi (n := 10) (iv_lt_r (iv_nle c25) i_x14 (by decide)))
              have i27_x14 : iv_R 1 11 x14 := (i_x14.cutLo (n := 1) (iv_lt_l (iv_nle c25) i_x24 (by decide)))
              refine lv_iload hx hb dX11_ask_88 (lv_at hl 0 rfl) ?_
              refine lv_istore (lv' := [(4, .int x24), (7, .int x24), (6, .int x21), (5, .int x15), (3, .int x13), (2, .int x9), (0, .ref h0)]) hx hb dX11_ask_90 hl (by decide) rfl (fun ls hl => ?_)
              refine lv_iload hx hb dX11_ask_92 (lv_at hl 3 rfl) ?_
              refine lv_istore_n (lv' := [(3, .int x15), (4, .int x24), (7, .int x24), (6, .int x21), (5, .int x15), (2, .int x9), (0, .ref h0)]) hx hb dX11_ask_94 rfl hl (by decide) rfl (fun ls hl => ?_)
              refine iv_iinc hx hb i17_x15 (lo := 1) (hi := 24) (by decide) dX11_ask_95 hl (k := 4) rfl (by decide) (fun x29 ls e_x29 i_x29 hl => ?_)
              have hl : lv_has ls 8 [(5, .int x29), (3, .int x15), (4, .int x24), (7, .int x24), (6, .int x21), (2, .int x9), (0, .ref h0)] := hl
              refine lv_goto (tgt := 44) hx hb dX11_ask_98 (by decide) ?_
              exact ih_44 _ _ hB x15 (i17_x15.wk (by decide)) x24 (i26_x24.wk (by decide)) x29 (i_x29.wk (by decide)) (iv_mup (c := 1) i_x15 (by decide) (by decide) (by omega) hn_44) _ (lv_sub hl [0, 2, 1, 5, 6] rfl)
      exact L_44 _ _ _ hB (-1) (q_n1.wk (by decide)) 11 (q_11.wk (by decide)) 0 (q_0.wk (by decide)) (Nat.lt_succ_self _) _ (lv_sub hl [0, 1, 2, 3, 4] rfl)
    · skip
      have i29_x10 : iv_R 0 1 x10 := (i_x10.cutHi (n := 1) (iv_lt_r (iv_nle c11) q_2 (by decide)))
      refine lv_iconst (v := (-1)) hx hb dX11_ask_33 (by decide) ?_
      exact iv_iret X hr hlocks hB ⟨rfl, (q_n1.wk (by decide))⟩ dX11_ask_34
  · skip
    have i30_x3 : iv_R 0 0 x3 := (i_x3.cutHi (n := 0) (iv_eq_r c5 q_0).2)
    refine lv_iconst (v := (-1)) hx hb dX11_ask_14 (by decide) ?_
    exact iv_iret X hr hlocks hB ⟨rfl, (q_n1.wk (by decide))⟩ dX11_ask_15
theorem dX11_isHour_0 : decode cX11_isHour 0 = .ok (.iload_n 0, 1) := by decide +kernel
theorem dX11_isHour_1 : decode cX11_isHour 1 = .ok (.iconst 0, 1) := by decide +kernel
theorem dX11_isHour_2 : decode cX11_isHour 2 = .ok (.bipush 23, 2) := by decide +kernel
theorem dX11_isHour_4 : decode cX11_isHour 4 = .ok (.invokestatic 83, 3) := by decide +kernel
theorem dX11_isHour_7 : decode cX11_isHour 7 = .ok (.ireturn, 1) := by decide +kernel
set_option maxHeartbeats 4000000 in
set_option maxRecDepth 100000 in
theorem c_X11_isHour (l : Launch) (D : va_G) (tys : List (ClassId × FieldType)) (base : Nat) (G : iv_G) (x_0 : Int32) (i_x_0 : iv_R (-2147483648) 2147483647 x_0) : Met l yX11_isHour (Cond.code yX11_isHour cX11_isHour 1 (some .boolean) :: iv_W0) ({ frames := 1, cells := 0, slots := 0, locals := 22 }) (iv_Pc iv_sh D classes tys base G [.int x_0]) (iv_Qi iv_sh D classes tys base (fun v G' => G = G' ∧ iv_R 0 1 v ∧ (¬ v = 0 → iv_R 0 23 x_0))) 0 0 (iv_A base) := by
  refine iv_head (by decide) (Nat.le_of_ble_eq_true rfl) ?_
  intro p e s m args below meth c ls X hr hlocks hname hB hl
  have X := X
  have hx := X.1.1
  have hb := X.1.2.1
  have hl : lv_has ls 1 [(0, .int x_0)] := hl
  refine lv_iload_n hx hb dX11_isHour_0 rfl (lv_at hl 0 rfl) ?_
  refine lv_iconst (v := 0) hx hb dX11_isHour_1 (by decide) ?_
  refine lv_bipush (v := 23) hx hb dX11_isHour_2 (by decide) ?_
  refine iv_cSi X k_good k_mf_X11_isWithin k_st_X11_isWithin k_ml_X11_83 hB (As := [.int x_0, .int 0, .int 23]) (c_X11_isWithin l D tys base G x_0 i_x_0 0 (q_0.wk (by decide)) 23 (q_23.wk (by decide))) ⟨rfl, rfl⟩ ⟨Nat.le_of_ble_eq_true rfl, Nat.le_of_ble_eq_true rfl⟩ ⟨Nat.le_of_ble_eq_true rfl, Nat.le_of_ble_eq_true rfl⟩ rfl rfl hl.1 (Nat.le_of_ble_eq_true rfl) dX11_isHour_4 (fun x1 G9 H locs hq hB => ?_)
  obtain ⟨rfl, i_x1, hp2⟩ := hq
  have k3 : ¬ x1 = 0 → iv_R 0 23 x_0 := fun h => ⟨iv_max i_x_0.1 (Int.le_trans q_0.1 (hp2.1 h).1) (by decide), iv_min i_x_0.2 (Int.le_trans (hp2.1 h).2 q_23.2) (by decide)⟩
  exact iv_zret X hr hlocks hB i_x1 ⟨rfl, i_x1, fun h => (k3 h).wk (by decide)⟩ dX11_isHour_7
theorem dX11_astray_0 : decode cX11_astray 0 = .ok (.aload_n 0, 1) := by decide +kernel
theorem dX11_astray_1 : decode cX11_astray 1 = .ok (.getfield 12, 3) := by decide +kernel
theorem dX11_astray_4 : decode cX11_astray 4 = .ok (.iload_n 1, 1) := by decide +kernel
theorem dX11_astray_5 : decode cX11_astray 5 = .ok (.invokevirtual 119, 3) := by decide +kernel
theorem dX11_astray_8 : decode cX11_astray 8 = .ok (.ifCond .eq 22, 3) := by decide +kernel
theorem dX11_astray_11 : decode cX11_astray 11 = .ok (.iload_n 2, 1) := by decide +kernel
theorem dX11_astray_12 : decode cX11_astray 12 = .ok (.invokestatic 264, 3) := by decide +kernel
theorem dX11_astray_15 : decode cX11_astray 15 = .ok (.ifCond .eq 15, 3) := by decide +kernel
theorem dX11_astray_18 : decode cX11_astray 18 = .ok (.aload_n 0, 1) := by decide +kernel
theorem dX11_astray_19 : decode cX11_astray 19 = .ok (.getfield 12, 3) := by decide +kernel
theorem dX11_astray_22 : decode cX11_astray 22 = .ok (.iload_n 1, 1) := by decide +kernel
theorem dX11_astray_23 : decode cX11_astray 23 = .ok (.iload_n 2, 1) := by decide +kernel
theorem dX11_astray_24 : decode cX11_astray 24 = .ok (.invokevirtual 270, 3) := by decide +kernel
theorem dX11_astray_27 : decode cX11_astray 27 = .ok (.ifCond .ne 5, 3) := by decide +kernel
theorem dX11_astray_30 : decode cX11_astray 30 = .ok (.iconst (-1), 1) := by decide +kernel
theorem dX11_astray_31 : decode cX11_astray 31 = .ok (.ireturn, 1) := by decide +kernel
theorem dX11_astray_32 : decode cX11_astray 32 = .ok (.aload_n 0, 1) := by decide +kernel
theorem dX11_astray_33 : decode cX11_astray 33 = .ok (.getfield 42, 3) := by decide +kernel
theorem dX11_astray_36 : decode cX11_astray 36 = .ok (.iload_n 1, 1) := by decide +kernel
theorem dX11_astray_37 : decode cX11_astray 37 = .ok (.iload_n 2, 1) := by decide +kernel
theorem dX11_astray_38 : decode cX11_astray 38 = .ok (.invokevirtual 273, 3) := by decide +kernel
theorem dX11_astray_41 : decode cX11_astray 41 = .ok (.ireturn, 1) := by decide +kernel
set_option maxHeartbeats 4000000 in
set_option maxRecDepth 100000 in
theorem c_X11_astray (l : Launch) (D : va_G) (tys : List (ClassId × FieldType)) (base : Nat) (G : iv_G) (h0 : Nat) (g_h0 : Nat → Int32) (r_h0 : Nat → Nat) (a_h0 : G h0 = some (11, g_h0, r_h0)) (x_0 : Int32) (i_x_0 : iv_R (-2147483648) 2147483647 x_0) (x_1 : Int32) (i_x_1 : iv_R (-2147483648) 2147483647 x_1) : Met l yX11_astray (Cond.code yX11_astray cX11_astray 3 (some .int) :: iv_W0) ({ frames := 5, cells := 0, slots := 0, locals := 127 }) (iv_Pc iv_sh D classes tys base G [.ref h0, .int x_0, .int x_1]) (iv_Qi iv_sh D classes tys base (fun v G' => iv_Md [28, 30] G G' ∧ iv_R (-1) 9 v)) 0 0 (iv_A base) := by
  refine iv_head (by decide) (Nat.le_of_ble_eq_true rfl) ?_
  intro p e s m args below meth c ls X hr hlocks hname hB hl
  have X := X
  have hx := X.1.1
  have hb := X.1.2.1
  have hM : iv_Md [28, 30] G G := iv_Md.rf
  have hl : lv_has ls 3 [(0, .ref h0), (1, .int x_0), (2, .int x_1)] := hl
  refine lv_aload_n hx hb dX11_astray_0 rfl (lv_at hl 0 rfl) ?_
  refine iv_getr X ft_X11 hB a_h0 sh_11 0 (by decide) rfl k_fl_X11_12 dX11_astray_1 (fun b1 g_b1 r_b1 e_b1 a_b1 => ?_)
  refine lv_iload_n hx hb dX11_astray_4 rfl (lv_at hl 1 rfl) ?_
  refine iv_cVi X k_good k_mf_X5_hasBell k_im_X5_hasBell k_sel_X5_hasBell k_ml_X11_119 ft_X5 hB a_b1 sh_5 (As := [.int x_0]) (c_X5_hasBell l D tys base G b1 g_b1 r_b1 a_b1 x_0 i_x_0) ⟨rfl, rfl⟩ ⟨Nat.le_of_ble_eq_true rfl, Nat.le_of_ble_eq_true rfl⟩ ⟨Nat.le_of_ble_eq_true rfl, Nat.le_of_ble_eq_true rfl⟩ rfl rfl hl.1 (Nat.le_of_ble_eq_true rfl) dX11_astray_5 (fun x2 G9 H locs hq hB => ?_)
  obtain ⟨rfl, i_x2, hp3⟩ := hq
  refine lv_if_eq (tgt := 30) hx hb dX11_astray_8 (by decide) (fun c4 => ?_) (fun c4 => ?_)
  · skip
    have i4_x2 : iv_R 0 0 x2 := (i_x2.cutHi (n := 0) (iv_eq_r c4 q_0).2)
    refine lv_iconst (v := (-1)) hx hb dX11_astray_30 (by decide) ?_
    exact iv_iret X hr hlocks hB ⟨hM, (q_n1.wk (by decide))⟩ dX11_astray_31
  · skip
    have i5_x2 : iv_R 1 1 x2 := iv_ne_lo c4 i_x2 q_0 (by decide)
    have i6_x_0 : iv_R 0 9 x_0 := ((i_x_0.cutLo (n := 0) (hp3 c4).1).cutHi (n := 9) (hp3 c4).2)
    refine lv_iload_n hx hb dX11_astray_11 rfl (lv_at hl 2 rfl) ?_
    refine iv_cSi X k_good k_mf_X11_isHour k_st_X11_isHour k_ml_X11_264 hB (As := [.int x_1]) (c_X11_isHour l D tys base G x_1 i_x_1) ⟨rfl, rfl⟩ ⟨Nat.le_of_ble_eq_true rfl, Nat.le_of_ble_eq_true rfl⟩ ⟨Nat.le_of_ble_eq_true rfl, Nat.le_of_ble_eq_true rfl⟩ rfl rfl hl.1 (Nat.le_of_ble_eq_true rfl) dX11_astray_12 (fun x8 G9 H locs hq hB => ?_)
    obtain ⟨rfl, i_x8, hp9⟩ := hq
    refine lv_if_eq (tgt := 30) hx hb dX11_astray_15 (by decide) (fun c10 => ?_) (fun c10 => ?_)
    · skip
      have i10_x8 : iv_R 0 0 x8 := (i_x8.cutHi (n := 0) (iv_eq_r c10 q_0).2)
      refine lv_iconst (v := (-1)) hx hb dX11_astray_30 (by decide) ?_
      exact iv_iret X hr hlocks hB ⟨hM, (q_n1.wk (by decide))⟩ dX11_astray_31
    · skip
      have i11_x8 : iv_R 1 1 x8 := iv_ne_lo c10 i_x8 q_0 (by decide)
      have i12_x_1 : iv_R 0 23 x_1 := ((i_x_1.cutLo (n := 0) (hp9 c10).1).cutHi (n := 23) (hp9 c10).2)
      refine lv_aload_n hx hb dX11_astray_18 rfl (lv_at hl 0 rfl) ?_
      refine iv_getr0 X ft_X11 hB a_h0 sh_11 0 (by decide) rfl k_fl_X11_12 dX11_astray_19 e_b1 ?_
      refine lv_iload_n hx hb dX11_astray_22 rfl (lv_at hl 1 rfl) ?_
      refine lv_iload_n hx hb dX11_astray_23 rfl (lv_at hl 2 rfl) ?_
      refine iv_cVi X k_good k_mf_X5_soundsAt k_im_X5_soundsAt k_sel_X5_soundsAt k_ml_X11_270 ft_X5 hB a_b1 sh_5 (As := [.int x_0, .int x_1]) (c_X5_soundsAt l D tys base G b1 g_b1 r_b1 a_b1 x_0 i6_x_0 x_1 i12_x_1) ⟨rfl, rfl⟩ ⟨Nat.le_of_ble_eq_true rfl, Nat.le_of_ble_eq_true rfl⟩ ⟨Nat.le_of_ble_eq_true rfl, Nat.le_of_ble_eq_true rfl⟩ rfl rfl hl.1 (Nat.le_of_ble_eq_true rfl) dX11_astray_24 (fun x14 G9 H locs hq hB => ?_)
      obtain ⟨rfl, i_x14⟩ := hq
      refine lv_if_ne (tgt := 32) hx hb dX11_astray_27 (by decide) (fun c15 => ?_) (fun c15 => ?_)
      · skip
        have i15_x14 : iv_R 1 1 x14 := iv_ne_lo c15 i_x14 q_0 (by decide)
        refine lv_aload_n hx hb dX11_astray_32 rfl (lv_at hl 0 rfl) ?_
        refine iv_getr X ft_X11 hB a_h0 sh_11 7 (by decide) rfl k_fl_X11_42 dX11_astray_33 (fun b17 g_b17 r_b17 e_b17 a_b17 => ?_)
        refine lv_iload_n hx hb dX11_astray_36 rfl (lv_at hl 1 rfl) ?_
        refine lv_iload_n hx hb dX11_astray_37 rfl (lv_at hl 2 rfl) ?_
        refine iv_cVi X k_good k_mf_X2_calledTo k_im_X2_calledTo k_sel_X2_calledTo k_ml_X11_273 ft_X2 hB a_b17 sh_2 (As := [.int x_0, .int x_1]) (c_X2_calledTo l D tys base G b17 g_b17 r_b17 a_b17 x_0 i6_x_0 x_1 i12_x_1) ⟨rfl, rfl⟩ ⟨Nat.le_of_ble_eq_true rfl, Nat.le_of_ble_eq_true rfl⟩ ⟨Nat.le_of_ble_eq_true rfl, Nat.le_of_ble_eq_true rfl⟩ rfl rfl hl.1 (Nat.le_of_ble_eq_true rfl) dX11_astray_38 (fun x18 G9 H locs hq hB => ?_)
        obtain ⟨hm, i_x18⟩ := hq
        obtain ⟨G19, hG9⟩ : ∃ g, g = G9 := ⟨_, rfl⟩
        rw [← hG9] at hm hB
        have hM := hM.stp hm (by decide)
        have a_h0 := hm.at a_h0 (by decide)
        exact iv_iret X hr hlocks hB ⟨hM, (i_x18.wk (by decide))⟩ dX11_astray_41
      · skip
        have i19_x14 : iv_R 0 0 x14 := (i_x14.cutHi (n := 0) (iv_eq_r c15 q_0).2)
        refine lv_iconst (v := (-1)) hx hb dX11_astray_30 (by decide) ?_
        exact iv_iret X hr hlocks hB ⟨hM, (q_n1.wk (by decide))⟩ dX11_astray_31
set_option maxHeartbeats 4000000 in
set_option maxRecDepth 100000 in
theorem c_X8_at_13 (l : Launch) (D : va_G) (tys : List (ClassId × FieldType)) (base : Nat) (G : iv_G) (h0 : Nat) (g_h0 : Nat → Int32) (r_h0 : Nat → Nat) (a_h0 : G h0 = some (13, g_h0, r_h0)) (x_0 : Int32) (i_x_0 : iv_R 0 119 x_0) (x_1 : Int32) (i_x_1 : iv_R 0 3 x_1) : Met l yX8_at (Cond.code yX8_at cX8_at 3 (some .int) :: iv_W0) ({ frames := 1, cells := 0, slots := 0, locals := 22 }) (iv_Pc iv_sh D classes tys base G [.ref h0, .int x_0, .int x_1]) (iv_Qi iv_sh D classes tys base (fun v G' => G = G' ∧ iv_R (-2147483648) 2147483647 v)) 0 0 (iv_A base) := by
  refine iv_head (by decide) (Nat.le_of_ble_eq_true rfl) ?_
  intro p e s m args below meth c ls X hr hlocks hname hB hl
  have X := X
  have hx := X.1.1
  have hb := X.1.2.1
  have hl : lv_has ls 3 [(0, .ref h0), (1, .int x_0), (2, .int x_1)] := hl
  refine lv_aload_n hx hb dX8_at_0 rfl (lv_at hl 0 rfl) ?_
  refine lv_iload_n hx hb dX8_at_1 rfl (lv_at hl 1 rfl) ?_
  refine iv_cVi X k_good k_mf_X8_has k_im_X8_has k_sel_X8_has k_ml_X8_22 ft_X8 hB a_h0 sh_13 (As := [.int x_0]) (c_X8_has_13 l D tys base G h0 g_h0 r_h0 a_h0 x_0 (i_x_0.wk (by decide))) ⟨rfl, rfl⟩ ⟨Nat.le_of_ble_eq_true rfl, Nat.le_of_ble_eq_true rfl⟩ ⟨Nat.le_of_ble_eq_true rfl, Nat.le_of_ble_eq_true rfl⟩ rfl rfl hl.1 (Nat.le_of_ble_eq_true rfl) dX8_at_2 (fun x1 G9 H locs hq hB => ?_)
  obtain ⟨rfl, i_x1, hp2⟩ := hq
  refine lv_if_eq (tgt := 38) hx hb dX8_at_5 (by decide) (fun c3 => ?_) (fun c3 => ?_)
  · skip
    have i3_x1 : iv_R 0 0 x1 := (i_x1.cutHi (n := 0) (iv_eq_r c3 q_0).2)
    refine lv_iconst (v := (-1)) hx hb dX8_at_38 (by decide) ?_
    exact iv_iret X hr hlocks hB ⟨rfl, (q_n1.wk (by decide))⟩ dX8_at_39
  · skip
    have i4_x1 : iv_R 1 1 x1 := iv_ne_lo c3 i_x1 q_0 (by decide)
    refine lv_iload_n hx hb dX8_at_8 rfl (lv_at hl 2 rfl) ?_
    refine lv_iconst (v := 0) hx hb dX8_at_9 (by decide) ?_
    refine lv_aload_n hx hb dX8_at_10 rfl (lv_at hl 0 rfl) ?_
    refine iv_geti X ft_X8 hB a_h0 sh_13 0 (by decide) rfl k_fl_X8_9 dX8_at_11 (fun x6 e_x6 i_x6 => ?_)
    refine lv_iconst (v := 1) hx hb dX8_at_14 (by decide) ?_
    refine iv_isub hx hb i_x6 q_1 (lo := 3) (hi := 3) (by decide) dX8_at_15 (fun x7 e_x7 i_x7 => ?_)
    refine iv_cSNi X k_good k_mf_X11_isWithin k_st_X11_isWithin (k_mn_X8_26 X.2.2) hB (As := [.int x_1, .int 0, .int x7]) (c_X11_isWithin l D tys base G x_1 (i_x_1.wk (by decide)) 0 (q_0.wk (by decide)) x7 (i_x7.wk (by decide))) ⟨rfl, rfl⟩ ⟨Nat.le_of_ble_eq_true rfl, Nat.le_of_ble_eq_true rfl⟩ ⟨Nat.le_of_ble_eq_true rfl, Nat.le_of_ble_eq_true rfl⟩ rfl rfl hl.1 (Nat.le_of_ble_eq_true rfl) dX8_at_16 (fun x8 G9 H locs hq hB => ?_)
    obtain ⟨rfl, i_x8, hp9⟩ := hq
    have k10 : ¬ x8 = 0 → iv_R 0 3 x_1 := fun h => ⟨iv_max i_x_1.1 (Int.le_trans q_0.1 (hp9.1 h).1) (by decide), iv_min i_x_1.2 (Int.le_trans (hp9.1 h).2 i_x7.2) (by decide)⟩
    refine lv_if_eq (tgt := 38) hx hb dX8_at_19 (by decide) (fun c11 => ?_) (fun c11 => ?_)
    · skip
      have i11_x8 : iv_R 0 0 x8 := (i_x8.cutHi (n := 0) (iv_eq_r c11 q_0).2)
      refine lv_iconst (v := (-1)) hx hb dX8_at_38 (by decide) ?_
      exact iv_iret X hr hlocks hB ⟨rfl, (q_n1.wk (by decide))⟩ dX8_at_39
    · skip
      have i12_x8 : iv_R 1 1 x8 := iv_ne_lo c11 i_x8 q_0 (by decide)
      refine lv_aload_n hx hb dX8_at_22 rfl (lv_at hl 0 rfl) ?_
      refine iv_getr X ft_X8 hB a_h0 sh_13 1 (by decide) rfl k_fl_X8_15 dX8_at_23 (fun b14 g_b14 r_b14 e_b14 a_b14 => ?_)
      refine lv_iload_n hx hb dX8_at_26 rfl (lv_at hl 1 rfl) ?_
      refine lv_aload_n hx hb dX8_at_27 rfl (lv_at hl 0 rfl) ?_
      refine iv_geti0 X ft_X8 hB a_h0 sh_13 0 (by decide) rfl k_fl_X8_9 dX8_at_28 e_x6 ?_
      refine iv_imul hx hb i_x_0 i_x6 (lo := 0) (hi := 476) (by decide) dX8_at_31 (fun x15 e_x15 i_x15 => ?_)
      refine lv_iload_n hx hb dX8_at_32 rfl (lv_at hl 2 rfl) ?_
      refine iv_iadd hx hb i_x15 i_x_1 (lo := 0) (hi := 479) (by decide) dX8_at_33 (fun x16 e_x16 i_x16 => ?_)
      refine iv_ald X hB a_b14 sh_23 (iv_in i_x16 (by decide)) dX8_at_34 (fun x17 e_x17 i_x17 => ?_)
      refine lv_goto (tgt := 39) hx hb dX8_at_35 (by decide) ?_
      exact iv_iret X hr hlocks hB ⟨rfl, i_x17⟩ dX8_at_39
theorem dX11_book_0 : decode cX11_book 0 = .ok (.aload_n 0, 1) := by decide +kernel
theorem dX11_book_1 : decode cX11_book 1 = .ok (.getfield 12, 3) := by decide +kernel
theorem dX11_book_4 : decode cX11_book 4 = .ok (.getfield 137, 3) := by decide +kernel
theorem dX11_book_7 : decode cX11_book 7 = .ok (.iload_n 1, 1) := by decide +kernel
theorem dX11_book_8 : decode cX11_book 8 = .ok (.invokevirtual 155, 3) := by decide +kernel
theorem dX11_book_11 : decode cX11_book 11 = .ok (.ifCond .eq 27, 3) := by decide +kernel
theorem dX11_book_14 : decode cX11_book 14 = .ok (.iload_n 2, 1) := by decide +kernel
theorem dX11_book_15 : decode cX11_book 15 = .ok (.iconst 0, 1) := by decide +kernel
theorem dX11_book_16 : decode cX11_book 16 = .ok (.iconst 3, 1) := by decide +kernel
theorem dX11_book_17 : decode cX11_book 17 = .ok (.invokestatic 83, 3) := by decide +kernel
theorem dX11_book_20 : decode cX11_book 20 = .ok (.ifCond .eq 18, 3) := by decide +kernel
theorem dX11_book_23 : decode cX11_book 23 = .ok (.aload_n 0, 1) := by decide +kernel
theorem dX11_book_24 : decode cX11_book 24 = .ok (.getfield 12, 3) := by decide +kernel
theorem dX11_book_27 : decode cX11_book 27 = .ok (.getfield 137, 3) := by decide +kernel
theorem dX11_book_30 : decode cX11_book 30 = .ok (.iload_n 1, 1) := by decide +kernel
theorem dX11_book_31 : decode cX11_book 31 = .ok (.iload_n 2, 1) := by decide +kernel
theorem dX11_book_32 : decode cX11_book 32 = .ok (.invokevirtual 158, 3) := by decide +kernel
theorem dX11_book_35 : decode cX11_book 35 = .ok (.goto 5, 3) := by decide +kernel
theorem dX11_book_38 : decode cX11_book 38 = .ok (.bipush (-2), 2) := by decide +kernel
theorem dX11_book_40 : decode cX11_book 40 = .ok (.ireturn, 1) := by decide +kernel
set_option maxHeartbeats 4000000 in
set_option maxRecDepth 100000 in
theorem c_X11_book (l : Launch) (D : va_G) (tys : List (ClassId × FieldType)) (base : Nat) (G : iv_G) (h0 : Nat) (g_h0 : Nat → Int32) (r_h0 : Nat → Nat) (a_h0 : G h0 = some (11, g_h0, r_h0)) (x_0 : Int32) (i_x_0 : iv_R (-2147483648) 2147483647 x_0) (x_1 : Int32) (i_x_1 : iv_R (-2147483648) 2147483647 x_1) : Met l yX11_book (Cond.code yX11_book cX11_book 3 (some .int) :: iv_W0) ({ frames := 2, cells := 0, slots := 0, locals := 44 }) (iv_Pc iv_sh D classes tys base G [.ref h0, .int x_0, .int x_1]) (iv_Qi iv_sh D classes tys base (fun v G' => G = G' ∧ iv_R (-2147483648) 2147483647 v)) 0 0 (iv_A base) := by
  refine iv_head (by decide) (Nat.le_of_ble_eq_true rfl) ?_
  intro p e s m args below meth c ls X hr hlocks hname hB hl
  have X := X
  have hx := X.1.1
  have hb := X.1.2.1
  have hl : lv_has ls 3 [(0, .ref h0), (1, .int x_0), (2, .int x_1)] := hl
  refine lv_aload_n hx hb dX11_book_0 rfl (lv_at hl 0 rfl) ?_
  refine iv_getr X ft_X11 hB a_h0 sh_11 0 (by decide) rfl k_fl_X11_12 dX11_book_1 (fun b1 g_b1 r_b1 e_b1 a_b1 => ?_)
  refine iv_getr X ft_X5 hB a_b1 sh_5 9 (by decide) rfl k_fl_X11_137 dX11_book_4 (fun b2 g_b2 r_b2 e_b2 a_b2 => ?_)
  refine lv_iload_n hx hb dX11_book_7 rfl (lv_at hl 1 rfl) ?_
  refine iv_cVi X k_good k_mf_X8_has k_im_X8_has k_sel_X8_has k_ml_X11_155 ft_X8 hB a_b2 sh_13 (As := [.int x_0]) (c_X8_has_13 l D tys base G b2 g_b2 r_b2 a_b2 x_0 i_x_0) ⟨rfl, rfl⟩ ⟨Nat.le_of_ble_eq_true rfl, Nat.le_of_ble_eq_true rfl⟩ ⟨Nat.le_of_ble_eq_true rfl, Nat.le_of_ble_eq_true rfl⟩ rfl rfl hl.1 (Nat.le_of_ble_eq_true rfl) dX11_book_8 (fun x3 G9 H locs hq hB => ?_)
  obtain ⟨rfl, i_x3, hp4⟩ := hq
  refine lv_if_eq (tgt := 38) hx hb dX11_book_11 (by decide) (fun c5 => ?_) (fun c5 => ?_)
  · skip
    have i5_x3 : iv_R 0 0 x3 := (i_x3.cutHi (n := 0) (iv_eq_r c5 q_0).2)
    refine lv_bipush (v := (-2)) hx hb dX11_book_38 (by decide) ?_
    exact iv_iret X hr hlocks hB ⟨rfl, (q_n2.wk (by decide))⟩ dX11_book_40
  · skip
    have i6_x3 : iv_R 1 1 x3 := iv_ne_lo c5 i_x3 q_0 (by decide)
    have i7_x_0 : iv_R 0 119 x_0 := ((i_x_0.cutLo (n := 0) (hp4 c5).1).cutHi (n := 119) (hp4 c5).2)
    refine lv_iload_n hx hb dX11_book_14 rfl (lv_at hl 2 rfl) ?_
    refine lv_iconst (v := 0) hx hb dX11_book_15 (by decide) ?_
    refine lv_iconst (v := 3) hx hb dX11_book_16 (by decide) ?_
    refine iv_cSi X k_good k_mf_X11_isWithin k_st_X11_isWithin k_ml_X11_83 hB (As := [.int x_1, .int 0, .int 3]) (c_X11_isWithin l D tys base G x_1 i_x_1 0 (q_0.wk (by decide)) 3 (q_3.wk (by decide))) ⟨rfl, rfl⟩ ⟨Nat.le_of_ble_eq_true rfl, Nat.le_of_ble_eq_true rfl⟩ ⟨Nat.le_of_ble_eq_true rfl, Nat.le_of_ble_eq_true rfl⟩ rfl rfl hl.1 (Nat.le_of_ble_eq_true rfl) dX11_book_17 (fun x9 G9 H locs hq hB => ?_)
    obtain ⟨rfl, i_x9, hp10⟩ := hq
    have k11 : ¬ x9 = 0 → iv_R 0 3 x_1 := fun h => ⟨iv_max i_x_1.1 (Int.le_trans q_0.1 (hp10.1 h).1) (by decide), iv_min i_x_1.2 (Int.le_trans (hp10.1 h).2 q_3.2) (by decide)⟩
    refine lv_if_eq (tgt := 38) hx hb dX11_book_20 (by decide) (fun c12 => ?_) (fun c12 => ?_)
    · skip
      have i12_x9 : iv_R 0 0 x9 := (i_x9.cutHi (n := 0) (iv_eq_r c12 q_0).2)
      refine lv_bipush (v := (-2)) hx hb dX11_book_38 (by decide) ?_
      exact iv_iret X hr hlocks hB ⟨rfl, (q_n2.wk (by decide))⟩ dX11_book_40
    · skip
      have i13_x9 : iv_R 1 1 x9 := iv_ne_lo c12 i_x9 q_0 (by decide)
      have i14_x_1 : iv_R 0 3 x_1 := ((i_x_1.cutLo (n := 0) (k11 c12).1).cutHi (n := 3) (k11 c12).2)
      refine lv_aload_n hx hb dX11_book_23 rfl (lv_at hl 0 rfl) ?_
      refine iv_getr0 X ft_X11 hB a_h0 sh_11 0 (by decide) rfl k_fl_X11_12 dX11_book_24 e_b1 ?_
      refine iv_getr0 X ft_X5 hB a_b1 sh_5 9 (by decide) rfl k_fl_X11_137 dX11_book_27 e_b2 ?_
      refine lv_iload_n hx hb dX11_book_30 rfl (lv_at hl 1 rfl) ?_
      refine lv_iload_n hx hb dX11_book_31 rfl (lv_at hl 2 rfl) ?_
      refine iv_cVi X k_good k_mf_X8_at k_im_X8_at k_sel_X8_at k_ml_X11_158 ft_X8 hB a_b2 sh_13 (As := [.int x_0, .int x_1]) (c_X8_at_13 l D tys base G b2 g_b2 r_b2 a_b2 x_0 i7_x_0 x_1 i14_x_1) ⟨rfl, rfl⟩ ⟨Nat.le_of_ble_eq_true rfl, Nat.le_of_ble_eq_true rfl⟩ ⟨Nat.le_of_ble_eq_true rfl, Nat.le_of_ble_eq_true rfl⟩ rfl rfl hl.1 (Nat.le_of_ble_eq_true rfl) dX11_book_32 (fun x16 G9 H locs hq hB => ?_)
      obtain ⟨rfl, i_x16⟩ := hq
      refine lv_goto (tgt := 40) hx hb dX11_book_35 (by decide) ?_
      exact iv_iret X hr hlocks hB ⟨rfl, i_x16⟩ dX11_book_40
